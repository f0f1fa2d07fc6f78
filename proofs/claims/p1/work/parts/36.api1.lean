set_option maxHeartbeats 4000000 in
set_option maxRecDepth 100000 in
theorem f_X11_errorCode (G : EnvG) (l : Launch) (Φ : Hm) (sz : Nat) (x : Nat) (hc0_ : Φ x = some (o_ 13 [.ref (x + 1), .ref (x + 3), .ref (x + 24), .ref (x + 46), .ref (x + 74), .ref (x + 80), .ref (x + 132), .ref (x + 121)])) (hc24_ : Φ (x + 24) = some (o_ 8 [.ref (x + 25), .int 0, .int (-1), .ref (x + 1), .int 0, .int 0, .int 0, .int 0])) : Ct G l yX11_errorCode wsX11_errorCode ({ frames := 0, cells := 0, slots := 0, locals := 0 }) 0 0 [.ref x] Φ sz (fun v Φ1 sz1 => v = some (.int 0) ∧ ∀ b9 : Nat, x + 149 ≤ b9 → Φ1 b9 = Φ b9) := by
  refine Ct.of (cc := cX11_errorCode) (maxL := 1) (ret := (some .int)) (by decide) rfl (Nat.le_of_ble_eq_true rfl) ?_
  intro p9 e9 s9 m9 w9 t9 k9 B
  show Z p9 l e9 _ s9 m9 _ w9 t9 k9 _ G 1 0 [(0, .ref x)] [] Φ sz 0 0
  refine z_aload_n B dX11_errorCode_0 rfl 0 rfl ?_
  refine z_get (ref := "FlowExporter") (C := RX11) (T := TX11) (N := 8) (ci := 13) (v := .ref (x + 24)) B (by decide +kernel) rfl 2 (by decide) (by decide +kernel) rfl hc0_ rfl dX11_errorCode_1 ?_
  refine z_get (ref := "FlowExporter$Parser") (C := RX6) (T := TX6) (N := 8) (ci := 8) (v := .int 0) B (by decide +kernel) rfl 1 (by decide) (by decide +kernel) rfl hc24_ rfl dX11_errorCode_4 ?_
  exact z_ret_i B dX11_errorCode_7 ⟨rfl, fun b9 h9 => rfl⟩

set_option maxHeartbeats 4000000 in
set_option maxRecDepth 100000 in
theorem f_X11_errorPosition (G : EnvG) (l : Launch) (Φ : Hm) (sz : Nat) (x : Nat) (hc0_ : Φ x = some (o_ 13 [.ref (x + 1), .ref (x + 3), .ref (x + 24), .ref (x + 46), .ref (x + 74), .ref (x + 80), .ref (x + 132), .ref (x + 121)])) (hc24_ : Φ (x + 24) = some (o_ 8 [.ref (x + 25), .int 0, .int (-1), .ref (x + 1), .int 0, .int 0, .int 0, .int 0])) : Ct G l yX11_errorPosition wsX11_errorPosition ({ frames := 0, cells := 0, slots := 0, locals := 0 }) 0 0 [.ref x] Φ sz (fun v Φ1 sz1 => v = some (.int (-1)) ∧ ∀ b9 : Nat, x + 149 ≤ b9 → Φ1 b9 = Φ b9) := by
  refine Ct.of (cc := cX11_errorPosition) (maxL := 1) (ret := (some .int)) (by decide) rfl (Nat.le_of_ble_eq_true rfl) ?_
  intro p9 e9 s9 m9 w9 t9 k9 B
  show Z p9 l e9 _ s9 m9 _ w9 t9 k9 _ G 1 0 [(0, .ref x)] [] Φ sz 0 0
  refine z_aload_n B dX11_errorPosition_0 rfl 0 rfl ?_
  refine z_get (ref := "FlowExporter") (C := RX11) (T := TX11) (N := 8) (ci := 13) (v := .ref (x + 24)) B (by decide +kernel) rfl 2 (by decide) (by decide +kernel) rfl hc0_ rfl dX11_errorPosition_1 ?_
  refine z_get (ref := "FlowExporter$Parser") (C := RX6) (T := TX6) (N := 8) (ci := 8) (v := .int (-1)) B (by decide +kernel) rfl 2 (by decide) (by decide +kernel) rfl hc24_ rfl dX11_errorPosition_4 ?_
  exact z_ret_i B dX11_errorPosition_7 ⟨rfl, fun b9 h9 => rfl⟩

set_option maxHeartbeats 4000000 in
set_option maxRecDepth 100000 in
theorem f_X11_now (G : EnvG) (l : Launch) (Φ : Hm) (sz : Nat) (x : Nat) (hc0_ : Φ x = some (o_ 13 [.ref (x + 1), .ref (x + 3), .ref (x + 24), .ref (x + 46), .ref (x + 74), .ref (x + 80), .ref (x + 132), .ref (x + 121)])) (hc80_ : Φ (x + 80) = some (o_ 4 [.ref (x + 3), .ref (x + 74), .ref (x + 81), .ref (x + 95), .int 0, .int 1, .int 1, .int 0, .int 0, .int 0, .long 0, .long 0, .long 0])) : Ct G l yX11_now wsX11_now ({ frames := 0, cells := 0, slots := 0, locals := 0 }) 0 0 [.ref x] Φ sz (fun v Φ1 sz1 => v = some (.int 0) ∧ ∀ b9 : Nat, x + 149 ≤ b9 → Φ1 b9 = Φ b9) := by
  refine Ct.of (cc := cX11_now) (maxL := 1) (ret := (some .int)) (by decide) rfl (Nat.le_of_ble_eq_true rfl) ?_
  intro p9 e9 s9 m9 w9 t9 k9 B
  show Z p9 l e9 _ s9 m9 _ w9 t9 k9 _ G 1 0 [(0, .ref x)] [] Φ sz 0 0
  refine z_aload_n B dX11_now_0 rfl 0 rfl ?_
  refine z_get (ref := "FlowExporter") (C := RX11) (T := TX11) (N := 8) (ci := 13) (v := .ref (x + 80)) B (by decide +kernel) rfl 5 (by decide) (by decide +kernel) rfl hc0_ rfl dX11_now_1 ?_
  refine z_get (ref := "FlowExporter$Exporter") (C := RX2) (T := TX2) (N := 13) (ci := 4) (v := .int 0) B (by decide +kernel) rfl 4 (by decide) (by decide +kernel) rfl hc80_ rfl dX11_now_4 ?_
  exact z_ret_i B dX11_now_7 ⟨rfl, fun b9 h9 => rfl⟩

set_option maxHeartbeats 4000000 in
set_option maxRecDepth 100000 in
theorem f_X11_cacheSize (G : EnvG) (l : Launch) (Φ : Hm) (sz : Nat) (x : Nat) (hc0_ : Φ x = some (o_ 13 [.ref (x + 1), .ref (x + 3), .ref (x + 24), .ref (x + 46), .ref (x + 74), .ref (x + 80), .ref (x + 132), .ref (x + 121)])) (hc80_ : Φ (x + 80) = some (o_ 4 [.ref (x + 3), .ref (x + 74), .ref (x + 81), .ref (x + 95), .int 0, .int 1, .int 1, .int 0, .int 0, .int 0, .long 0, .long 0, .long 0])) (hc81_ : Φ (x + 81) = some (o_ 6 [.ref (x + 82), .int 0])) : Ct G l yX11_cacheSize wsX11_cacheSize ({ frames := 0, cells := 0, slots := 0, locals := 0 }) 0 0 [.ref x] Φ sz (fun v Φ1 sz1 => v = some (.int 0) ∧ ∀ b9 : Nat, x + 149 ≤ b9 → Φ1 b9 = Φ b9) := by
  refine Ct.of (cc := cX11_cacheSize) (maxL := 1) (ret := (some .int)) (by decide) rfl (Nat.le_of_ble_eq_true rfl) ?_
  intro p9 e9 s9 m9 w9 t9 k9 B
  show Z p9 l e9 _ s9 m9 _ w9 t9 k9 _ G 1 0 [(0, .ref x)] [] Φ sz 0 0
  refine z_aload_n B dX11_cacheSize_0 rfl 0 rfl ?_
  refine z_get (ref := "FlowExporter") (C := RX11) (T := TX11) (N := 8) (ci := 13) (v := .ref (x + 80)) B (by decide +kernel) rfl 5 (by decide) (by decide +kernel) rfl hc0_ rfl dX11_cacheSize_1 ?_
  refine z_get (ref := "FlowExporter$Exporter") (C := RX2) (T := TX2) (N := 13) (ci := 4) (v := .ref (x + 81)) B (by decide +kernel) rfl 2 (by decide) (by decide +kernel) rfl hc80_ rfl dX11_cacheSize_4 ?_
  refine z_get (ref := "FlowExporter$FlowTable") (C := RX4) (T := TX4) (N := 2) (ci := 6) (v := .int 0) B (by decide +kernel) rfl 1 (by decide) (by decide +kernel) rfl hc81_ rfl dX11_cacheSize_7 ?_
  exact z_ret_i B dX11_cacheSize_10 ⟨rfl, fun b9 h9 => rfl⟩

set_option maxHeartbeats 4000000 in
set_option maxRecDepth 100000 in
theorem f_X11_rate (G : EnvG) (l : Launch) (Φ : Hm) (sz : Nat) (x : Nat) (hc0_ : Φ x = some (o_ 13 [.ref (x + 1), .ref (x + 3), .ref (x + 24), .ref (x + 46), .ref (x + 74), .ref (x + 80), .ref (x + 132), .ref (x + 121)])) (hc80_ : Φ (x + 80) = some (o_ 4 [.ref (x + 3), .ref (x + 74), .ref (x + 81), .ref (x + 95), .int 0, .int 1, .int 1, .int 0, .int 0, .int 0, .long 0, .long 0, .long 0])) : Ct G l yX11_rate wsX11_rate ({ frames := 0, cells := 0, slots := 0, locals := 0 }) 0 0 [.ref x] Φ sz (fun v Φ1 sz1 => v = some (.int 1) ∧ ∀ b9 : Nat, x + 149 ≤ b9 → Φ1 b9 = Φ b9) := by
  refine Ct.of (cc := cX11_rate) (maxL := 1) (ret := (some .int)) (by decide) rfl (Nat.le_of_ble_eq_true rfl) ?_
  intro p9 e9 s9 m9 w9 t9 k9 B
  show Z p9 l e9 _ s9 m9 _ w9 t9 k9 _ G 1 0 [(0, .ref x)] [] Φ sz 0 0
  refine z_aload_n B dX11_rate_0 rfl 0 rfl ?_
  refine z_get (ref := "FlowExporter") (C := RX11) (T := TX11) (N := 8) (ci := 13) (v := .ref (x + 80)) B (by decide +kernel) rfl 5 (by decide) (by decide +kernel) rfl hc0_ rfl dX11_rate_1 ?_
  refine z_get (ref := "FlowExporter$Exporter") (C := RX2) (T := TX2) (N := 13) (ci := 4) (v := .int 1) B (by decide +kernel) rfl 5 (by decide) (by decide +kernel) rfl hc80_ rfl dX11_rate_4 ?_
  exact z_ret_i B dX11_rate_7 ⟨rfl, fun b9 h9 => rfl⟩

set_option maxHeartbeats 4000000 in
set_option maxRecDepth 100000 in
theorem f_X11_templateCount (G : EnvG) (l : Launch) (Φ : Hm) (sz : Nat) (x : Nat) (hc0_ : Φ x = some (o_ 13 [.ref (x + 1), .ref (x + 3), .ref (x + 24), .ref (x + 46), .ref (x + 74), .ref (x + 80), .ref (x + 132), .ref (x + 121)])) (hc3_ : Φ (x + 3) = some (o_ 3 [.ref (x + 4), .ref (x + 5), .ref (x + 6), .ref (x + 7), .int 1, .int 511])) : Ct G l yX11_templateCount wsX11_templateCount ({ frames := 0, cells := 0, slots := 0, locals := 0 }) 0 0 [.ref x] Φ sz (fun v Φ1 sz1 => v = some (.int 1) ∧ ∀ b9 : Nat, x + 149 ≤ b9 → Φ1 b9 = Φ b9) := by
  refine Ct.of (cc := cX11_templateCount) (maxL := 1) (ret := (some .int)) (by decide) rfl (Nat.le_of_ble_eq_true rfl) ?_
  intro p9 e9 s9 m9 w9 t9 k9 B
  show Z p9 l e9 _ s9 m9 _ w9 t9 k9 _ G 1 0 [(0, .ref x)] [] Φ sz 0 0
  refine z_aload_n B dX11_templateCount_0 rfl 0 rfl ?_
  refine z_get (ref := "FlowExporter") (C := RX11) (T := TX11) (N := 8) (ci := 13) (v := .ref (x + 3)) B (by decide +kernel) rfl 1 (by decide) (by decide +kernel) rfl hc0_ rfl dX11_templateCount_1 ?_
  refine z_get (ref := "FlowExporter$Config") (C := RX1) (T := TX1) (N := 6) (ci := 3) (v := .int 1) B (by decide +kernel) rfl 4 (by decide) (by decide +kernel) rfl hc3_ rfl dX11_templateCount_4 ?_
  exact z_ret_i B dX11_templateCount_7 ⟨rfl, fun b9 h9 => rfl⟩

set_option maxHeartbeats 4000000 in
set_option maxRecDepth 100000 in
theorem f_X11_observed (G : EnvG) (l : Launch) (Φ : Hm) (sz : Nat) (x : Nat) (hc0_ : Φ x = some (o_ 13 [.ref (x + 1), .ref (x + 3), .ref (x + 24), .ref (x + 46), .ref (x + 74), .ref (x + 80), .ref (x + 132), .ref (x + 121)])) (hc80_ : Φ (x + 80) = some (o_ 4 [.ref (x + 3), .ref (x + 74), .ref (x + 81), .ref (x + 95), .int 0, .int 1, .int 1, .int 0, .int 0, .int 0, .long 0, .long 0, .long 0])) : Ct G l yX11_observed wsX11_observed ({ frames := 0, cells := 0, slots := 0, locals := 0 }) 0 0 [.ref x] Φ sz (fun v Φ1 sz1 => v = some (.long 0) ∧ ∀ b9 : Nat, x + 149 ≤ b9 → Φ1 b9 = Φ b9) := by
  refine Ct.of (cc := cX11_observed) (maxL := 1) (ret := (some .long)) (by decide) rfl (Nat.le_of_ble_eq_true rfl) ?_
  intro p9 e9 s9 m9 w9 t9 k9 B
  show Z p9 l e9 _ s9 m9 _ w9 t9 k9 _ G 1 0 [(0, .ref x)] [] Φ sz 0 0
  refine z_aload_n B dX11_observed_0 rfl 0 rfl ?_
  refine z_get (ref := "FlowExporter") (C := RX11) (T := TX11) (N := 8) (ci := 13) (v := .ref (x + 80)) B (by decide +kernel) rfl 5 (by decide) (by decide +kernel) rfl hc0_ rfl dX11_observed_1 ?_
  refine z_get (ref := "FlowExporter$Exporter") (C := RX2) (T := TX2) (N := 13) (ci := 4) (v := .long 0) B (by decide +kernel) rfl 10 (by decide) (by decide +kernel) rfl hc80_ rfl dX11_observed_4 ?_
  exact z_ret_l B dX11_observed_7 ⟨rfl, fun b9 h9 => rfl⟩

set_option maxHeartbeats 4000000 in
set_option maxRecDepth 100000 in
theorem f_X11_sampled (G : EnvG) (l : Launch) (Φ : Hm) (sz : Nat) (x : Nat) (hc0_ : Φ x = some (o_ 13 [.ref (x + 1), .ref (x + 3), .ref (x + 24), .ref (x + 46), .ref (x + 74), .ref (x + 80), .ref (x + 132), .ref (x + 121)])) (hc80_ : Φ (x + 80) = some (o_ 4 [.ref (x + 3), .ref (x + 74), .ref (x + 81), .ref (x + 95), .int 0, .int 1, .int 1, .int 0, .int 0, .int 0, .long 0, .long 0, .long 0])) : Ct G l yX11_sampled wsX11_sampled ({ frames := 0, cells := 0, slots := 0, locals := 0 }) 0 0 [.ref x] Φ sz (fun v Φ1 sz1 => v = some (.long 0) ∧ ∀ b9 : Nat, x + 149 ≤ b9 → Φ1 b9 = Φ b9) := by
  refine Ct.of (cc := cX11_sampled) (maxL := 1) (ret := (some .long)) (by decide) rfl (Nat.le_of_ble_eq_true rfl) ?_
  intro p9 e9 s9 m9 w9 t9 k9 B
  show Z p9 l e9 _ s9 m9 _ w9 t9 k9 _ G 1 0 [(0, .ref x)] [] Φ sz 0 0
  refine z_aload_n B dX11_sampled_0 rfl 0 rfl ?_
  refine z_get (ref := "FlowExporter") (C := RX11) (T := TX11) (N := 8) (ci := 13) (v := .ref (x + 80)) B (by decide +kernel) rfl 5 (by decide) (by decide +kernel) rfl hc0_ rfl dX11_sampled_1 ?_
  refine z_get (ref := "FlowExporter$Exporter") (C := RX2) (T := TX2) (N := 13) (ci := 4) (v := .long 0) B (by decide +kernel) rfl 11 (by decide) (by decide +kernel) rfl hc80_ rfl dX11_sampled_4 ?_
  exact z_ret_l B dX11_sampled_7 ⟨rfl, fun b9 h9 => rfl⟩

set_option maxHeartbeats 4000000 in
set_option maxRecDepth 100000 in
theorem f_X11_unsent (G : EnvG) (l : Launch) (Φ : Hm) (sz : Nat) (x : Nat) (hc0_ : Φ x = some (o_ 13 [.ref (x + 1), .ref (x + 3), .ref (x + 24), .ref (x + 46), .ref (x + 74), .ref (x + 80), .ref (x + 132), .ref (x + 121)])) (hc80_ : Φ (x + 80) = some (o_ 4 [.ref (x + 3), .ref (x + 74), .ref (x + 81), .ref (x + 95), .int 0, .int 1, .int 1, .int 0, .int 0, .int 0, .long 0, .long 0, .long 0])) : Ct G l yX11_unsent wsX11_unsent ({ frames := 0, cells := 0, slots := 0, locals := 0 }) 0 0 [.ref x] Φ sz (fun v Φ1 sz1 => v = some (.long 0) ∧ ∀ b9 : Nat, x + 149 ≤ b9 → Φ1 b9 = Φ b9) := by
  refine Ct.of (cc := cX11_unsent) (maxL := 1) (ret := (some .long)) (by decide) rfl (Nat.le_of_ble_eq_true rfl) ?_
  intro p9 e9 s9 m9 w9 t9 k9 B
  show Z p9 l e9 _ s9 m9 _ w9 t9 k9 _ G 1 0 [(0, .ref x)] [] Φ sz 0 0
  refine z_aload_n B dX11_unsent_0 rfl 0 rfl ?_
  refine z_get (ref := "FlowExporter") (C := RX11) (T := TX11) (N := 8) (ci := 13) (v := .ref (x + 80)) B (by decide +kernel) rfl 5 (by decide) (by decide +kernel) rfl hc0_ rfl dX11_unsent_1 ?_
  refine z_get (ref := "FlowExporter$Exporter") (C := RX2) (T := TX2) (N := 13) (ci := 4) (v := .long 0) B (by decide +kernel) rfl 12 (by decide) (by decide +kernel) rfl hc80_ rfl dX11_unsent_4 ?_
  exact z_ret_l B dX11_unsent_7 ⟨rfl, fun b9 h9 => rfl⟩

set_option maxHeartbeats 4000000 in
set_option maxRecDepth 100000 in
theorem f_X11_sent (G : EnvG) (l : Launch) (Φ : Hm) (sz : Nat) (x : Nat) (hc0_ : Φ x = some (o_ 13 [.ref (x + 1), .ref (x + 3), .ref (x + 24), .ref (x + 46), .ref (x + 74), .ref (x + 80), .ref (x + 132), .ref (x + 121)])) (hc74_ : Φ (x + 74) = some (o_ 10 [.ref (x + 3), .ref (x + 46), .ref (x + 75), .ref (x + 77), .int 0, .ref (x + 78), .ref (x + 79), .int 0, .long 0, .int 0])) : Ct G l yX11_sent wsX11_sent ({ frames := 0, cells := 0, slots := 0, locals := 0 }) 0 0 [.ref x] Φ sz (fun v Φ1 sz1 => v = some (.long 0) ∧ ∀ b9 : Nat, x + 149 ≤ b9 → Φ1 b9 = Φ b9) := by
  refine Ct.of (cc := cX11_sent) (maxL := 1) (ret := (some .long)) (by decide) rfl (Nat.le_of_ble_eq_true rfl) ?_
  intro p9 e9 s9 m9 w9 t9 k9 B
  show Z p9 l e9 _ s9 m9 _ w9 t9 k9 _ G 1 0 [(0, .ref x)] [] Φ sz 0 0
  refine z_aload_n B dX11_sent_0 rfl 0 rfl ?_
  refine z_get (ref := "FlowExporter") (C := RX11) (T := TX11) (N := 8) (ci := 13) (v := .ref (x + 74)) B (by decide +kernel) rfl 4 (by decide) (by decide +kernel) rfl hc0_ rfl dX11_sent_1 ?_
  refine z_get (ref := "FlowExporter$Sender") (C := RX8) (T := TX8) (N := 10) (ci := 10) (v := .long 0) B (by decide +kernel) rfl 8 (by decide) (by decide +kernel) rfl hc74_ rfl dX11_sent_4 ?_
  exact z_ret_l B dX11_sent_7 ⟨rfl, fun b9 h9 => rfl⟩

set_option maxHeartbeats 4000000 in
set_option maxRecDepth 100000 in
theorem f_X11_dropped (G : EnvG) (l : Launch) (Φ : Hm) (sz : Nat) (x : Nat) (hc0_ : Φ x = some (o_ 13 [.ref (x + 1), .ref (x + 3), .ref (x + 24), .ref (x + 46), .ref (x + 74), .ref (x + 80), .ref (x + 132), .ref (x + 121)])) (hc46_ : Φ (x + 46) = some (o_ 9 [.ref (x + 47), .int 0, .int 0])) : Ct G l yX11_dropped wsX11_dropped ({ frames := 0, cells := 0, slots := 0, locals := 0 }) 0 0 [.ref x] Φ sz (fun v Φ1 sz1 => v = some (.int 0) ∧ ∀ b9 : Nat, x + 149 ≤ b9 → Φ1 b9 = Φ b9) := by
  refine Ct.of (cc := cX11_dropped) (maxL := 1) (ret := (some .int)) (by decide) rfl (Nat.le_of_ble_eq_true rfl) ?_
  intro p9 e9 s9 m9 w9 t9 k9 B
  show Z p9 l e9 _ s9 m9 _ w9 t9 k9 _ G 1 0 [(0, .ref x)] [] Φ sz 0 0
  refine z_aload_n B dX11_dropped_0 rfl 0 rfl ?_
  refine z_get (ref := "FlowExporter") (C := RX11) (T := TX11) (N := 8) (ci := 13) (v := .ref (x + 46)) B (by decide +kernel) rfl 3 (by decide) (by decide +kernel) rfl hc0_ rfl dX11_dropped_1 ?_
  refine z_get (ref := "FlowExporter$Queue") (C := RX7) (T := TX7) (N := 3) (ci := 9) (v := .int 0) B (by decide +kernel) rfl 2 (by decide) (by decide +kernel) rfl hc46_ rfl dX11_dropped_4 ?_
  exact z_ret_i B dX11_dropped_7 ⟨rfl, fun b9 h9 => rfl⟩

set_option maxHeartbeats 4000000 in
set_option maxRecDepth 100000 in
theorem f_X11_sequence (G : EnvG) (l : Launch) (Φ : Hm) (sz : Nat) (x : Nat) (hc0_ : Φ x = some (o_ 13 [.ref (x + 1), .ref (x + 3), .ref (x + 24), .ref (x + 46), .ref (x + 74), .ref (x + 80), .ref (x + 132), .ref (x + 121)])) (hc74_ : Φ (x + 74) = some (o_ 10 [.ref (x + 3), .ref (x + 46), .ref (x + 75), .ref (x + 77), .int 0, .ref (x + 78), .ref (x + 79), .int 0, .long 0, .int 0])) : Ct G l yX11_sequence wsX11_sequence ({ frames := 0, cells := 0, slots := 0, locals := 0 }) 0 0 [.ref x] Φ sz (fun v Φ1 sz1 => v = some (.long 0) ∧ ∀ b9 : Nat, x + 149 ≤ b9 → Φ1 b9 = Φ b9) := by
  refine Ct.of (cc := cX11_sequence) (maxL := 1) (ret := (some .long)) (by decide) rfl (Nat.le_of_ble_eq_true rfl) ?_
  intro p9 e9 s9 m9 w9 t9 k9 B
  show Z p9 l e9 _ s9 m9 _ w9 t9 k9 _ G 1 0 [(0, .ref x)] [] Φ sz 0 0
  refine z_aload_n B dX11_sequence_0 rfl 0 rfl ?_
  refine z_get (ref := "FlowExporter") (C := RX11) (T := TX11) (N := 8) (ci := 13) (v := .ref (x + 74)) B (by decide +kernel) rfl 4 (by decide) (by decide +kernel) rfl hc0_ rfl dX11_sequence_1 ?_
  refine z_get (ref := "FlowExporter$Sender") (C := RX8) (T := TX8) (N := 10) (ci := 10) (v := .int 0) B (by decide +kernel) rfl 9 (by decide) (by decide +kernel) rfl hc74_ rfl dX11_sequence_4 ?_
  refine z_i2l (v := 0) B dX11_sequence_7 (by decide +kernel) ?_
  refine z_ldc2 (v := 4294967295) B (by decide +kernel) dX11_sequence_8 ?_
  refine z_land B dX11_sequence_11 ?_
  refine z_top (st1 := [.long 0]) (congrArg (fun w9 : Int64 => ([.long w9] : List Value)) (show (0 &&& 4294967295 : Int64) = 0 by decide +kernel)) ?_
  exact z_ret_l B dX11_sequence_12 ⟨rfl, fun b9 h9 => rfl⟩

set_option maxHeartbeats 4000000 in
set_option maxRecDepth 100000 in
theorem f_X11_queueLength (G : EnvG) (l : Launch) (Φ : Hm) (sz : Nat) (x : Nat) (hc0_ : Φ x = some (o_ 13 [.ref (x + 1), .ref (x + 3), .ref (x + 24), .ref (x + 46), .ref (x + 74), .ref (x + 80), .ref (x + 132), .ref (x + 121)])) (hc46_ : Φ (x + 46) = some (o_ 9 [.ref (x + 47), .int 0, .int 0])) : Ct G l yX11_queueLength wsX11_queueLength ({ frames := 0, cells := 0, slots := 0, locals := 0 }) 0 0 [.ref x] Φ sz (fun v Φ1 sz1 => v = some (.int 0) ∧ ∀ b9 : Nat, x + 149 ≤ b9 → Φ1 b9 = Φ b9) := by
  refine Ct.of (cc := cX11_queueLength) (maxL := 1) (ret := (some .int)) (by decide) rfl (Nat.le_of_ble_eq_true rfl) ?_
  intro p9 e9 s9 m9 w9 t9 k9 B
  show Z p9 l e9 _ s9 m9 _ w9 t9 k9 _ G 1 0 [(0, .ref x)] [] Φ sz 0 0
  refine z_aload_n B dX11_queueLength_0 rfl 0 rfl ?_
  refine z_get (ref := "FlowExporter") (C := RX11) (T := TX11) (N := 8) (ci := 13) (v := .ref (x + 46)) B (by decide +kernel) rfl 3 (by decide) (by decide +kernel) rfl hc0_ rfl dX11_queueLength_1 ?_
  refine z_get (ref := "FlowExporter$Queue") (C := RX7) (T := TX7) (N := 3) (ci := 9) (v := .int 0) B (by decide +kernel) rfl 1 (by decide) (by decide +kernel) rfl hc46_ rfl dX11_queueLength_4 ?_
  exact z_ret_i B dX11_queueLength_7 ⟨rfl, fun b9 h9 => rfl⟩

set_option maxHeartbeats 4000000 in
set_option maxRecDepth 100000 in
theorem f_X11_keyCount (G : EnvG) (l : Launch) (Φ : Hm) (sz : Nat) (x : Nat) (hc0_ : Φ x = some (o_ 13 [.ref (x + 1), .ref (x + 3), .ref (x + 24), .ref (x + 46), .ref (x + 74), .ref (x + 80), .ref (x + 132), .ref (x + 121)])) (hc121_ : Φ (x + 121) = some (o_ 11 [.ref (x + 122), .ref (x + 123), .ref (x + 126), .ref (x + 129), .int 0])) : Ct G l yX11_keyCount wsX11_keyCount ({ frames := 0, cells := 0, slots := 0, locals := 0 }) 0 0 [.ref x] Φ sz (fun v Φ1 sz1 => v = some (.int 0) ∧ ∀ b9 : Nat, x + 149 ≤ b9 → Φ1 b9 = Φ b9) := by
  refine Ct.of (cc := cX11_keyCount) (maxL := 1) (ret := (some .int)) (by decide) rfl (Nat.le_of_ble_eq_true rfl) ?_
  intro p9 e9 s9 m9 w9 t9 k9 B
  show Z p9 l e9 _ s9 m9 _ w9 t9 k9 _ G 1 0 [(0, .ref x)] [] Φ sz 0 0
  refine z_aload_n B dX11_keyCount_0 rfl 0 rfl ?_
  refine z_get (ref := "FlowExporter") (C := RX11) (T := TX11) (N := 8) (ci := 13) (v := .ref (x + 121)) B (by decide +kernel) rfl 7 (by decide) (by decide +kernel) rfl hc0_ rfl dX11_keyCount_1 ?_
  refine z_get (ref := "FlowExporter$Sums") (C := RX9) (T := TX9) (N := 5) (ci := 11) (v := .int 0) B (by decide +kernel) rfl 4 (by decide) (by decide +kernel) rfl hc121_ rfl dX11_keyCount_4 ?_
  exact z_ret_i B dX11_keyCount_7 ⟨rfl, fun b9 h9 => rfl⟩

set_option maxHeartbeats 4000000 in
set_option maxRecDepth 100000 in
theorem f_X11_deliverAll (G : EnvG) (l : Launch) (Φ : Hm) (sz : Nat) (x : Nat) (hc0_ : Φ x = some (o_ 13 [.ref (x + 1), .ref (x + 3), .ref (x + 24), .ref (x + 46), .ref (x + 74), .ref (x + 80), .ref (x + 132), .ref (x + 121)])) (hc46_ : Φ (x + 46) = some (o_ 9 [.ref (x + 47), .int 0, .int 0])) : Ct G l yX11_deliverAll wsX11_deliverAll ({ frames := 0, cells := 0, slots := 0, locals := 0 }) 0 0 [.ref x] Φ sz (fun v Φ1 sz1 => v = some (.int 0) ∧ ∀ b9 : Nat, x + 149 ≤ b9 → Φ1 b9 = Φ b9) := by
  refine Ct.of (cc := cX11_deliverAll) (maxL := 3) (ret := (some .int)) (by decide) rfl (Nat.le_of_ble_eq_true rfl) ?_
  intro p9 e9 s9 m9 w9 t9 k9 B
  show Z p9 l e9 _ s9 m9 _ w9 t9 k9 _ G 3 0 [(0, .ref x)] [] Φ sz 0 0
  refine z_iconst (v := 0) B dX11_deliverAll_0 rfl ?_
  refine z_istore_n (lv' := [(1, .int 0), (0, .ref x)]) B dX11_deliverAll_1 rfl (Nat.le_of_ble_eq_true rfl) rfl ?_
  refine z_aload_n B dX11_deliverAll_2 rfl 1 rfl ?_
  refine z_get (ref := "FlowExporter") (C := RX11) (T := TX11) (N := 8) (ci := 13) (v := .ref (x + 46)) B (by decide +kernel) rfl 3 (by decide) (by decide +kernel) rfl hc0_ rfl dX11_deliverAll_3 ?_
  refine z_get (ref := "FlowExporter$Queue") (C := RX7) (T := TX7) (N := 3) (ci := 9) (v := .int 0) B (by decide +kernel) rfl 1 (by decide) (by decide +kernel) rfl hc46_ rfl dX11_deliverAll_6 ?_
  refine z_istore_n (lv' := [(2, .int 0), (1, .int 0), (0, .ref x)]) B dX11_deliverAll_9 rfl (Nat.le_of_ble_eq_true rfl) rfl ?_
  refine z_iload_n B dX11_deliverAll_10 rfl 0 rfl ?_
  refine z_if_le (tgt := 45) B dX11_deliverAll_11 rfl (fun c_1 => ?_) (fun h9 => absurd (by decide) h9)
  refine z_iload_n B dX11_deliverAll_45 rfl 1 rfl ?_
  exact z_ret_i B dX11_deliverAll_46 ⟨rfl, fun b9 h9 => rfl⟩

set_option maxHeartbeats 4000000 in
set_option maxRecDepth 100000 in
theorem f_X11_setSeed (G : EnvG) (l : Launch) (Φ : Hm) (sz : Nat) (x : Nat) (a : Int32) (hc0_ : Φ x = some (o_ 13 [.ref (x + 1), .ref (x + 3), .ref (x + 24), .ref (x + 46), .ref (x + 74), .ref (x + 80), .ref (x + 132), .ref (x + 121)])) (hc80_ : Φ (x + 80) = some (o_ 4 [.ref (x + 3), .ref (x + 74), .ref (x + 81), .ref (x + 95), .int 0, .int 1, .int 1, .int 0, .int 0, .int 0, .long 0, .long 0, .long 0])) (hna : G.2.2.2 ≤ x) : Ct G l yX11_setSeed wsX11_setSeed ({ frames := 0, cells := 0, slots := 0, locals := 0 }) 0 0 [.ref x, .int a] Φ sz (fun v Φ1 sz1 => v = some (.int (if a < 0 then 0 else 1)) ∧ ∀ b9 : Nat, x + 149 ≤ b9 → Φ1 b9 = Φ b9) := by
  refine Ct.of (cc := cX11_setSeed) (maxL := 2) (ret := (some .boolean)) (by decide) rfl (Nat.le_of_ble_eq_true rfl) ?_
  intro p9 e9 s9 m9 w9 t9 k9 B
  show Z p9 l e9 _ s9 m9 _ w9 t9 k9 _ G 2 0 [(0, .ref x), (1, .int a)] [] Φ sz 0 0
  refine z_iload_n B dX11_setSeed_0 rfl 1 rfl ?_
  refine z_if_ge (tgt := 6) B dX11_setSeed_1 rfl (fun c_1 => ?_) (fun c_1 => ?_)
  · refine z_aload_n B dX11_setSeed_6 rfl 0 rfl ?_
    refine z_get (ref := "FlowExporter") (C := RX11) (T := TX11) (N := 8) (ci := 13) (v := .ref (x + 80)) B (by decide +kernel) rfl 5 (by decide) (by decide +kernel) rfl hc0_ rfl dX11_setSeed_7 ?_
    refine z_iload_n B dX11_setSeed_10 rfl 1 rfl ?_
    refine z_put (ref := "FlowExporter$Exporter") (C := RX2) (T := TX2) (N := 13) (ci := 4) (v := .int a) B (by decide +kernel) tyX2 tyX2_ok nmX2 rfl 6 (by decide) (by decide +kernel) rfl (Or.inl rfl) hc80_ (Nat.le_trans hna (Nat.le_add_right x 80)) rfl rfl (Nat.le_of_ble_eq_true rfl) dX11_setSeed_11 (fun Φ1 hΦ1 => ?_)
    have h_1 : Φ1 (x + 80) = some (o_ 4 [.ref (x + 3), .ref (x + 74), .ref (x + 81), .ref (x + 95), .int 0, .int 1, .int a, .int 0, .int 0, .int 0, .long 0, .long 0, .long 0]) := fset_at hΦ1
    refine z_iconst (v := 1) B dX11_setSeed_14 rfl ?_
    exact z_ret_z B dX11_setSeed_15 (by decide) ⟨(by first | rfl | simp [c_1]), fun b9 h9 => ((fset_fr hΦ1 (Nat.ne_of_gt (Nat.lt_of_lt_of_le (lt_off (x := x) (i := 80) (j := 149) rfl) h9))).trans rfl)⟩
  · refine z_iconst (v := 0) B dX11_setSeed_4 rfl ?_
    exact z_ret_z B dX11_setSeed_5 (by decide) ⟨(by first | rfl | simp [c_1]), fun b9 h9 => rfl⟩

set_option maxHeartbeats 4000000 in
set_option maxRecDepth 100000 in
theorem f_X11_setAdaptive (G : EnvG) (l : Launch) (Φ : Hm) (sz : Nat) (x : Nat) (a : Int32) (hc0_ : Φ x = some (o_ 13 [.ref (x + 1), .ref (x + 3), .ref (x + 24), .ref (x + 46), .ref (x + 74), .ref (x + 80), .ref (x + 132), .ref (x + 121)])) (hc80_ : Φ (x + 80) = some (o_ 4 [.ref (x + 3), .ref (x + 74), .ref (x + 81), .ref (x + 95), .int 0, .int 1, .int 1, .int 0, .int 0, .int 0, .long 0, .long 0, .long 0])) (hna : G.2.2.2 ≤ x) (ha : a = 0 ∨ a = 1) : Ct G l yX11_setAdaptive wsX11_setAdaptive ({ frames := 0, cells := 0, slots := 0, locals := 0 }) 0 0 [.ref x, .int a] Φ sz (fun v Φ1 sz1 => v = some (.int 0) ∧ ∀ b9 : Nat, x + 149 ≤ b9 → Φ1 b9 = Φ b9) := by
  refine Ct.of (cc := cX11_setAdaptive) (maxL := 3) (ret := (some .boolean)) (by decide) rfl (Nat.le_of_ble_eq_true rfl) ?_
  intro p9 e9 s9 m9 w9 t9 k9 B
  show Z p9 l e9 _ s9 m9 _ w9 t9 k9 _ G 3 0 [(0, .ref x), (1, .int a)] [] Φ sz 0 0
  refine z_aload_n B dX11_setAdaptive_0 rfl 0 rfl ?_
  refine z_get (ref := "FlowExporter") (C := RX11) (T := TX11) (N := 8) (ci := 13) (v := .ref (x + 80)) B (by decide +kernel) rfl 5 (by decide) (by decide +kernel) rfl hc0_ rfl dX11_setAdaptive_1 ?_
  refine z_get (ref := "FlowExporter$Exporter") (C := RX2) (T := TX2) (N := 13) (ci := 4) (v := .int 0) B (by decide +kernel) rfl 7 (by decide) (by decide +kernel) rfl hc80_ rfl dX11_setAdaptive_4 ?_
  refine z_istore_n (lv' := [(2, .int 0), (0, .ref x), (1, .int a)]) B dX11_setAdaptive_7 rfl (Nat.le_of_ble_eq_true rfl) rfl ?_
  refine z_aload_n B dX11_setAdaptive_8 rfl 1 rfl ?_
  refine z_get (ref := "FlowExporter") (C := RX11) (T := TX11) (N := 8) (ci := 13) (v := .ref (x + 80)) B (by decide +kernel) rfl 5 (by decide) (by decide +kernel) rfl hc0_ rfl dX11_setAdaptive_9 ?_
  refine z_iload_n B dX11_setAdaptive_12 rfl 2 rfl ?_
  refine z_put (ref := "FlowExporter$Exporter") (C := RX2) (T := TX2) (N := 13) (ci := 4) (v := .int a) B (by decide +kernel) tyX2 tyX2_ok nmX2 rfl 7 (by decide) (by decide +kernel) rfl (Or.inl rfl) hc80_ (Nat.le_trans hna (Nat.le_add_right x 80)) (nar_z ha) (fit_z ha) (Nat.le_of_ble_eq_true rfl) dX11_setAdaptive_13 (fun Φ1 hΦ1 => ?_)
  have h_1 : Φ1 (x + 80) = some (o_ 4 [.ref (x + 3), .ref (x + 74), .ref (x + 81), .ref (x + 95), .int 0, .int 1, .int 1, .int a, .int 0, .int 0, .long 0, .long 0, .long 0]) := fset_at hΦ1
  refine z_iload_n B dX11_setAdaptive_16 rfl 0 rfl ?_
  exact z_ret_z B dX11_setAdaptive_17 (by decide) ⟨rfl, fun b9 h9 => ((fset_fr hΦ1 (Nat.ne_of_gt (Nat.lt_of_lt_of_le (lt_off (x := x) (i := 80) (j := 149) rfl) h9))).trans rfl)⟩

set_option maxHeartbeats 4000000 in
set_option maxRecDepth 100000 in
theorem f_X11_truncateInput (G : EnvG) (l : Launch) (Φ : Hm) (sz : Nat) (x : Nat) (a : Int32) (hc0_ : Φ x = some (o_ 13 [.ref (x + 1), .ref (x + 3), .ref (x + 24), .ref (x + 46), .ref (x + 74), .ref (x + 80), .ref (x + 132), .ref (x + 121)])) (hc1_ : Φ (x + 1) = some (o_ 7 [.ref (x + 2), .int 0])) (hna : G.2.2.2 ≤ x) : Ct G l yX11_truncateInput wsX11_truncateInput ({ frames := 0, cells := 0, slots := 0, locals := 0 }) 0 0 [.ref x, .int a] Φ sz (fun v Φ1 sz1 => v = some (.int (if a < 0 then -1 else if a ≤ 0 then a else -1)) ∧ ∀ b9 : Nat, x + 149 ≤ b9 → Φ1 b9 = Φ b9) := by
  refine Ct.of (cc := cX11_truncateInput) (maxL := 2) (ret := (some .int)) (by decide) rfl (Nat.le_of_ble_eq_true rfl) ?_
  intro p9 e9 s9 m9 w9 t9 k9 B
  show Z p9 l e9 _ s9 m9 _ w9 t9 k9 _ G 2 0 [(0, .ref x), (1, .int a)] [] Φ sz 0 0
  refine z_iload_n B dX11_truncateInput_0 rfl 1 rfl ?_
  refine z_if_lt (tgt := 15) B dX11_truncateInput_1 rfl (fun c_1 => ?_) (fun c_1 => ?_)
  · refine z_iconst (v := (-1)) B dX11_truncateInput_15 rfl ?_
    exact z_ret_i B dX11_truncateInput_16 ⟨(by first | rfl | simp [c_1]), fun b9 h9 => rfl⟩
  · refine z_iload_n B dX11_truncateInput_4 rfl 1 rfl ?_
    refine z_aload_n B dX11_truncateInput_5 rfl 0 rfl ?_
    refine z_get (ref := "FlowExporter") (C := RX11) (T := TX11) (N := 8) (ci := 13) (v := .ref (x + 1)) B (by decide +kernel) rfl 0 (by decide) (by decide +kernel) rfl hc0_ rfl dX11_truncateInput_6 ?_
    refine z_get (ref := "FlowExporter$Message") (C := RX5) (T := TX5) (N := 2) (ci := 7) (v := .int 0) B (by decide +kernel) rfl 1 (by decide) (by decide +kernel) rfl hc1_ rfl dX11_truncateInput_9 ?_
    refine z_icmp_le (tgt := 17) B dX11_truncateInput_12 rfl (fun c_2 => ?_) (fun c_2 => ?_)
    · refine z_aload_n B dX11_truncateInput_17 rfl 0 rfl ?_
      refine z_get (ref := "FlowExporter") (C := RX11) (T := TX11) (N := 8) (ci := 13) (v := .ref (x + 1)) B (by decide +kernel) rfl 0 (by decide) (by decide +kernel) rfl hc0_ rfl dX11_truncateInput_18 ?_
      refine z_iload_n B dX11_truncateInput_21 rfl 1 rfl ?_
      refine z_put (ref := "FlowExporter$Message") (C := RX5) (T := TX5) (N := 2) (ci := 7) (v := .int a) B (by decide +kernel) tyX5 tyX5_ok nmX5 rfl 1 (by decide) (by decide +kernel) rfl (Or.inl rfl) hc1_ (Nat.le_trans hna (Nat.le_add_right x 1)) rfl rfl (Nat.le_of_ble_eq_true rfl) dX11_truncateInput_22 (fun Φ1 hΦ1 => ?_)
      have h_1 : Φ1 (x + 1) = some (o_ 7 [.ref (x + 2), .int a]) := fset_at hΦ1
      refine z_iload_n B dX11_truncateInput_25 rfl 1 rfl ?_
      exact z_ret_i B dX11_truncateInput_26 ⟨(by first | rfl | simp [c_1, c_2]), fun b9 h9 => ((fset_fr hΦ1 (Nat.ne_of_gt (Nat.lt_of_lt_of_le (lt_off (x := x) (i := 1) (j := 149) rfl) h9))).trans rfl)⟩
    · refine z_iconst (v := (-1)) B dX11_truncateInput_15 rfl ?_
      exact z_ret_i B dX11_truncateInput_16 ⟨(by first | rfl | simp [c_1, c_2]), fun b9 h9 => rfl⟩

set_option maxHeartbeats 4000000 in
set_option maxRecDepth 100000 in
theorem f_X11_restartExporter (G : EnvG) (l : Launch) (Φ : Hm) (sz : Nat) (x : Nat) (hc0_ : Φ x = some (o_ 13 [.ref (x + 1), .ref (x + 3), .ref (x + 24), .ref (x + 46), .ref (x + 74), .ref (x + 80), .ref (x + 132), .ref (x + 121)])) (hc74_ : Φ (x + 74) = some (o_ 10 [.ref (x + 3), .ref (x + 46), .ref (x + 75), .ref (x + 77), .int 0, .ref (x + 78), .ref (x + 79), .int 0, .long 0, .int 0])) (hc75_ : Φ (x + 75) = some (o_ 7 [.ref (x + 76), .int 0])) (hc78_ : Φ (x + 78) = some (ai_ G 4 (fun _ => 0))) (hc80_ : Φ (x + 80) = some (o_ 4 [.ref (x + 3), .ref (x + 74), .ref (x + 81), .ref (x + 95), .int 0, .int 1, .int 1, .int 0, .int 0, .int 0, .long 0, .long 0, .long 0])) (hc81_ : Φ (x + 81) = some (o_ 6 [.ref (x + 82), .int 0])) (hna : G.2.2.2 ≤ x) : Ct G l yX11_restartExporter wsX11_restartExporter ({ frames := 3, cells := 0, slots := 0, locals := 63 }) 0 0 [.ref x] Φ sz (fun v Φ1 sz1 => v = some (.int 0) ∧ ∀ b9 : Nat, x + 149 ≤ b9 → Φ1 b9 = Φ b9) := by
  refine Ct.of (cc := cX11_restartExporter) (maxL := 2) (ret := (some .int)) (by decide) rfl (Nat.le_of_ble_eq_true rfl) ?_
  intro p9 e9 s9 m9 w9 t9 k9 B
  show Z p9 l e9 _ s9 m9 _ w9 t9 k9 _ G 2 0 [(0, .ref x)] [] Φ sz 0 0
  refine z_aload_n B dX11_restartExporter_0 rfl 0 rfl ?_
  refine z_get (ref := "FlowExporter") (C := RX11) (T := TX11) (N := 8) (ci := 13) (v := .ref (x + 80)) B (by decide +kernel) rfl 5 (by decide) (by decide +kernel) rfl hc0_ rfl dX11_restartExporter_1 ?_
  refine z_get (ref := "FlowExporter$Exporter") (C := RX2) (T := TX2) (N := 13) (ci := 4) (v := .ref (x + 81)) B (by decide +kernel) rfl 2 (by decide) (by decide +kernel) rfl hc80_ rfl dX11_restartExporter_4 ?_
  refine z_get (ref := "FlowExporter$FlowTable") (C := RX4) (T := TX4) (N := 2) (ci := 6) (v := .int 0) B (by decide +kernel) rfl 1 (by decide) (by decide +kernel) rfl hc81_ rfl dX11_restartExporter_7 ?_
  refine z_istore_n (lv' := [(1, .int 0), (0, .ref x)]) B dX11_restartExporter_10 rfl (Nat.le_of_ble_eq_true rfl) rfl ?_
  refine z_aload_n B dX11_restartExporter_11 rfl 1 rfl ?_
  refine z_get (ref := "FlowExporter") (C := RX11) (T := TX11) (N := 8) (ci := 13) (v := .ref (x + 80)) B (by decide +kernel) rfl 5 (by decide) (by decide +kernel) rfl hc0_ rfl dX11_restartExporter_12 ?_
  refine z_get (ref := "FlowExporter$Exporter") (C := RX2) (T := TX2) (N := 13) (ci := 4) (v := .ref (x + 81)) B (by decide +kernel) rfl 2 (by decide) (by decide +kernel) rfl hc80_ rfl dX11_restartExporter_15 ?_
  refine z_iconst (v := 0) B dX11_restartExporter_18 rfl ?_
  refine z_put (ref := "FlowExporter$FlowTable") (C := RX4) (T := TX4) (N := 2) (ci := 6) (v := .int 0) B (by decide +kernel) tyX4 tyX4_ok nmX4 rfl 1 (by decide) (by decide +kernel) rfl (Or.inl rfl) hc81_ (Nat.le_trans hna (Nat.le_add_right x 81)) rfl rfl (Nat.le_of_ble_eq_true rfl) dX11_restartExporter_19 (fun Φ1 hΦ1 => ?_)
  have h_1 : Φ1 (x + 81) = some (o_ 6 [.ref (x + 82), .int 0]) := fset_at hΦ1
  refine z_aload_n B dX11_restartExporter_22 rfl 1 rfl ?_
  have h_2 : Φ1 x = some (o_ 13 [.ref (x + 1), .ref (x + 3), .ref (x + 24), .ref (x + 46), .ref (x + 74), .ref (x + 80), .ref (x + 132), .ref (x + 121)]) := ((fset_fr hΦ1 (ne_off (x := x) (i := 0) (j := 81) rfl)).trans hc0_)
  refine z_get (ref := "FlowExporter") (C := RX11) (T := TX11) (N := 8) (ci := 13) (v := .ref (x + 74)) B (by decide +kernel) rfl 4 (by decide) (by decide +kernel) rfl h_2 rfl dX11_restartExporter_23 ?_
  have h_3 : Φ1 (x + 74) = some (o_ 10 [.ref (x + 3), .ref (x + 46), .ref (x + 75), .ref (x + 77), .int 0, .ref (x + 78), .ref (x + 79), .int 0, .long 0, .int 0]) := ((fset_fr hΦ1 (ne_off (x := x) (i := 74) (j := 81) rfl)).trans hc74_)
  have h_4 : Φ1 (x + 75) = some (o_ 7 [.ref (x + 76), .int 0]) := ((fset_fr hΦ1 (ne_off (x := x) (i := 75) (j := 81) rfl)).trans hc75_)
  have h_5 : Φ1 (x + 78) = some (ai_ G 4 (fun _ => 0)) := ((fset_fr hΦ1 (ne_off (x := x) (i := 78) (j := 81) rfl)).trans hc78_)
  refine z_callV (As := []) (rest := []) B (c_X8_restart G l Φ1 sz (x + 74) (x + 3) (x + 46) (x + 75) (x + 77) (x + 78) (x + 79) 0 0 0 0 (x + 76) 0 (fun _ => 0) h_3 h_4 h_5 (Nat.le_trans hna (Nat.le_add_right x 74)) (Nat.le_trans hna (Nat.le_add_right x 75)) (Nat.le_trans hna (Nat.le_add_right x 78))) (cwV 0 B.1.2.2.2.2 gX11_restartExporter_X8_restart rfl rfl rfl (by decide +kernel) ⟨Nat.le_of_ble_eq_true rfl, Nat.le_of_ble_eq_true rfl⟩) h_3 rfl rfl rfl rfl (Nat.le_of_ble_eq_true rfl) dX11_restartExporter_26 ⟨Nat.le_of_ble_eq_true rfl, Nat.le_of_ble_eq_true rfl⟩ (fun v1 Φ2 sz1 st1 hp1 hs1 => ?_)
  obtain ⟨rfl, hq1, fr1, h_6, h_7, h_8⟩ := hp1
  replace hq1 : sz1 = sz := hq1
  subst sz1
  replace hs1 : st1 = [] := hs1
  subst st1
  have h_9 : Φ2 (x + 74) = some (o_ 10 [.ref (x + 3), .ref (x + 46), .ref (x + 75), .ref (x + 77), .int 0, .ref (x + 78), .ref (x + 79), .int 0, .long 0, .int 0]) := h_6
  have h_10 : Φ2 (x + 78) = some (ai_ G 4 (fun _ => 0)) := h_7
  have h_11 : Φ2 (x + 75) = some (o_ 7 [.ref (x + 76), .int 0]) := h_8
  refine z_iload_n B dX11_restartExporter_29 rfl 0 rfl ?_
  exact z_ret_i B dX11_restartExporter_30 ⟨rfl, fun b9 h9 => ((fr1 b9 (Nat.ne_of_gt (Nat.lt_of_lt_of_le (lt_off (x := x) (i := 74) (j := 149) rfl) h9)) (Nat.ne_of_gt (Nat.lt_of_lt_of_le (lt_off (x := x) (i := 78) (j := 149) rfl) h9)) (Nat.ne_of_gt (Nat.lt_of_lt_of_le (lt_off (x := x) (i := 75) (j := 149) rfl) h9))).trans ((fset_fr hΦ1 (Nat.ne_of_gt (Nat.lt_of_lt_of_le (lt_off (x := x) (i := 81) (j := 149) rfl) h9))).trans rfl))⟩

set_option maxHeartbeats 4000000 in
set_option maxRecDepth 100000 in
theorem f_X11_requestTemplates (G : EnvG) (l : Launch) (Φ : Hm) (sz : Nat) (x : Nat) (hc0_ : Φ x = some (o_ 13 [.ref (x + 1), .ref (x + 3), .ref (x + 24), .ref (x + 46), .ref (x + 74), .ref (x + 80), .ref (x + 132), .ref (x + 121)])) (hc74_ : Φ (x + 74) = some (o_ 10 [.ref (x + 3), .ref (x + 46), .ref (x + 75), .ref (x + 77), .int 0, .ref (x + 78), .ref (x + 79), .int 0, .long 0, .int 0])) (hc78_ : Φ (x + 78) = some (ai_ G 4 (fun _ => 0))) (hna : G.2.2.2 ≤ x) : Ct G l yX11_requestTemplates wsX11_requestTemplates ({ frames := 2, cells := 0, slots := 0, locals := 43 }) 0 0 [.ref x] Φ sz (fun v Φ1 sz1 => v = none ∧ ∀ b9 : Nat, x + 149 ≤ b9 → Φ1 b9 = Φ b9) := by
  refine Ct.of (cc := cX11_requestTemplates) (maxL := 1) (ret := none) (by decide) rfl (Nat.le_of_ble_eq_true rfl) ?_
  intro p9 e9 s9 m9 w9 t9 k9 B
  show Z p9 l e9 _ s9 m9 _ w9 t9 k9 _ G 1 0 [(0, .ref x)] [] Φ sz 0 0
  refine z_aload_n B dX11_requestTemplates_0 rfl 0 rfl ?_
  refine z_get (ref := "FlowExporter") (C := RX11) (T := TX11) (N := 8) (ci := 13) (v := .ref (x + 74)) B (by decide +kernel) rfl 4 (by decide) (by decide +kernel) rfl hc0_ rfl dX11_requestTemplates_1 ?_
  refine z_callV (As := []) (rest := []) B (c_X8_forgetTemplates G l Φ sz (x + 74) (x + 3) (x + 46) (x + 75) (x + 77) (x + 78) (x + 79) 0 0 0 0 (fun _ => 0) hc74_ hc78_ (Nat.le_trans hna (Nat.le_add_right x 78))) (cwV 0 B.1.2.2.2.2 gX11_requestTemplates_X8_forgetTemplates rfl rfl rfl (by decide +kernel) ⟨Nat.le_of_ble_eq_true rfl, Nat.le_of_ble_eq_true rfl⟩) hc74_ rfl rfl rfl rfl (Nat.le_of_ble_eq_true rfl) dX11_requestTemplates_4 ⟨Nat.le_of_ble_eq_true rfl, Nat.le_of_ble_eq_true rfl⟩ (fun v1 Φ1 sz1 st1 hp1 hs1 => ?_)
  obtain ⟨rfl, hq1, fr1, h_1⟩ := hp1
  replace hq1 : sz1 = sz := hq1
  subst sz1
  replace hs1 : st1 = [] := hs1
  subst st1
  have h_2 : Φ1 (x + 78) = some (ai_ G 4 (fun _ => 0)) := h_1
  exact z_ret_v B dX11_requestTemplates_7 ⟨rfl, fun b9 h9 => ((fr1 b9 (Nat.ne_of_gt (Nat.lt_of_lt_of_le (lt_off (x := x) (i := 78) (j := 149) rfl) h9))).trans rfl)⟩

theorem i_lt1 {t : Int32} (h : ¬ t < 0) (h2 : t < 1) : t = 0 := by
  rw [Int32.lt_iff_toInt_lt] at h h2
  apply Int32.toInt_inj.mp
  simp at h h2 ⊢
  omega

set_option maxHeartbeats 4000000 in
set_option maxRecDepth 100000 in
theorem f_X11_requireTemplate_x (G : EnvG) (l : Launch) (hl9 : l.stackTraces = false) (Φ : Hm) (sz : Nat) (x : Nat) (a : Int32) (hc0_ : Φ x = some (o_ 13 [.ref (x + 1), .ref (x + 3), .ref (x + 24), .ref (x + 46), .ref (x + 74), .ref (x + 80), .ref (x + 132), .ref (x + 121)])) (hc3_ : Φ (x + 3) = some (o_ 3 [.ref (x + 4), .ref (x + 5), .ref (x + 6), .ref (x + 7), .int 1, .int 511])) (ha : a ≠ 0) : CtX G l yX11_requireTemplate wsX11_requireTemplate ({ frames := 6, cells := 1, slots := 6, locals := 81 }) 1 6 [.ref x, .int a] Φ sz xIO := by
  refine CtX.of (cc := cX11_requireTemplate) (maxL := 2) (ret := none) (by decide) rfl (Nat.le_of_ble_eq_true rfl) ?_
  intro p9 e9 s9 m9 w9 t9 k9 B htab9
  show Z p9 l e9 _ s9 m9 _ w9 t9 k9 _ G 2 0 [(0, .ref x), (1, .int a)] [] Φ sz 0 0
  refine z_iload_n B dX11_requireTemplate_0 rfl 1 rfl ?_
  refine z_if_lt (tgt := 15) B dX11_requireTemplate_1 rfl (fun c_1 => ?_) (fun c_1 => ?_)
  · exact z_throw (cls := xIO) (ik := 153) (ic := 155) B hl9 htab9 (by decide) (by decide +kernel) (by decide +kernel) (by decide +kernel) (by decide +kernel) (by decide +kernel) (by decide +kernel) (by decide +kernel) dX11_requireTemplate_15 dX11_requireTemplate_18 dX11_requireTemplate_19 dX11_requireTemplate_22 ⟨Nat.le_of_ble_eq_true rfl, Nat.le_of_ble_eq_true rfl, Nat.le_of_ble_eq_true rfl, Nat.le_of_ble_eq_true rfl⟩ ⟨Nat.le_of_ble_eq_true rfl, Nat.le_of_ble_eq_true rfl⟩
  · refine z_iload_n B dX11_requireTemplate_4 rfl 1 rfl ?_
    refine z_aload_n B dX11_requireTemplate_5 rfl 0 rfl ?_
    refine z_get (ref := "FlowExporter") (C := RX11) (T := TX11) (N := 8) (ci := 13) (v := .ref (x + 3)) B (by decide +kernel) rfl 1 (by decide) (by decide +kernel) rfl hc0_ rfl dX11_requireTemplate_6 ?_
    refine z_get (ref := "FlowExporter$Config") (C := RX1) (T := TX1) (N := 6) (ci := 3) (v := .int 1) B (by decide +kernel) rfl 4 (by decide) (by decide +kernel) rfl hc3_ rfl dX11_requireTemplate_9 ?_
    refine z_icmp_lt (tgt := 23) B dX11_requireTemplate_12 rfl (fun h9 => absurd h9 (fun h8 => ha (i_lt1 c_1 h8))) (fun c_2 => ?_)
    exact z_throw (cls := xIO) (ik := 153) (ic := 155) B hl9 htab9 (by decide) (by decide +kernel) (by decide +kernel) (by decide +kernel) (by decide +kernel) (by decide +kernel) (by decide +kernel) (by decide +kernel) dX11_requireTemplate_15 dX11_requireTemplate_18 dX11_requireTemplate_19 dX11_requireTemplate_22 ⟨Nat.le_of_ble_eq_true rfl, Nat.le_of_ble_eq_true rfl, Nat.le_of_ble_eq_true rfl, Nat.le_of_ble_eq_true rfl⟩ ⟨Nat.le_of_ble_eq_true rfl, Nat.le_of_ble_eq_true rfl⟩

set_option maxHeartbeats 4000000 in
set_option maxRecDepth 100000 in
theorem f_X11_requireTemplate (G : EnvG) (l : Launch) (Φ : Hm) (sz : Nat) (x : Nat) (hc0_ : Φ x = some (o_ 13 [.ref (x + 1), .ref (x + 3), .ref (x + 24), .ref (x + 46), .ref (x + 74), .ref (x + 80), .ref (x + 132), .ref (x + 121)])) (hc3_ : Φ (x + 3) = some (o_ 3 [.ref (x + 4), .ref (x + 5), .ref (x + 6), .ref (x + 7), .int 1, .int 511])) : Ct G l yX11_requireTemplate wsX11_requireTemplate ({ frames := 0, cells := 0, slots := 0, locals := 0 }) 0 0 [.ref x, .int 0] Φ sz (fun v Φ1 sz1 => v = none ∧ ∀ b9 : Nat, x + 149 ≤ b9 → Φ1 b9 = Φ b9) := by
  refine Ct.of (cc := cX11_requireTemplate) (maxL := 2) (ret := none) (by decide) rfl (Nat.le_of_ble_eq_true rfl) ?_
  intro p9 e9 s9 m9 w9 t9 k9 B
  show Z p9 l e9 _ s9 m9 _ w9 t9 k9 _ G 2 0 [(0, .ref x), (1, .int 0)] [] Φ sz 0 0
  refine z_iload_n B dX11_requireTemplate_0 rfl 1 rfl ?_
  refine z_if_lt (tgt := 15) B dX11_requireTemplate_1 rfl (fun h9 => absurd h9 (by decide)) (fun c_1 => ?_)
  refine z_iload_n B dX11_requireTemplate_4 rfl 1 rfl ?_
  refine z_aload_n B dX11_requireTemplate_5 rfl 0 rfl ?_
  refine z_get (ref := "FlowExporter") (C := RX11) (T := TX11) (N := 8) (ci := 13) (v := .ref (x + 3)) B (by decide +kernel) rfl 1 (by decide) (by decide +kernel) rfl hc0_ rfl dX11_requireTemplate_6 ?_
  refine z_get (ref := "FlowExporter$Config") (C := RX1) (T := TX1) (N := 6) (ci := 3) (v := .int 1) B (by decide +kernel) rfl 4 (by decide) (by decide +kernel) rfl hc3_ rfl dX11_requireTemplate_9 ?_
  refine z_icmp_lt (tgt := 23) B dX11_requireTemplate_12 rfl (fun c_2 => ?_) (fun h9 => absurd (by decide) h9)
  exact z_ret_v B dX11_requireTemplate_23 ⟨rfl, fun b9 h9 => rfl⟩

set_option maxHeartbeats 4000000 in
set_option maxRecDepth 100000 in
theorem f_X11_requireMessage_x (G : EnvG) (l : Launch) (hl9 : l.stackTraces = false) (Φ : Hm) (sz : Nat) (x : Nat) (a : Int32) (hc0_ : Φ x = some (o_ 13 [.ref (x + 1), .ref (x + 3), .ref (x + 24), .ref (x + 46), .ref (x + 74), .ref (x + 80), .ref (x + 132), .ref (x + 121)])) (hc46_ : Φ (x + 46) = some (o_ 9 [.ref (x + 47), .int 0, .int 0])) : CtX G l yX11_requireMessage wsX11_requireMessage ({ frames := 6, cells := 1, slots := 6, locals := 81 }) 1 6 [.ref x, .int a] Φ sz xIO := by
  refine CtX.of (cc := cX11_requireMessage) (maxL := 2) (ret := none) (by decide) rfl (Nat.le_of_ble_eq_true rfl) ?_
  intro p9 e9 s9 m9 w9 t9 k9 B htab9
  show Z p9 l e9 _ s9 m9 _ w9 t9 k9 _ G 2 0 [(0, .ref x), (1, .int a)] [] Φ sz 0 0
  refine z_iload_n B dX11_requireMessage_0 rfl 1 rfl ?_
  refine z_if_lt (tgt := 15) B dX11_requireMessage_1 rfl (fun c_1 => ?_) (fun c_1 => ?_)
  · exact z_throw (cls := xIO) (ik := 153) (ic := 155) B hl9 htab9 (by decide) (by decide +kernel) (by decide +kernel) (by decide +kernel) (by decide +kernel) (by decide +kernel) (by decide +kernel) (by decide +kernel) dX11_requireMessage_15 dX11_requireMessage_18 dX11_requireMessage_19 dX11_requireMessage_22 ⟨Nat.le_of_ble_eq_true rfl, Nat.le_of_ble_eq_true rfl, Nat.le_of_ble_eq_true rfl, Nat.le_of_ble_eq_true rfl⟩ ⟨Nat.le_of_ble_eq_true rfl, Nat.le_of_ble_eq_true rfl⟩
  · refine z_iload_n B dX11_requireMessage_4 rfl 1 rfl ?_
    refine z_aload_n B dX11_requireMessage_5 rfl 0 rfl ?_
    refine z_get (ref := "FlowExporter") (C := RX11) (T := TX11) (N := 8) (ci := 13) (v := .ref (x + 46)) B (by decide +kernel) rfl 3 (by decide) (by decide +kernel) rfl hc0_ rfl dX11_requireMessage_6 ?_
    refine z_get (ref := "FlowExporter$Queue") (C := RX7) (T := TX7) (N := 3) (ci := 9) (v := .int 0) B (by decide +kernel) rfl 1 (by decide) (by decide +kernel) rfl hc46_ rfl dX11_requireMessage_9 ?_
    refine z_icmp_lt (tgt := 23) B dX11_requireMessage_12 rfl (fun h9 => absurd h9 c_1) (fun c_2 => ?_)
    exact z_throw (cls := xIO) (ik := 153) (ic := 155) B hl9 htab9 (by decide) (by decide +kernel) (by decide +kernel) (by decide +kernel) (by decide +kernel) (by decide +kernel) (by decide +kernel) (by decide +kernel) dX11_requireMessage_15 dX11_requireMessage_18 dX11_requireMessage_19 dX11_requireMessage_22 ⟨Nat.le_of_ble_eq_true rfl, Nat.le_of_ble_eq_true rfl, Nat.le_of_ble_eq_true rfl, Nat.le_of_ble_eq_true rfl⟩ ⟨Nat.le_of_ble_eq_true rfl, Nat.le_of_ble_eq_true rfl⟩

set_option maxHeartbeats 4000000 in
set_option maxRecDepth 100000 in
theorem f_X11_requireKey_x (G : EnvG) (l : Launch) (hl9 : l.stackTraces = false) (Φ : Hm) (sz : Nat) (x : Nat) (a : Int32) (hc0_ : Φ x = some (o_ 13 [.ref (x + 1), .ref (x + 3), .ref (x + 24), .ref (x + 46), .ref (x + 74), .ref (x + 80), .ref (x + 132), .ref (x + 121)])) (hc121_ : Φ (x + 121) = some (o_ 11 [.ref (x + 122), .ref (x + 123), .ref (x + 126), .ref (x + 129), .int 0])) : CtX G l yX11_requireKey wsX11_requireKey ({ frames := 6, cells := 1, slots := 6, locals := 81 }) 1 6 [.ref x, .int a] Φ sz xIO := by
  refine CtX.of (cc := cX11_requireKey) (maxL := 2) (ret := none) (by decide) rfl (Nat.le_of_ble_eq_true rfl) ?_
  intro p9 e9 s9 m9 w9 t9 k9 B htab9
  show Z p9 l e9 _ s9 m9 _ w9 t9 k9 _ G 2 0 [(0, .ref x), (1, .int a)] [] Φ sz 0 0
  refine z_iload_n B dX11_requireKey_0 rfl 1 rfl ?_
  refine z_if_lt (tgt := 15) B dX11_requireKey_1 rfl (fun c_1 => ?_) (fun c_1 => ?_)
  · exact z_throw (cls := xIO) (ik := 153) (ic := 155) B hl9 htab9 (by decide) (by decide +kernel) (by decide +kernel) (by decide +kernel) (by decide +kernel) (by decide +kernel) (by decide +kernel) (by decide +kernel) dX11_requireKey_15 dX11_requireKey_18 dX11_requireKey_19 dX11_requireKey_22 ⟨Nat.le_of_ble_eq_true rfl, Nat.le_of_ble_eq_true rfl, Nat.le_of_ble_eq_true rfl, Nat.le_of_ble_eq_true rfl⟩ ⟨Nat.le_of_ble_eq_true rfl, Nat.le_of_ble_eq_true rfl⟩
  · refine z_iload_n B dX11_requireKey_4 rfl 1 rfl ?_
    refine z_aload_n B dX11_requireKey_5 rfl 0 rfl ?_
    refine z_get (ref := "FlowExporter") (C := RX11) (T := TX11) (N := 8) (ci := 13) (v := .ref (x + 121)) B (by decide +kernel) rfl 7 (by decide) (by decide +kernel) rfl hc0_ rfl dX11_requireKey_6 ?_
    refine z_get (ref := "FlowExporter$Sums") (C := RX9) (T := TX9) (N := 5) (ci := 11) (v := .int 0) B (by decide +kernel) rfl 4 (by decide) (by decide +kernel) rfl hc121_ rfl dX11_requireKey_9 ?_
    refine z_icmp_lt (tgt := 23) B dX11_requireKey_12 rfl (fun h9 => absurd h9 c_1) (fun c_2 => ?_)
    exact z_throw (cls := xIO) (ik := 153) (ic := 155) B hl9 htab9 (by decide) (by decide +kernel) (by decide +kernel) (by decide +kernel) (by decide +kernel) (by decide +kernel) (by decide +kernel) (by decide +kernel) dX11_requireKey_15 dX11_requireKey_18 dX11_requireKey_19 dX11_requireKey_22 ⟨Nat.le_of_ble_eq_true rfl, Nat.le_of_ble_eq_true rfl, Nat.le_of_ble_eq_true rfl, Nat.le_of_ble_eq_true rfl⟩ ⟨Nat.le_of_ble_eq_true rfl, Nat.le_of_ble_eq_true rfl⟩

set_option maxHeartbeats 4000000 in
set_option maxRecDepth 100000 in
theorem f_X11_lossRate (G : EnvG) (l : Launch) (hl9 : l.stackTraces = false) (Φ : Hm) (sz : Nat) (x : Nat) (hc0_ : Φ x = some (o_ 13 [.ref (x + 1), .ref (x + 3), .ref (x + 24), .ref (x + 46), .ref (x + 74), .ref (x + 80), .ref (x + 132), .ref (x + 121)])) (hc132_ : Φ (x + 132) = some (o_ 2 [.ref (x + 3), .ref (x + 121), .ref (x + 133), .ref (x + 134), .ref (x + 135), .ref (x + 137), .ref (x + 138), .ref (x + 139), .ref (x + 140), .int 0, .int 0, .int 0])) (hc139_ : Φ (x + 139) = some (al_ G 9 (fun _ => 0))) : CtX G l yX11_lossRate wsX11_lossRate ({ frames := 6, cells := 1, slots := 6, locals := 81 }) 1 6 [.ref x] Φ sz xAE := by
  refine CtX.of (cc := cX11_lossRate) (maxL := 5) (ret := (some .double)) (by decide) rfl (Nat.le_of_ble_eq_true rfl) ?_
  intro p9 e9 s9 m9 w9 t9 k9 B htab9
  show Z p9 l e9 _ s9 m9 _ w9 t9 k9 _ G 5 0 [(0, .ref x)] [] Φ sz 0 0
  refine z_aload_n B dX11_lossRate_0 rfl 0 rfl ?_
  refine z_get (ref := "FlowExporter") (C := RX11) (T := TX11) (N := 8) (ci := 13) (v := .ref (x + 132)) B (by decide +kernel) rfl 6 (by decide) (by decide +kernel) rfl hc0_ rfl dX11_lossRate_1 ?_
  refine z_get (ref := "FlowExporter$Collector") (C := RX0) (T := TX0) (N := 12) (ci := 2) (v := .ref (x + 139)) B (by decide +kernel) rfl 7 (by decide) (by decide +kernel) rfl hc132_ rfl dX11_lossRate_4 ?_
  refine z_iconst (v := 0) B dX11_lossRate_7 rfl ?_
  refine z_lald B hc139_ (vin rfl) dX11_lossRate_8 ?_
  refine z_top (st1 := [.long 0]) (by rfl) ?_
  refine z_lstore_n (lv' := [(1, .long 0), (0, .ref x)]) B dX11_lossRate_9 rfl (Nat.le_of_ble_eq_true rfl) rfl ?_
  refine z_lload_n B dX11_lossRate_10 rfl 0 rfl ?_
  refine z_aload_n B dX11_lossRate_11 rfl 1 rfl ?_
  refine z_get (ref := "FlowExporter") (C := RX11) (T := TX11) (N := 8) (ci := 13) (v := .ref (x + 132)) B (by decide +kernel) rfl 6 (by decide) (by decide +kernel) rfl hc0_ rfl dX11_lossRate_12 ?_
  refine z_get (ref := "FlowExporter$Collector") (C := RX0) (T := TX0) (N := 12) (ci := 2) (v := .ref (x + 139)) B (by decide +kernel) rfl 7 (by decide) (by decide +kernel) rfl hc132_ rfl dX11_lossRate_15 ?_
  refine z_bipush (v := 7) B dX11_lossRate_18 rfl ?_
  refine z_lald B hc139_ (vin rfl) dX11_lossRate_20 ?_
  refine z_top (st1 := [.long 0, .long 0]) (by rfl) ?_
  refine z_ladd B dX11_lossRate_21 ?_
  refine z_top (st1 := [.long 0]) (congrArg (fun w9 : Int64 => ([.long w9] : List Value)) (show (0 + 0 : Int64) = 0 by decide +kernel)) ?_
  refine z_lstore_n (lv' := [(3, .long 0), (1, .long 0), (0, .ref x)]) B dX11_lossRate_22 rfl (Nat.le_of_ble_eq_true rfl) rfl ?_
  refine z_lload_n B dX11_lossRate_23 rfl 0 rfl ?_
  refine z_lconst (v := 0) B dX11_lossRate_24 rfl ?_
  refine z_lcmp B dX11_lossRate_25 ?_
  refine z_top (st1 := [.int 0]) (congrArg (fun w9 : Int32 => ([.int w9] : List Value)) (show (lg_cmp 0 0 : Int32) = 0 by decide +kernel)) ?_
  refine z_if_ne (tgt := 37) B dX11_lossRate_26 rfl (fun h9 => absurd (by decide) h9) (fun c_1 => ?_)
  exact z_throw (cls := xAE) (ik := 293) (ic := 295) B hl9 htab9 (by decide) (by decide +kernel) (by decide +kernel) (by decide +kernel) (by decide +kernel) (by decide +kernel) (by decide +kernel) (by decide +kernel) dX11_lossRate_29 dX11_lossRate_32 dX11_lossRate_33 dX11_lossRate_36 ⟨Nat.le_of_ble_eq_true rfl, Nat.le_of_ble_eq_true rfl, Nat.le_of_ble_eq_true rfl, Nat.le_of_ble_eq_true rfl⟩ ⟨Nat.le_of_ble_eq_true rfl, Nat.le_of_ble_eq_true rfl⟩

set_option maxHeartbeats 4000000 in
set_option maxRecDepth 100000 in
theorem f_X11_cached (G : EnvG) (l : Launch) (hl9 : l.stackTraces = false) (Φ : Hm) (sz : Nat) (x : Nat) (a : Int32) (b : Int32) (hc0_ : Φ x = some (o_ 13 [.ref (x + 1), .ref (x + 3), .ref (x + 24), .ref (x + 46), .ref (x + 74), .ref (x + 80), .ref (x + 132), .ref (x + 121)])) (hc80_ : Φ (x + 80) = some (o_ 4 [.ref (x + 3), .ref (x + 74), .ref (x + 81), .ref (x + 95), .int 0, .int 1, .int 1, .int 0, .int 0, .int 0, .long 0, .long 0, .long 0])) (hc81_ : Φ (x + 81) = some (o_ 6 [.ref (x + 82), .int 0])) : CtX G l yX11_cached wsX11_cached ({ frames := 6, cells := 1, slots := 6, locals := 81 }) 1 6 [.ref x, .int a, .int b] Φ sz xIO := by
  refine CtX.of (cc := cX11_cached) (maxL := 3) (ret := (some .long)) (by decide) rfl (Nat.le_of_ble_eq_true rfl) ?_
  intro p9 e9 s9 m9 w9 t9 k9 B htab9
  show Z p9 l e9 _ s9 m9 _ w9 t9 k9 _ G 3 0 [(0, .ref x), (1, .int a), (2, .int b)] [] Φ sz 0 0
  refine z_iload_n B dX11_cached_0 rfl 1 rfl ?_
  refine z_if_lt (tgt := 18) B dX11_cached_1 rfl (fun c_1 => ?_) (fun c_1 => ?_)
  · exact z_throw (cls := xIO) (ik := 153) (ic := 155) B hl9 htab9 (by decide) (by decide +kernel) (by decide +kernel) (by decide +kernel) (by decide +kernel) (by decide +kernel) (by decide +kernel) (by decide +kernel) dX11_cached_18 dX11_cached_21 dX11_cached_22 dX11_cached_25 ⟨Nat.le_of_ble_eq_true rfl, Nat.le_of_ble_eq_true rfl, Nat.le_of_ble_eq_true rfl, Nat.le_of_ble_eq_true rfl⟩ ⟨Nat.le_of_ble_eq_true rfl, Nat.le_of_ble_eq_true rfl⟩
  · refine z_iload_n B dX11_cached_4 rfl 1 rfl ?_
    refine z_aload_n B dX11_cached_5 rfl 0 rfl ?_
    refine z_get (ref := "FlowExporter") (C := RX11) (T := TX11) (N := 8) (ci := 13) (v := .ref (x + 80)) B (by decide +kernel) rfl 5 (by decide) (by decide +kernel) rfl hc0_ rfl dX11_cached_6 ?_
    refine z_get (ref := "FlowExporter$Exporter") (C := RX2) (T := TX2) (N := 13) (ci := 4) (v := .ref (x + 81)) B (by decide +kernel) rfl 2 (by decide) (by decide +kernel) rfl hc80_ rfl dX11_cached_9 ?_
    refine z_get (ref := "FlowExporter$FlowTable") (C := RX4) (T := TX4) (N := 2) (ci := 6) (v := .int 0) B (by decide +kernel) rfl 1 (by decide) (by decide +kernel) rfl hc81_ rfl dX11_cached_12 ?_
    refine z_icmp_lt (tgt := 26) B dX11_cached_15 rfl (fun h9 => absurd h9 c_1) (fun c_2 => ?_)
    exact z_throw (cls := xIO) (ik := 153) (ic := 155) B hl9 htab9 (by decide) (by decide +kernel) (by decide +kernel) (by decide +kernel) (by decide +kernel) (by decide +kernel) (by decide +kernel) (by decide +kernel) dX11_cached_18 dX11_cached_21 dX11_cached_22 dX11_cached_25 ⟨Nat.le_of_ble_eq_true rfl, Nat.le_of_ble_eq_true rfl, Nat.le_of_ble_eq_true rfl, Nat.le_of_ble_eq_true rfl⟩ ⟨Nat.le_of_ble_eq_true rfl, Nat.le_of_ble_eq_true rfl⟩

set_option maxHeartbeats 4000000 in
set_option maxRecDepth 100000 in
theorem f_X11_templateFields_x (G : EnvG) (l : Launch) (hl9 : l.stackTraces = false) (Φ : Hm) (sz : Nat) (x : Nat) (a : Int32) (hc0_ : Φ x = some (o_ 13 [.ref (x + 1), .ref (x + 3), .ref (x + 24), .ref (x + 46), .ref (x + 74), .ref (x + 80), .ref (x + 132), .ref (x + 121)])) (hc3_ : Φ (x + 3) = some (o_ 3 [.ref (x + 4), .ref (x + 5), .ref (x + 6), .ref (x + 7), .int 1, .int 511])) (ha : a ≠ 0) : CtX G l yX11_templateFields wsX11_templateFields ({ frames := 7, cells := 1, slots := 6, locals := 102 }) 1 6 [.ref x, .int a] Φ sz xIO := by
  refine CtX.of (cc := cX11_templateFields) (maxL := 2) (ret := (some .int)) (by decide) rfl (Nat.le_of_ble_eq_true rfl) ?_
  intro p9 e9 s9 m9 w9 t9 k9 B htab9
  show Z p9 l e9 _ s9 m9 _ w9 t9 k9 _ G 2 0 [(0, .ref x), (1, .int a)] [] Φ sz 0 0
  refine z_aload_n B dX11_templateFields_0 rfl 0 rfl ?_
  refine z_iload_n B dX11_templateFields_1 rfl 1 rfl ?_
  exact z_callVX (As := [.int a]) (rest := []) B htab9 (f_X11_requireTemplate_x G l hl9 Φ sz x a hc0_ hc3_ ha) (cwV 1 B.1.2.2.2.2 gX11_templateFields_X11_requireTemplate rfl rfl rfl (by decide +kernel) ⟨Nat.le_of_ble_eq_true rfl, Nat.le_of_ble_eq_true rfl⟩) hc0_ rfl rfl rfl rfl (Nat.le_of_ble_eq_true rfl) dX11_templateFields_2 ⟨Nat.le_of_ble_eq_true rfl, Nat.le_of_ble_eq_true rfl⟩ ⟨Nat.le_of_ble_eq_true rfl, Nat.le_of_ble_eq_true rfl⟩

set_option maxHeartbeats 4000000 in
set_option maxRecDepth 100000 in
theorem f_X11_effectiveFields_x (G : EnvG) (l : Launch) (hl9 : l.stackTraces = false) (Φ : Hm) (sz : Nat) (x : Nat) (a : Int32) (hc0_ : Φ x = some (o_ 13 [.ref (x + 1), .ref (x + 3), .ref (x + 24), .ref (x + 46), .ref (x + 74), .ref (x + 80), .ref (x + 132), .ref (x + 121)])) (hc3_ : Φ (x + 3) = some (o_ 3 [.ref (x + 4), .ref (x + 5), .ref (x + 6), .ref (x + 7), .int 1, .int 511])) (ha : a ≠ 0) : CtX G l yX11_effectiveFields wsX11_effectiveFields ({ frames := 7, cells := 1, slots := 6, locals := 102 }) 1 6 [.ref x, .int a] Φ sz xIO := by
  refine CtX.of (cc := cX11_effectiveFields) (maxL := 2) (ret := (some .int)) (by decide) rfl (Nat.le_of_ble_eq_true rfl) ?_
  intro p9 e9 s9 m9 w9 t9 k9 B htab9
  show Z p9 l e9 _ s9 m9 _ w9 t9 k9 _ G 2 0 [(0, .ref x), (1, .int a)] [] Φ sz 0 0
  refine z_aload_n B dX11_effectiveFields_0 rfl 0 rfl ?_
  refine z_iload_n B dX11_effectiveFields_1 rfl 1 rfl ?_
  exact z_callVX (As := [.int a]) (rest := []) B htab9 (f_X11_requireTemplate_x G l hl9 Φ sz x a hc0_ hc3_ ha) (cwV 1 B.1.2.2.2.2 gX11_effectiveFields_X11_requireTemplate rfl rfl rfl (by decide +kernel) ⟨Nat.le_of_ble_eq_true rfl, Nat.le_of_ble_eq_true rfl⟩) hc0_ rfl rfl rfl rfl (Nat.le_of_ble_eq_true rfl) dX11_effectiveFields_2 ⟨Nat.le_of_ble_eq_true rfl, Nat.le_of_ble_eq_true rfl⟩ ⟨Nat.le_of_ble_eq_true rfl, Nat.le_of_ble_eq_true rfl⟩

set_option maxHeartbeats 4000000 in
set_option maxRecDepth 100000 in
theorem f_X11_recordLength_x (G : EnvG) (l : Launch) (hl9 : l.stackTraces = false) (Φ : Hm) (sz : Nat) (x : Nat) (a : Int32) (hc0_ : Φ x = some (o_ 13 [.ref (x + 1), .ref (x + 3), .ref (x + 24), .ref (x + 46), .ref (x + 74), .ref (x + 80), .ref (x + 132), .ref (x + 121)])) (hc3_ : Φ (x + 3) = some (o_ 3 [.ref (x + 4), .ref (x + 5), .ref (x + 6), .ref (x + 7), .int 1, .int 511])) (ha : a ≠ 0) : CtX G l yX11_recordLength wsX11_recordLength ({ frames := 7, cells := 1, slots := 6, locals := 102 }) 1 6 [.ref x, .int a] Φ sz xIO := by
  refine CtX.of (cc := cX11_recordLength) (maxL := 2) (ret := (some .int)) (by decide) rfl (Nat.le_of_ble_eq_true rfl) ?_
  intro p9 e9 s9 m9 w9 t9 k9 B htab9
  show Z p9 l e9 _ s9 m9 _ w9 t9 k9 _ G 2 0 [(0, .ref x), (1, .int a)] [] Φ sz 0 0
  refine z_aload_n B dX11_recordLength_0 rfl 0 rfl ?_
  refine z_iload_n B dX11_recordLength_1 rfl 1 rfl ?_
  exact z_callVX (As := [.int a]) (rest := []) B htab9 (f_X11_requireTemplate_x G l hl9 Φ sz x a hc0_ hc3_ ha) (cwV 1 B.1.2.2.2.2 gX11_recordLength_X11_requireTemplate rfl rfl rfl (by decide +kernel) ⟨Nat.le_of_ble_eq_true rfl, Nat.le_of_ble_eq_true rfl⟩) hc0_ rfl rfl rfl rfl (Nat.le_of_ble_eq_true rfl) dX11_recordLength_2 ⟨Nat.le_of_ble_eq_true rfl, Nat.le_of_ble_eq_true rfl⟩ ⟨Nat.le_of_ble_eq_true rfl, Nat.le_of_ble_eq_true rfl⟩

set_option maxHeartbeats 4000000 in
set_option maxRecDepth 100000 in
theorem f_X11_isDue_x (G : EnvG) (l : Launch) (hl9 : l.stackTraces = false) (Φ : Hm) (sz : Nat) (x : Nat) (a : Int32) (hc0_ : Φ x = some (o_ 13 [.ref (x + 1), .ref (x + 3), .ref (x + 24), .ref (x + 46), .ref (x + 74), .ref (x + 80), .ref (x + 132), .ref (x + 121)])) (hc3_ : Φ (x + 3) = some (o_ 3 [.ref (x + 4), .ref (x + 5), .ref (x + 6), .ref (x + 7), .int 1, .int 511])) (ha : a ≠ 0) : CtX G l yX11_isDue wsX11_isDue ({ frames := 7, cells := 1, slots := 6, locals := 102 }) 1 6 [.ref x, .int a] Φ sz xIO := by
  refine CtX.of (cc := cX11_isDue) (maxL := 2) (ret := (some .boolean)) (by decide) rfl (Nat.le_of_ble_eq_true rfl) ?_
  intro p9 e9 s9 m9 w9 t9 k9 B htab9
  show Z p9 l e9 _ s9 m9 _ w9 t9 k9 _ G 2 0 [(0, .ref x), (1, .int a)] [] Φ sz 0 0
  refine z_aload_n B dX11_isDue_0 rfl 0 rfl ?_
  refine z_iload_n B dX11_isDue_1 rfl 1 rfl ?_
  exact z_callVX (As := [.int a]) (rest := []) B htab9 (f_X11_requireTemplate_x G l hl9 Φ sz x a hc0_ hc3_ ha) (cwV 1 B.1.2.2.2.2 gX11_isDue_X11_requireTemplate rfl rfl rfl (by decide +kernel) ⟨Nat.le_of_ble_eq_true rfl, Nat.le_of_ble_eq_true rfl⟩) hc0_ rfl rfl rfl rfl (Nat.le_of_ble_eq_true rfl) dX11_isDue_2 ⟨Nat.le_of_ble_eq_true rfl, Nat.le_of_ble_eq_true rfl⟩ ⟨Nat.le_of_ble_eq_true rfl, Nat.le_of_ble_eq_true rfl⟩

set_option maxHeartbeats 4000000 in
set_option maxRecDepth 100000 in
theorem f_X11_fieldAt_x (G : EnvG) (l : Launch) (hl9 : l.stackTraces = false) (Φ : Hm) (sz : Nat) (x : Nat) (a : Int32) (b : Int32) (hc0_ : Φ x = some (o_ 13 [.ref (x + 1), .ref (x + 3), .ref (x + 24), .ref (x + 46), .ref (x + 74), .ref (x + 80), .ref (x + 132), .ref (x + 121)])) (hc3_ : Φ (x + 3) = some (o_ 3 [.ref (x + 4), .ref (x + 5), .ref (x + 6), .ref (x + 7), .int 1, .int 511])) (ha : a ≠ 0) : CtX G l yX11_fieldAt wsX11_fieldAt ({ frames := 7, cells := 1, slots := 6, locals := 102 }) 1 6 [.ref x, .int a, .int b] Φ sz xIO := by
  refine CtX.of (cc := cX11_fieldAt) (maxL := 3) (ret := (some .int)) (by decide) rfl (Nat.le_of_ble_eq_true rfl) ?_
  intro p9 e9 s9 m9 w9 t9 k9 B htab9
  show Z p9 l e9 _ s9 m9 _ w9 t9 k9 _ G 3 0 [(0, .ref x), (1, .int a), (2, .int b)] [] Φ sz 0 0
  refine z_aload_n B dX11_fieldAt_0 rfl 0 rfl ?_
  refine z_iload_n B dX11_fieldAt_1 rfl 1 rfl ?_
  exact z_callVX (As := [.int a]) (rest := []) B htab9 (f_X11_requireTemplate_x G l hl9 Φ sz x a hc0_ hc3_ ha) (cwV 1 B.1.2.2.2.2 gX11_fieldAt_X11_requireTemplate rfl rfl rfl (by decide +kernel) ⟨Nat.le_of_ble_eq_true rfl, Nat.le_of_ble_eq_true rfl⟩) hc0_ rfl rfl rfl rfl (Nat.le_of_ble_eq_true rfl) dX11_fieldAt_2 ⟨Nat.le_of_ble_eq_true rfl, Nat.le_of_ble_eq_true rfl⟩ ⟨Nat.le_of_ble_eq_true rfl, Nat.le_of_ble_eq_true rfl⟩

set_option maxHeartbeats 4000000 in
set_option maxRecDepth 100000 in
theorem f_X11_messageLength_x (G : EnvG) (l : Launch) (hl9 : l.stackTraces = false) (Φ : Hm) (sz : Nat) (x : Nat) (a : Int32) (hc0_ : Φ x = some (o_ 13 [.ref (x + 1), .ref (x + 3), .ref (x + 24), .ref (x + 46), .ref (x + 74), .ref (x + 80), .ref (x + 132), .ref (x + 121)])) (hc46_ : Φ (x + 46) = some (o_ 9 [.ref (x + 47), .int 0, .int 0])) : CtX G l yX11_messageLength wsX11_messageLength ({ frames := 7, cells := 1, slots := 6, locals := 102 }) 1 6 [.ref x, .int a] Φ sz xIO := by
  refine CtX.of (cc := cX11_messageLength) (maxL := 2) (ret := (some .int)) (by decide) rfl (Nat.le_of_ble_eq_true rfl) ?_
  intro p9 e9 s9 m9 w9 t9 k9 B htab9
  show Z p9 l e9 _ s9 m9 _ w9 t9 k9 _ G 2 0 [(0, .ref x), (1, .int a)] [] Φ sz 0 0
  refine z_aload_n B dX11_messageLength_0 rfl 0 rfl ?_
  refine z_iload_n B dX11_messageLength_1 rfl 1 rfl ?_
  exact z_callVX (As := [.int a]) (rest := []) B htab9 (f_X11_requireMessage_x G l hl9 Φ sz x a hc0_ hc46_) (cwV 1 B.1.2.2.2.2 gX11_messageLength_X11_requireMessage rfl rfl rfl (by decide +kernel) ⟨Nat.le_of_ble_eq_true rfl, Nat.le_of_ble_eq_true rfl⟩) hc0_ rfl rfl rfl rfl (Nat.le_of_ble_eq_true rfl) dX11_messageLength_2 ⟨Nat.le_of_ble_eq_true rfl, Nat.le_of_ble_eq_true rfl⟩ ⟨Nat.le_of_ble_eq_true rfl, Nat.le_of_ble_eq_true rfl⟩

set_option maxHeartbeats 4000000 in
set_option maxRecDepth 100000 in
theorem f_X11_messageByte_x (G : EnvG) (l : Launch) (hl9 : l.stackTraces = false) (Φ : Hm) (sz : Nat) (x : Nat) (a : Int32) (b : Int32) (hc0_ : Φ x = some (o_ 13 [.ref (x + 1), .ref (x + 3), .ref (x + 24), .ref (x + 46), .ref (x + 74), .ref (x + 80), .ref (x + 132), .ref (x + 121)])) (hc46_ : Φ (x + 46) = some (o_ 9 [.ref (x + 47), .int 0, .int 0])) : CtX G l yX11_messageByte wsX11_messageByte ({ frames := 7, cells := 1, slots := 6, locals := 102 }) 1 6 [.ref x, .int a, .int b] Φ sz xIO := by
  refine CtX.of (cc := cX11_messageByte) (maxL := 3) (ret := (some .int)) (by decide) rfl (Nat.le_of_ble_eq_true rfl) ?_
  intro p9 e9 s9 m9 w9 t9 k9 B htab9
  show Z p9 l e9 _ s9 m9 _ w9 t9 k9 _ G 3 0 [(0, .ref x), (1, .int a), (2, .int b)] [] Φ sz 0 0
  refine z_aload_n B dX11_messageByte_0 rfl 0 rfl ?_
  refine z_iload_n B dX11_messageByte_1 rfl 1 rfl ?_
  exact z_callVX (As := [.int a]) (rest := []) B htab9 (f_X11_requireMessage_x G l hl9 Φ sz x a hc0_ hc46_) (cwV 1 B.1.2.2.2.2 gX11_messageByte_X11_requireMessage rfl rfl rfl (by decide +kernel) ⟨Nat.le_of_ble_eq_true rfl, Nat.le_of_ble_eq_true rfl⟩) hc0_ rfl rfl rfl rfl (Nat.le_of_ble_eq_true rfl) dX11_messageByte_2 ⟨Nat.le_of_ble_eq_true rfl, Nat.le_of_ble_eq_true rfl⟩ ⟨Nat.le_of_ble_eq_true rfl, Nat.le_of_ble_eq_true rfl⟩

set_option maxHeartbeats 4000000 in
set_option maxRecDepth 100000 in
theorem f_X11_deliver_x (G : EnvG) (l : Launch) (hl9 : l.stackTraces = false) (Φ : Hm) (sz : Nat) (x : Nat) (a : Int32) (hc0_ : Φ x = some (o_ 13 [.ref (x + 1), .ref (x + 3), .ref (x + 24), .ref (x + 46), .ref (x + 74), .ref (x + 80), .ref (x + 132), .ref (x + 121)])) (hc46_ : Φ (x + 46) = some (o_ 9 [.ref (x + 47), .int 0, .int 0])) : CtX G l yX11_deliver wsX11_deliver ({ frames := 7, cells := 1, slots := 6, locals := 102 }) 1 6 [.ref x, .int a] Φ sz xIO := by
  refine CtX.of (cc := cX11_deliver) (maxL := 2) (ret := (some .int)) (by decide) rfl (Nat.le_of_ble_eq_true rfl) ?_
  intro p9 e9 s9 m9 w9 t9 k9 B htab9
  show Z p9 l e9 _ s9 m9 _ w9 t9 k9 _ G 2 0 [(0, .ref x), (1, .int a)] [] Φ sz 0 0
  refine z_aload_n B dX11_deliver_0 rfl 0 rfl ?_
  refine z_iload_n B dX11_deliver_1 rfl 1 rfl ?_
  exact z_callVX (As := [.int a]) (rest := []) B htab9 (f_X11_requireMessage_x G l hl9 Φ sz x a hc0_ hc46_) (cwV 1 B.1.2.2.2.2 gX11_deliver_X11_requireMessage rfl rfl rfl (by decide +kernel) ⟨Nat.le_of_ble_eq_true rfl, Nat.le_of_ble_eq_true rfl⟩) hc0_ rfl rfl rfl rfl (Nat.le_of_ble_eq_true rfl) dX11_deliver_2 ⟨Nat.le_of_ble_eq_true rfl, Nat.le_of_ble_eq_true rfl⟩ ⟨Nat.le_of_ble_eq_true rfl, Nat.le_of_ble_eq_true rfl⟩

set_option maxHeartbeats 4000000 in
set_option maxRecDepth 100000 in
theorem f_X11_lose_x (G : EnvG) (l : Launch) (hl9 : l.stackTraces = false) (Φ : Hm) (sz : Nat) (x : Nat) (a : Int32) (hc0_ : Φ x = some (o_ 13 [.ref (x + 1), .ref (x + 3), .ref (x + 24), .ref (x + 46), .ref (x + 74), .ref (x + 80), .ref (x + 132), .ref (x + 121)])) (hc46_ : Φ (x + 46) = some (o_ 9 [.ref (x + 47), .int 0, .int 0])) : CtX G l yX11_lose wsX11_lose ({ frames := 7, cells := 1, slots := 6, locals := 102 }) 1 6 [.ref x, .int a] Φ sz xIO := by
  refine CtX.of (cc := cX11_lose) (maxL := 2) (ret := (some .int)) (by decide) rfl (Nat.le_of_ble_eq_true rfl) ?_
  intro p9 e9 s9 m9 w9 t9 k9 B htab9
  show Z p9 l e9 _ s9 m9 _ w9 t9 k9 _ G 2 0 [(0, .ref x), (1, .int a)] [] Φ sz 0 0
  refine z_aload_n B dX11_lose_0 rfl 0 rfl ?_
  refine z_iload_n B dX11_lose_1 rfl 1 rfl ?_
  exact z_callVX (As := [.int a]) (rest := []) B htab9 (f_X11_requireMessage_x G l hl9 Φ sz x a hc0_ hc46_) (cwV 1 B.1.2.2.2.2 gX11_lose_X11_requireMessage rfl rfl rfl (by decide +kernel) ⟨Nat.le_of_ble_eq_true rfl, Nat.le_of_ble_eq_true rfl⟩) hc0_ rfl rfl rfl rfl (Nat.le_of_ble_eq_true rfl) dX11_lose_2 ⟨Nat.le_of_ble_eq_true rfl, Nat.le_of_ble_eq_true rfl⟩ ⟨Nat.le_of_ble_eq_true rfl, Nat.le_of_ble_eq_true rfl⟩

set_option maxHeartbeats 4000000 in
set_option maxRecDepth 100000 in
theorem f_X11_duplicate_x (G : EnvG) (l : Launch) (hl9 : l.stackTraces = false) (Φ : Hm) (sz : Nat) (x : Nat) (a : Int32) (hc0_ : Φ x = some (o_ 13 [.ref (x + 1), .ref (x + 3), .ref (x + 24), .ref (x + 46), .ref (x + 74), .ref (x + 80), .ref (x + 132), .ref (x + 121)])) (hc46_ : Φ (x + 46) = some (o_ 9 [.ref (x + 47), .int 0, .int 0])) : CtX G l yX11_duplicate wsX11_duplicate ({ frames := 7, cells := 1, slots := 6, locals := 102 }) 1 6 [.ref x, .int a] Φ sz xIO := by
  refine CtX.of (cc := cX11_duplicate) (maxL := 3) (ret := (some .boolean)) (by decide) rfl (Nat.le_of_ble_eq_true rfl) ?_
  intro p9 e9 s9 m9 w9 t9 k9 B htab9
  show Z p9 l e9 _ s9 m9 _ w9 t9 k9 _ G 3 0 [(0, .ref x), (1, .int a)] [] Φ sz 0 0
  refine z_aload_n B dX11_duplicate_0 rfl 0 rfl ?_
  refine z_iload_n B dX11_duplicate_1 rfl 1 rfl ?_
  exact z_callVX (As := [.int a]) (rest := []) B htab9 (f_X11_requireMessage_x G l hl9 Φ sz x a hc0_ hc46_) (cwV 1 B.1.2.2.2.2 gX11_duplicate_X11_requireMessage rfl rfl rfl (by decide +kernel) ⟨Nat.le_of_ble_eq_true rfl, Nat.le_of_ble_eq_true rfl⟩) hc0_ rfl rfl rfl rfl (Nat.le_of_ble_eq_true rfl) dX11_duplicate_2 ⟨Nat.le_of_ble_eq_true rfl, Nat.le_of_ble_eq_true rfl⟩ ⟨Nat.le_of_ble_eq_true rfl, Nat.le_of_ble_eq_true rfl⟩

set_option maxHeartbeats 4000000 in
set_option maxRecDepth 100000 in
theorem f_X11_exchange_x (G : EnvG) (l : Launch) (hl9 : l.stackTraces = false) (Φ : Hm) (sz : Nat) (x : Nat) (a : Int32) (b : Int32) (hc0_ : Φ x = some (o_ 13 [.ref (x + 1), .ref (x + 3), .ref (x + 24), .ref (x + 46), .ref (x + 74), .ref (x + 80), .ref (x + 132), .ref (x + 121)])) (hc46_ : Φ (x + 46) = some (o_ 9 [.ref (x + 47), .int 0, .int 0])) : CtX G l yX11_exchange wsX11_exchange ({ frames := 7, cells := 1, slots := 6, locals := 102 }) 1 6 [.ref x, .int a, .int b] Φ sz xIO := by
  refine CtX.of (cc := cX11_exchange) (maxL := 3) (ret := (some .boolean)) (by decide) rfl (Nat.le_of_ble_eq_true rfl) ?_
  intro p9 e9 s9 m9 w9 t9 k9 B htab9
  show Z p9 l e9 _ s9 m9 _ w9 t9 k9 _ G 3 0 [(0, .ref x), (1, .int a), (2, .int b)] [] Φ sz 0 0
  refine z_aload_n B dX11_exchange_0 rfl 0 rfl ?_
  refine z_iload_n B dX11_exchange_1 rfl 1 rfl ?_
  exact z_callVX (As := [.int a]) (rest := []) B htab9 (f_X11_requireMessage_x G l hl9 Φ sz x a hc0_ hc46_) (cwV 1 B.1.2.2.2.2 gX11_exchange_X11_requireMessage rfl rfl rfl (by decide +kernel) ⟨Nat.le_of_ble_eq_true rfl, Nat.le_of_ble_eq_true rfl⟩) hc0_ rfl rfl rfl rfl (Nat.le_of_ble_eq_true rfl) dX11_exchange_2 ⟨Nat.le_of_ble_eq_true rfl, Nat.le_of_ble_eq_true rfl⟩ ⟨Nat.le_of_ble_eq_true rfl, Nat.le_of_ble_eq_true rfl⟩

set_option maxHeartbeats 4000000 in
set_option maxRecDepth 100000 in
theorem f_X11_key_x (G : EnvG) (l : Launch) (hl9 : l.stackTraces = false) (Φ : Hm) (sz : Nat) (x : Nat) (a : Int32) (b : Int32) (hc0_ : Φ x = some (o_ 13 [.ref (x + 1), .ref (x + 3), .ref (x + 24), .ref (x + 46), .ref (x + 74), .ref (x + 80), .ref (x + 132), .ref (x + 121)])) (hc121_ : Φ (x + 121) = some (o_ 11 [.ref (x + 122), .ref (x + 123), .ref (x + 126), .ref (x + 129), .int 0])) : CtX G l yX11_key wsX11_key ({ frames := 7, cells := 1, slots := 6, locals := 102 }) 1 6 [.ref x, .int a, .int b] Φ sz xIO := by
  refine CtX.of (cc := cX11_key) (maxL := 3) (ret := (some .int)) (by decide) rfl (Nat.le_of_ble_eq_true rfl) ?_
  intro p9 e9 s9 m9 w9 t9 k9 B htab9
  show Z p9 l e9 _ s9 m9 _ w9 t9 k9 _ G 3 0 [(0, .ref x), (1, .int a), (2, .int b)] [] Φ sz 0 0
  refine z_aload_n B dX11_key_0 rfl 0 rfl ?_
  refine z_iload_n B dX11_key_1 rfl 1 rfl ?_
  exact z_callVX (As := [.int a]) (rest := []) B htab9 (f_X11_requireKey_x G l hl9 Φ sz x a hc0_ hc121_) (cwV 1 B.1.2.2.2.2 gX11_key_X11_requireKey rfl rfl rfl (by decide +kernel) ⟨Nat.le_of_ble_eq_true rfl, Nat.le_of_ble_eq_true rfl⟩) hc0_ rfl rfl rfl rfl (Nat.le_of_ble_eq_true rfl) dX11_key_2 ⟨Nat.le_of_ble_eq_true rfl, Nat.le_of_ble_eq_true rfl⟩ ⟨Nat.le_of_ble_eq_true rfl, Nat.le_of_ble_eq_true rfl⟩

set_option maxHeartbeats 4000000 in
set_option maxRecDepth 100000 in
theorem f_X11_raw_x (G : EnvG) (l : Launch) (hl9 : l.stackTraces = false) (Φ : Hm) (sz : Nat) (x : Nat) (a : Int32) (b : Int32) (hc0_ : Φ x = some (o_ 13 [.ref (x + 1), .ref (x + 3), .ref (x + 24), .ref (x + 46), .ref (x + 74), .ref (x + 80), .ref (x + 132), .ref (x + 121)])) (hc121_ : Φ (x + 121) = some (o_ 11 [.ref (x + 122), .ref (x + 123), .ref (x + 126), .ref (x + 129), .int 0])) : CtX G l yX11_raw wsX11_raw ({ frames := 7, cells := 1, slots := 6, locals := 102 }) 1 6 [.ref x, .int a, .int b] Φ sz xIO := by
  refine CtX.of (cc := cX11_raw) (maxL := 3) (ret := (some .long)) (by decide) rfl (Nat.le_of_ble_eq_true rfl) ?_
  intro p9 e9 s9 m9 w9 t9 k9 B htab9
  show Z p9 l e9 _ s9 m9 _ w9 t9 k9 _ G 3 0 [(0, .ref x), (1, .int a), (2, .int b)] [] Φ sz 0 0
  refine z_aload_n B dX11_raw_0 rfl 0 rfl ?_
  refine z_iload_n B dX11_raw_1 rfl 1 rfl ?_
  exact z_callVX (As := [.int a]) (rest := []) B htab9 (f_X11_requireKey_x G l hl9 Φ sz x a hc0_ hc121_) (cwV 1 B.1.2.2.2.2 gX11_raw_X11_requireKey rfl rfl rfl (by decide +kernel) ⟨Nat.le_of_ble_eq_true rfl, Nat.le_of_ble_eq_true rfl⟩) hc0_ rfl rfl rfl rfl (Nat.le_of_ble_eq_true rfl) dX11_raw_2 ⟨Nat.le_of_ble_eq_true rfl, Nat.le_of_ble_eq_true rfl⟩ ⟨Nat.le_of_ble_eq_true rfl, Nat.le_of_ble_eq_true rfl⟩

set_option maxHeartbeats 4000000 in
set_option maxRecDepth 100000 in
theorem f_X11_estimate_x (G : EnvG) (l : Launch) (hl9 : l.stackTraces = false) (Φ : Hm) (sz : Nat) (x : Nat) (a : Int32) (b : Int32) (hc0_ : Φ x = some (o_ 13 [.ref (x + 1), .ref (x + 3), .ref (x + 24), .ref (x + 46), .ref (x + 74), .ref (x + 80), .ref (x + 132), .ref (x + 121)])) (hc121_ : Φ (x + 121) = some (o_ 11 [.ref (x + 122), .ref (x + 123), .ref (x + 126), .ref (x + 129), .int 0])) : CtX G l yX11_estimate wsX11_estimate ({ frames := 7, cells := 1, slots := 6, locals := 102 }) 1 6 [.ref x, .int a, .int b] Φ sz xIO := by
  refine CtX.of (cc := cX11_estimate) (maxL := 3) (ret := (some .long)) (by decide) rfl (Nat.le_of_ble_eq_true rfl) ?_
  intro p9 e9 s9 m9 w9 t9 k9 B htab9
  show Z p9 l e9 _ s9 m9 _ w9 t9 k9 _ G 3 0 [(0, .ref x), (1, .int a), (2, .int b)] [] Φ sz 0 0
  refine z_aload_n B dX11_estimate_0 rfl 0 rfl ?_
  refine z_iload_n B dX11_estimate_1 rfl 1 rfl ?_
  exact z_callVX (As := [.int a]) (rest := []) B htab9 (f_X11_requireKey_x G l hl9 Φ sz x a hc0_ hc121_) (cwV 1 B.1.2.2.2.2 gX11_estimate_X11_requireKey rfl rfl rfl (by decide +kernel) ⟨Nat.le_of_ble_eq_true rfl, Nat.le_of_ble_eq_true rfl⟩) hc0_ rfl rfl rfl rfl (Nat.le_of_ble_eq_true rfl) dX11_estimate_2 ⟨Nat.le_of_ble_eq_true rfl, Nat.le_of_ble_eq_true rfl⟩ ⟨Nat.le_of_ble_eq_true rfl, Nat.le_of_ble_eq_true rfl⟩

set_option maxHeartbeats 4000000 in
set_option maxRecDepth 100000 in
theorem f_X11_lower_x (G : EnvG) (l : Launch) (hl9 : l.stackTraces = false) (Φ : Hm) (sz : Nat) (x : Nat) (a : Int32) (b : Int32) (hc0_ : Φ x = some (o_ 13 [.ref (x + 1), .ref (x + 3), .ref (x + 24), .ref (x + 46), .ref (x + 74), .ref (x + 80), .ref (x + 132), .ref (x + 121)])) (hc121_ : Φ (x + 121) = some (o_ 11 [.ref (x + 122), .ref (x + 123), .ref (x + 126), .ref (x + 129), .int 0])) : CtX G l yX11_lower wsX11_lower ({ frames := 7, cells := 1, slots := 6, locals := 102 }) 1 6 [.ref x, .int a, .int b] Φ sz xIO := by
  refine CtX.of (cc := cX11_lower) (maxL := 3) (ret := (some .double)) (by decide) rfl (Nat.le_of_ble_eq_true rfl) ?_
  intro p9 e9 s9 m9 w9 t9 k9 B htab9
  show Z p9 l e9 _ s9 m9 _ w9 t9 k9 _ G 3 0 [(0, .ref x), (1, .int a), (2, .int b)] [] Φ sz 0 0
  refine z_aload_n B dX11_lower_0 rfl 0 rfl ?_
  refine z_iload_n B dX11_lower_1 rfl 1 rfl ?_
  exact z_callVX (As := [.int a]) (rest := []) B htab9 (f_X11_requireKey_x G l hl9 Φ sz x a hc0_ hc121_) (cwV 1 B.1.2.2.2.2 gX11_lower_X11_requireKey rfl rfl rfl (by decide +kernel) ⟨Nat.le_of_ble_eq_true rfl, Nat.le_of_ble_eq_true rfl⟩) hc0_ rfl rfl rfl rfl (Nat.le_of_ble_eq_true rfl) dX11_lower_2 ⟨Nat.le_of_ble_eq_true rfl, Nat.le_of_ble_eq_true rfl⟩ ⟨Nat.le_of_ble_eq_true rfl, Nat.le_of_ble_eq_true rfl⟩

set_option maxHeartbeats 4000000 in
set_option maxRecDepth 100000 in
theorem f_X11_upper_x (G : EnvG) (l : Launch) (hl9 : l.stackTraces = false) (Φ : Hm) (sz : Nat) (x : Nat) (a : Int32) (b : Int32) (hc0_ : Φ x = some (o_ 13 [.ref (x + 1), .ref (x + 3), .ref (x + 24), .ref (x + 46), .ref (x + 74), .ref (x + 80), .ref (x + 132), .ref (x + 121)])) (hc121_ : Φ (x + 121) = some (o_ 11 [.ref (x + 122), .ref (x + 123), .ref (x + 126), .ref (x + 129), .int 0])) : CtX G l yX11_upper wsX11_upper ({ frames := 7, cells := 1, slots := 6, locals := 102 }) 1 6 [.ref x, .int a, .int b] Φ sz xIO := by
  refine CtX.of (cc := cX11_upper) (maxL := 3) (ret := (some .double)) (by decide) rfl (Nat.le_of_ble_eq_true rfl) ?_
  intro p9 e9 s9 m9 w9 t9 k9 B htab9
  show Z p9 l e9 _ s9 m9 _ w9 t9 k9 _ G 3 0 [(0, .ref x), (1, .int a), (2, .int b)] [] Φ sz 0 0
  refine z_aload_n B dX11_upper_0 rfl 0 rfl ?_
  refine z_iload_n B dX11_upper_1 rfl 1 rfl ?_
  exact z_callVX (As := [.int a]) (rest := []) B htab9 (f_X11_requireKey_x G l hl9 Φ sz x a hc0_ hc121_) (cwV 1 B.1.2.2.2.2 gX11_upper_X11_requireKey rfl rfl rfl (by decide +kernel) ⟨Nat.le_of_ble_eq_true rfl, Nat.le_of_ble_eq_true rfl⟩) hc0_ rfl rfl rfl rfl (Nat.le_of_ble_eq_true rfl) dX11_upper_2 ⟨Nat.le_of_ble_eq_true rfl, Nat.le_of_ble_eq_true rfl⟩ ⟨Nat.le_of_ble_eq_true rfl, Nat.le_of_ble_eq_true rfl⟩

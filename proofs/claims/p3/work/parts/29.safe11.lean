set_option maxHeartbeats 4000000 in
set_option maxRecDepth 100000 in
theorem s_X11_setAdaptive (G : EnvG) (l : Launch) (Φ : Hm) (sz x ca : Nat) (a : Int32) (hx : G.2.2.2 ≤ x) (hI : In G x ca Φ) (ha : a = 0 ∨ a = 1) : Ct G l yX11_setAdaptive wsX11_setAdaptive ({ frames := 0, cells := 0, slots := 0, locals := 0 }) 0 0 [.ref x, .int a] Φ sz (fun v Φ1 sz1 => (∃ r9 : Int32, v = some (.int r9) ∧ (r9 = 0 ∨ r9 = 1)) ∧ sz1 = sz ∧ In G x (ca) Φ1 ∧ Fr x (fun j9 => 2 ≤ j9 ∧ j9 < 149) Φ Φ1) := by
  refine Ct.of (cc := cX11_setAdaptive) (maxL := 3) (ret := (some .boolean)) (by decide) rfl (Nat.le_of_ble_eq_true rfl) ?_
  intro p9 e9 s9 m9 w9 t9 k9 B
  show Z p9 l e9 _ s9 m9 _ w9 t9 k9 _ G 3 0 [(0, .ref x), (1, .int a)] [] Φ sz 0 0
  refine z_aload_n B dX11_setAdaptive_0 rfl 0 rfl ?_
  have h_1 := in0 (k := 0) hI rfl
  have h_2 : Φ x = some (o_ 13 [.ref (x + 1), .ref (x + 3), .ref (x + 24), .ref (x + 46), .ref (x + 74), .ref (x + 80), .ref (x + 132), .ref (x + 121)]) := h_1
  refine z_get (ref := "FlowExporter") (C := RX11) (T := TX11) (N := 8) (ci := 13) (v := .ref (x + 80)) B (by decide +kernel) rfl 5 (by decide) (by decide +kernel) rfl h_2 rfl dX11_setAdaptive_1 ?_
  obtain ⟨v_1, v_2, v_3, v_4, v_5, v_6, v_7, v_8, v_9, h_3, b_1⟩ := in16 (k := 80) hI rfl
  have h_4 : Φ (x + 80) = some (o_ 4 [.ref (x + 3), .ref (x + 74), .ref (x + 81), .ref (x + 95), .int v_1, .int v_2, .int v_3, .int v_4, .int v_5, .int v_6, .long v_7, .long v_8, .long v_9]) := h_3
  refine z_get (ref := "FlowExporter$Exporter") (C := RX2) (T := TX2) (N := 13) (ci := 4) (v := .int v_4) B (by decide +kernel) rfl 7 (by decide) (by decide +kernel) rfl h_4 rfl dX11_setAdaptive_4 ?_
  refine z_istore_n (lv' := [(2, .int v_4), (0, .ref x), (1, .int a)]) B dX11_setAdaptive_7 rfl (Nat.le_of_ble_eq_true rfl) rfl ?_
  refine z_aload_n B dX11_setAdaptive_8 rfl 1 rfl ?_
  refine z_get (ref := "FlowExporter") (C := RX11) (T := TX11) (N := 8) (ci := 13) (v := .ref (x + 80)) B (by decide +kernel) rfl 5 (by decide) (by decide +kernel) rfl h_2 rfl dX11_setAdaptive_9 ?_
  refine z_iload_n B dX11_setAdaptive_12 rfl 2 rfl ?_
  refine z_put (ref := "FlowExporter$Exporter") (C := RX2) (T := TX2) (N := 13) (ci := 4) (v := .int a) B (by decide +kernel) tyX2 tyX2_ok nmX2 rfl 7 (by decide) (by decide +kernel) rfl (Or.inl rfl) h_4 (Nat.le_trans hx (Nat.le_add_right x 80)) (nar_z ha) (fit_z ha) (Nat.le_of_ble_eq_true rfl) dX11_setAdaptive_13 (fun Φ1 hΦ1 => ?_)
  have h_5 : Φ1 (x + 80) = some (o_ 4 [.ref (x + 3), .ref (x + 74), .ref (x + 81), .ref (x + 95), .int v_1, .int v_2, .int v_3, .int a, .int v_5, .int v_6, .long v_7, .long v_8, .long v_9]) := fset_at hΦ1
  have hI1 : In G x (ca) Φ1 := In.put (k := 80) hI hΦ1 (ok16 (k := 80) rfl ⟨v_1, v_2, v_3, a, v_5, v_6, v_7, v_8, v_9, rfl, ha⟩)
  refine z_iload_n B dX11_setAdaptive_16 rfl 0 rfl ?_
  exact z_ret_z B dX11_setAdaptive_17 b_1 ⟨⟨_, rfl, b_1⟩, rfl, hI1, (fun b9 h9 => ((fset_fr hΦ1 (fun h8 => h9 (80) h8 (show 2 ≤ 80 ∧ 80 < 149 by omega))).trans rfl))⟩

set_option maxHeartbeats 4000000 in
set_option maxRecDepth 100000 in
theorem s_X11_setSeed (G : EnvG) (l : Launch) (Φ : Hm) (sz x ca : Nat) (a : Int32) (hx : G.2.2.2 ≤ x) (hI : In G x ca Φ)  : Ct G l yX11_setSeed wsX11_setSeed ({ frames := 0, cells := 0, slots := 0, locals := 0 }) 0 0 [.ref x, .int a] Φ sz (fun v Φ1 sz1 => (∃ r9 : Int32, v = some (.int r9) ∧ (r9 = 0 ∨ r9 = 1)) ∧ sz1 = sz ∧ In G x (ca) Φ1 ∧ Fr x (fun j9 => 2 ≤ j9 ∧ j9 < 149) Φ Φ1) := by
  refine Ct.of (cc := cX11_setSeed) (maxL := 2) (ret := (some .boolean)) (by decide) rfl (Nat.le_of_ble_eq_true rfl) ?_
  intro p9 e9 s9 m9 w9 t9 k9 B
  show Z p9 l e9 _ s9 m9 _ w9 t9 k9 _ G 2 0 [(0, .ref x), (1, .int a)] [] Φ sz 0 0
  refine z_iload_n B dX11_setSeed_0 rfl 1 rfl ?_
  refine z_if_ge (tgt := 6) B dX11_setSeed_1 rfl (fun c_1 => ?_) (fun c_1 => ?_)
  · obtain ⟨n_1, e_1, rfl⟩ := nI_of (Int32.not_lt.mpr c_1)
    refine z_aload_n B dX11_setSeed_6 rfl 0 rfl ?_
    have h_1 := in0 (k := 0) hI rfl
    have h_2 : Φ x = some (o_ 13 [.ref (x + 1), .ref (x + 3), .ref (x + 24), .ref (x + 46), .ref (x + 74), .ref (x + 80), .ref (x + 132), .ref (x + 121)]) := h_1
    refine z_get (ref := "FlowExporter") (C := RX11) (T := TX11) (N := 8) (ci := 13) (v := .ref (x + 80)) B (by decide +kernel) rfl 5 (by decide) (by decide +kernel) rfl h_2 rfl dX11_setSeed_7 ?_
    refine z_iload_n B dX11_setSeed_10 rfl 1 rfl ?_
    obtain ⟨v_1, v_2, v_3, v_4, v_5, v_6, v_7, v_8, v_9, h_3, b_1⟩ := in16 (k := 80) hI rfl
    have h_4 : Φ (x + 80) = some (o_ 4 [.ref (x + 3), .ref (x + 74), .ref (x + 81), .ref (x + 95), .int v_1, .int v_2, .int v_3, .int v_4, .int v_5, .int v_6, .long v_7, .long v_8, .long v_9]) := h_3
    refine z_put (ref := "FlowExporter$Exporter") (C := RX2) (T := TX2) (N := 13) (ci := 4) (v := .int (nI n_1)) B (by decide +kernel) tyX2 tyX2_ok nmX2 rfl 6 (by decide) (by decide +kernel) rfl (Or.inl rfl) h_4 (Nat.le_trans hx (Nat.le_add_right x 80)) rfl rfl (Nat.le_of_ble_eq_true rfl) dX11_setSeed_11 (fun Φ1 hΦ1 => ?_)
    have h_5 : Φ1 (x + 80) = some (o_ 4 [.ref (x + 3), .ref (x + 74), .ref (x + 81), .ref (x + 95), .int v_1, .int v_2, .int (nI n_1), .int v_4, .int v_5, .int v_6, .long v_7, .long v_8, .long v_9]) := fset_at hΦ1
    have hI1 : In G x (ca) Φ1 := In.put (k := 80) hI hΦ1 (ok16 (k := 80) rfl ⟨v_1, v_2, nI n_1, v_4, v_5, v_6, v_7, v_8, v_9, rfl, b_1⟩)
    refine z_iconst (v := 1) B dX11_setSeed_14 rfl ?_
    exact z_ret_z B dX11_setSeed_15 (by decide) ⟨⟨_, rfl, by decide⟩, rfl, hI1, (fun b9 h9 => ((fset_fr hΦ1 (fun h8 => h9 (80) h8 (show 2 ≤ 80 ∧ 80 < 149 by omega))).trans rfl))⟩
  · refine z_iconst (v := 0) B dX11_setSeed_4 rfl ?_
    exact z_ret_z B dX11_setSeed_5 (by decide) ⟨⟨_, rfl, by decide⟩, rfl, hI, (fun b9 h9 => rfl)⟩

set_option maxHeartbeats 4000000 in
set_option maxRecDepth 100000 in
theorem s_X11_find (G : EnvG) (l : Launch) (Φ : Hm) (sz x ca : Nat) (a : Int32) (b : Int32) (d : Int32) (f : Int32) (hx : G.2.2.2 ≤ x) (hI : In G x ca Φ)  : Ct G l yX11_find wsX11_find ({ frames := 1, cells := 0, slots := 0, locals := 23 }) 0 0 [.ref x, .int a, .int b, .int d, .int f] Φ sz (fun v Φ1 sz1 => (∃ r9 : Int32, v = some (.int r9)) ∧ sz1 = sz ∧ In G x (ca) Φ1 ∧ Fr x (fun j9 => 2 ≤ j9 ∧ j9 < 149) Φ Φ1) := by
  refine Ct.of (cc := cX11_find) (maxL := 5) (ret := (some .int)) (by decide) rfl (Nat.le_of_ble_eq_true rfl) ?_
  intro p9 e9 s9 m9 w9 t9 k9 B
  show Z p9 l e9 _ s9 m9 _ w9 t9 k9 _ G 5 0 [(0, .ref x), (1, .int a), (2, .int b), (3, .int d), (4, .int f)] [] Φ sz 0 0
  refine z_aload_n B dX11_find_0 rfl 0 rfl ?_
  have h_1 := in0 (k := 0) hI rfl
  have h_2 : Φ x = some (o_ 13 [.ref (x + 1), .ref (x + 3), .ref (x + 24), .ref (x + 46), .ref (x + 74), .ref (x + 80), .ref (x + 132), .ref (x + 121)]) := h_1
  refine z_get (ref := "FlowExporter") (C := RX11) (T := TX11) (N := 8) (ci := 13) (v := .ref (x + 121)) B (by decide +kernel) rfl 7 (by decide) (by decide +kernel) rfl h_2 rfl dX11_find_1 ?_
  refine z_iload_n B dX11_find_4 rfl 1 rfl ?_
  refine z_iload_n B dX11_find_5 rfl 2 rfl ?_
  refine z_iload_n B dX11_find_6 rfl 3 rfl ?_
  refine z_iload B dX11_find_7 4 rfl ?_
  refine z_callS (As := [.int a, .int b, .int d, .int f]) (rest := [.ref (x + 121)]) B (s_X3_keyOf G l Φ sz x (ca) a b d f hx hI ) (va_cwS 4 B.1.2.2.2.2 gX11_find_X3_keyOf rfl rfl rfl (by decide +kernel) ⟨Nat.le_of_ble_eq_true rfl, Nat.le_of_ble_eq_true rfl⟩) rfl rfl (Nat.le_of_ble_eq_true rfl) dX11_find_9 ⟨Nat.le_of_ble_eq_true rfl, Nat.le_of_ble_eq_true rfl⟩ (fun r_1 Φ1 sz1 st1 hp1 hs1 => ?_)
  obtain ⟨⟨v_1, rfl⟩, hq1, hI1, hF1⟩ := hp1
  subst sz1
  replace hs1 : st1 = [.long v_1, .ref (x + 121)] := hs1
  subst st1
  replace hI1 : In G x (ca) Φ1 := hI1
  obtain ⟨n_1, h_3, b_1⟩ := in20 (k := 121) hI1 rfl
  have h_4 : Φ1 (x + 121) = some (o_ 11 [.ref (x + 122), .ref (x + 123), .ref (x + 126), .ref (x + 129), .int (nI n_1)]) := h_3
  refine z_callV (As := [.long v_1]) (rest := []) B (s_X9_indexOf G l Φ1 sz x (ca) v_1 hx hI1 ) (cwV 1 B.1.2.2.2.2 gX11_find_X9_indexOf rfl rfl rfl (by decide +kernel) ⟨Nat.le_of_ble_eq_true rfl, Nat.le_of_ble_eq_true rfl⟩) h_4 rfl rfl rfl rfl (Nat.le_of_ble_eq_true rfl) dX11_find_12 ⟨Nat.le_of_ble_eq_true rfl, Nat.le_of_ble_eq_true rfl⟩ (fun r_2 Φ2 sz2 st2 hp2 hs2 => ?_)
  obtain ⟨⟨v_2, rfl⟩, hq2, hI2, hF2⟩ := hp2
  subst sz2
  replace hs2 : st2 = [.int v_2] := hs2
  subst st2
  replace hI2 : In G x (ca) Φ2 := hI2
  exact z_ret_i B dX11_find_15 ⟨⟨_, rfl⟩, rfl, hI2, (fun b9 h9 => ((hF2 b9 (fun j9 h8 h7 => (show False from h7).elim)).trans ((hF1 b9 (fun j9 h8 h7 => (show False from h7).elim)).trans rfl)))⟩

set_option maxHeartbeats 4000000 in
set_option maxRecDepth 100000 in
theorem s_X11_receive (G : EnvG) (l : Launch) (Φ : Hm) (sz x ca : Nat)  (hx : G.2.2.2 ≤ x) (hI : In G x ca Φ) (hca : ca < 1000000) : Ct G l yX11_receive wsX11_receive ({ frames := 6, cells := 0, slots := 0, locals := 156 }) 0 0 [.ref x] Φ sz (fun v Φ1 sz1 => ((∃ r9 : Int32, v = some (.int r9)) ∧ Φ1 (x + 1) = some (o_ 7 [.ref (x + 2), .int (nI 0)])) ∧ sz1 = sz ∧ In G x (ca + 1) Φ1 ∧ Fr x (fun j9 => 1 ≤ j9 ∧ j9 < 149) Φ Φ1) := by
  refine Ct.of (cc := cX11_receive) (maxL := 2) (ret := (some .int)) (by decide) rfl (Nat.le_of_ble_eq_true rfl) ?_
  intro p9 e9 s9 m9 w9 t9 k9 B
  show Z p9 l e9 _ s9 m9 _ w9 t9 k9 _ G 2 0 [(0, .ref x)] [] Φ sz 0 0
  refine z_aload_n B dX11_receive_0 rfl 0 rfl ?_
  have h_1 := in0 (k := 0) hI rfl
  have h_2 : Φ x = some (o_ 13 [.ref (x + 1), .ref (x + 3), .ref (x + 24), .ref (x + 46), .ref (x + 74), .ref (x + 80), .ref (x + 132), .ref (x + 121)]) := h_1
  refine z_get (ref := "FlowExporter") (C := RX11) (T := TX11) (N := 8) (ci := 13) (v := .ref (x + 132)) B (by decide +kernel) rfl 6 (by decide) (by decide +kernel) rfl h_2 rfl dX11_receive_1 ?_
  refine z_aload_n B dX11_receive_4 rfl 0 rfl ?_
  refine z_get (ref := "FlowExporter") (C := RX11) (T := TX11) (N := 8) (ci := 13) (v := .ref (x + 1)) B (by decide +kernel) rfl 0 (by decide) (by decide +kernel) rfl h_2 rfl dX11_receive_5 ?_
  refine z_aload_n B dX11_receive_8 rfl 0 rfl ?_
  refine z_get (ref := "FlowExporter") (C := RX11) (T := TX11) (N := 8) (ci := 13) (v := .ref (x + 80)) B (by decide +kernel) rfl 5 (by decide) (by decide +kernel) rfl h_2 rfl dX11_receive_9 ?_
  obtain ⟨v_1, v_2, v_3, v_4, v_5, v_6, v_7, v_8, v_9, h_3, b_1⟩ := in16 (k := 80) hI rfl
  have h_4 : Φ (x + 80) = some (o_ 4 [.ref (x + 3), .ref (x + 74), .ref (x + 81), .ref (x + 95), .int v_1, .int v_2, .int v_3, .int v_4, .int v_5, .int v_6, .long v_7, .long v_8, .long v_9]) := h_3
  refine z_get (ref := "FlowExporter$Exporter") (C := RX2) (T := TX2) (N := 13) (ci := 4) (v := .int v_1) B (by decide +kernel) rfl 4 (by decide) (by decide +kernel) rfl h_4 rfl dX11_receive_12 ?_
  obtain ⟨n_1, v_10, v_11, h_5, b_2⟩ := in25 (k := 132) hI rfl
  have h_6 : Φ (x + 132) = some (o_ 2 [.ref (x + 3), .ref (x + 121), .ref (x + 133), .ref (x + 134), .ref (x + 135), .ref (x + 137), .ref (x + 138), .ref (x + 139), .ref (x + 140), .int (nI n_1), .int v_10, .int v_11]) := h_5
  refine z_callV (As := [.ref (x + 1), .int v_1]) (rest := []) B (s_X0_take G l Φ sz x (ca) 1 v_1 hx hI rfl (show ca < 1000000 by omega)) (cwV 2 B.1.2.2.2.2 gX11_receive_X0_take rfl rfl rfl (by decide +kernel) ⟨Nat.le_of_ble_eq_true rfl, Nat.le_of_ble_eq_true rfl⟩) h_6 rfl rfl rfl rfl (Nat.le_of_ble_eq_true rfl) dX11_receive_15 ⟨Nat.le_of_ble_eq_true rfl, Nat.le_of_ble_eq_true rfl⟩ (fun r_1 Φ1 sz1 st1 hp1 hs1 => ?_)
  obtain ⟨⟨v_12, rfl⟩, hq1, hI1, hF1⟩ := hp1
  subst sz1
  replace hs1 : st1 = [.int v_12] := hs1
  subst st1
  replace hI1 : In G x (ca + 1) Φ1 := hI1
  refine z_istore_n (lv' := [(1, .int v_12), (0, .ref x)]) B dX11_receive_18 rfl (Nat.le_of_ble_eq_true rfl) rfl ?_
  refine z_aload_n B dX11_receive_19 rfl 1 rfl ?_
  have h_7 : Φ1 x = some (o_ 13 [.ref (x + 1), .ref (x + 3), .ref (x + 24), .ref (x + 46), .ref (x + 74), .ref (x + 80), .ref (x + 132), .ref (x + 121)]) := ((hF1 x (fun j9 h8 h7 => by have h6 : (121 ≤ j9 ∧ j9 < 149) := h7; omega)).trans h_2)
  refine z_get (ref := "FlowExporter") (C := RX11) (T := TX11) (N := 8) (ci := 13) (v := .ref (x + 1)) B (by decide +kernel) rfl 0 (by decide) (by decide +kernel) rfl h_7 rfl dX11_receive_20 ?_
  refine z_iconst (v := 0) B dX11_receive_23 rfl ?_
  obtain ⟨n_2, h_8, b_3⟩ := in1 (k := 1) hI1 rfl
  replace b_3 : n_2 ≤ 700 := b_3
  have h_9 : Φ1 (x + 1) = some (o_ 7 [.ref (x + 2), .int (nI n_2)]) := h_8
  refine z_put (ref := "FlowExporter$Message") (C := RX5) (T := TX5) (N := 2) (ci := 7) (v := .int 0) B (by decide +kernel) tyX5 tyX5_ok nmX5 rfl 1 (by decide) (by decide +kernel) rfl (Or.inl rfl) h_9 (Nat.le_trans hx (Nat.le_add_right x 1)) rfl rfl (Nat.le_of_ble_eq_true rfl) dX11_receive_24 (fun Φ2 hΦ1 => ?_)
  have h_10 : Φ2 (x + 1) = some (o_ 7 [.ref (x + 2), .int 0]) := fset_at hΦ1
  have hI2 : In G x (ca + 1) Φ2 := In.put (k := 1) hI1 hΦ1 (ok1 (k := 1) rfl ⟨0, rfl, (show 0 ≤ 700 by omega)⟩)
  refine z_iload_n B dX11_receive_27 rfl 0 rfl ?_
  exact z_ret_i B dX11_receive_28 ⟨⟨⟨_, rfl⟩, (h_10.trans (congrArg (fun w9 : Nat => some (o_ 7 [.ref (x + 2), .int (nI w9)])) (show 0 = 0 by omega)))⟩, rfl, hI2, (fun b9 h9 => ((fset_fr hΦ1 (fun h8 => h9 (1) h8 (show 1 ≤ 1 ∧ 1 < 149 by omega))).trans ((hF1 b9 (fun j9 h8 h7 => h9 j9 h8 (show 1 ≤ j9 ∧ j9 < 149 by have h6 : (121 ≤ j9 ∧ j9 < 149) := h7; omega))).trans rfl)))⟩

set_option maxHeartbeats 4000000 in
set_option maxRecDepth 100000 in
theorem s_X11_deliverAll (G : EnvG) (l : Launch) (Φ : Hm) (sz x ca : Nat)  (hx : G.2.2.2 ≤ x) (hI : In G x ca Φ) (hca : ca < 900000) : Ct G l yX11_deliverAll wsX11_deliverAll ({ frames := 6, cells := 0, slots := 0, locals := 156 }) 0 0 [.ref x] Φ sz (fun v Φ1 sz1 => (∃ r9 : Int32, v = some (.int r9)) ∧ sz1 = sz ∧ In G x (ca + 12) Φ1 ∧ Fr x (fun j9 => 2 ≤ j9 ∧ j9 < 149) Φ Φ1) := by
  refine Ct.of (cc := cX11_deliverAll) (maxL := 3) (ret := (some .int)) (by decide) rfl (Nat.le_of_ble_eq_true rfl) ?_
  intro p9 e9 s9 m9 w9 t9 k9 B
  show Z p9 l e9 _ s9 m9 _ w9 t9 k9 _ G 3 0 [(0, .ref x)] [] Φ sz 0 0
  refine z_iconst (v := 0) B dX11_deliverAll_0 rfl ?_
  refine z_istore_n (lv' := [(1, .int 0), (0, .ref x)]) B dX11_deliverAll_1 rfl (Nat.le_of_ble_eq_true rfl) rfl ?_
  refine z_aload_n B dX11_deliverAll_2 rfl 1 rfl ?_
  have h_1 := in0 (k := 0) hI rfl
  have h_2 : Φ x = some (o_ 13 [.ref (x + 1), .ref (x + 3), .ref (x + 24), .ref (x + 46), .ref (x + 74), .ref (x + 80), .ref (x + 132), .ref (x + 121)]) := h_1
  refine z_get (ref := "FlowExporter") (C := RX11) (T := TX11) (N := 8) (ci := 13) (v := .ref (x + 46)) B (by decide +kernel) rfl 3 (by decide) (by decide +kernel) rfl h_2 rfl dX11_deliverAll_3 ?_
  obtain ⟨n_1, v_1, h_3, b_1⟩ := in11 (k := 46) hI rfl
  have h_4 : Φ (x + 46) = some (o_ 9 [.ref (x + 47), .int (nI n_1), .int v_1]) := h_3
  refine z_get (ref := "FlowExporter$Queue") (C := RX7) (T := TX7) (N := 3) (ci := 9) (v := .int (nI n_1)) B (by decide +kernel) rfl 1 (by decide) (by decide +kernel) rfl h_4 rfl dX11_deliverAll_6 ?_
  refine z_istore_n (lv' := [(2, .int (nI n_1)), (1, .int 0), (0, .ref x)]) B dX11_deliverAll_9 rfl (Nat.le_of_ble_eq_true rfl) rfl ?_
  refine z_lv [0, 1, 2] rfl ?_
  refine z_loop (α := Nat × Int32) (fun (a9 : Nat × Int32) Φi => In G x (ca + (12 - a9.1)) Φi ∧ Fr x (fun j9 => 2 ≤ j9 ∧ j9 < 149) Φ Φi ∧ (a9.1 ≤ 12) ∧ True) (fun a9 => [(2, .int (nI (a9.1))), (1, .int a9.2), (0, .ref x)]) (fun a9 => a9.1) ?_ (n_1, 0) ⟨(In.mono hI (by omega)), fun _ _ => rfl, (show n_1 ≤ 12 by omega), trivial⟩
  rintro ⟨i_1, i_2⟩ Φl1 ⟨hI1, hF1, b_2, -⟩ ih1
  replace hI1 : In G x (ca + (12 - i_1)) Φl1 := hI1
  replace b_2 : i_1 ≤ 12 := b_2
  show Z p9 l e9 _ s9 m9 _ w9 t9 k9 _ G 3 10 [(2, .int (nI i_1)), (1, .int i_2), (0, .ref x)] [] Φl1 _ _ _
  refine z_iload_n B dX11_deliverAll_10 rfl 0 rfl ?_
  refine z_if_le (tgt := 45) B dX11_deliverAll_11 rfl (fun c_1 => ?_) (fun c_1 => ?_)
  · have e_1 : i_1 ≤ 0 := (nI_leI (a := i_1) (b := 0) (by omega) (by omega)).mp c_1
    refine z_iload_n B dX11_deliverAll_45 rfl 1 rfl ?_
    exact z_ret_i B dX11_deliverAll_46 ⟨⟨_, rfl⟩, rfl, (In.mono hI1 (by omega)), (fun b9 h9 => ((hF1 b9 (fun j9 h8 h7 => h9 j9 h8 (show 2 ≤ j9 ∧ j9 < 149 by have h6 : 2 ≤ j9 ∧ j9 < 149 := h7; omega))).trans rfl))⟩
  · have e_2 : ¬ (i_1 ≤ 0) := fun h9 => c_1 ((nI_leI (a := i_1) (b := 0) (by omega) (by omega)).mpr h9)
    refine z_iload_n B dX11_deliverAll_14 rfl 1 rfl ?_
    refine z_aload_n B dX11_deliverAll_15 rfl 2 rfl ?_
    have h_5 : Φl1 x = some (o_ 13 [.ref (x + 1), .ref (x + 3), .ref (x + 24), .ref (x + 46), .ref (x + 74), .ref (x + 80), .ref (x + 132), .ref (x + 121)]) := ((hF1 x (fun j9 h8 h7 => by have h6 : 2 ≤ j9 ∧ j9 < 149 := h7; omega)).trans h_2)
    refine z_get (ref := "FlowExporter") (C := RX11) (T := TX11) (N := 8) (ci := 13) (v := .ref (x + 132)) B (by decide +kernel) rfl 6 (by decide) (by decide +kernel) rfl h_5 rfl dX11_deliverAll_16 ?_
    refine z_aload_n B dX11_deliverAll_19 rfl 2 rfl ?_
    refine z_get (ref := "FlowExporter") (C := RX11) (T := TX11) (N := 8) (ci := 13) (v := .ref (x + 46)) B (by decide +kernel) rfl 3 (by decide) (by decide +kernel) rfl h_5 rfl dX11_deliverAll_20 ?_
    refine z_iconst (v := 0) B dX11_deliverAll_23 rfl ?_
    obtain ⟨n_2, v_2, h_6, b_3⟩ := in11 (k := 46) hI1 rfl
    have h_7 : Φl1 (x + 46) = some (o_ 9 [.ref (x + 47), .int (nI n_2), .int v_2]) := h_6
    refine z_callV (As := [.int 0]) (rest := [.ref (x + 132), .int i_2]) B (s_X7_takeOut G l Φl1 sz x (ca + (12 - i_1)) 0 hx hI1 ) (cwV 1 B.1.2.2.2.2 gX11_deliverAll_X7_takeOut rfl rfl rfl (by decide +kernel) ⟨Nat.le_of_ble_eq_true rfl, Nat.le_of_ble_eq_true rfl⟩) h_7 rfl rfl rfl rfl (Nat.le_of_ble_eq_true rfl) dX11_deliverAll_24 ⟨Nat.le_of_ble_eq_true rfl, Nat.le_of_ble_eq_true rfl⟩ (fun r_1 Φ1 sz1 st1 hp1 hs1 => ?_)
    obtain ⟨⟨m_1, hm_1, rfl⟩, hq1, hI2, hF2⟩ := hp1
    subst sz1
    replace hs1 : st1 = [.ref (x + (48 + 2 * m_1)), .ref (x + 132), .int i_2] := hs1
    subst st1
    replace hI2 : In G x (ca + (12 - i_1)) Φ1 := hI2
    replace hm_1 : m_1 < 13 := hm_1
    refine z_aload_n B dX11_deliverAll_27 rfl 2 rfl ?_
    have h_8 : Φ1 x = some (o_ 13 [.ref (x + 1), .ref (x + 3), .ref (x + 24), .ref (x + 46), .ref (x + 74), .ref (x + 80), .ref (x + 132), .ref (x + 121)]) := ((hF2 x (fun j9 h8 h7 => by have h6 : j9 = 46 ∨ j9 = 47 := h7; omega)).trans h_5)
    refine z_get (ref := "FlowExporter") (C := RX11) (T := TX11) (N := 8) (ci := 13) (v := .ref (x + 80)) B (by decide +kernel) rfl 5 (by decide) (by decide +kernel) rfl h_8 rfl dX11_deliverAll_28 ?_
    obtain ⟨v_3, v_4, v_5, v_6, v_7, v_8, v_9, v_10, v_11, h_9, b_4⟩ := in16 (k := 80) hI2 rfl
    have h_10 : Φ1 (x + 80) = some (o_ 4 [.ref (x + 3), .ref (x + 74), .ref (x + 81), .ref (x + 95), .int v_3, .int v_4, .int v_5, .int v_6, .int v_7, .int v_8, .long v_9, .long v_10, .long v_11]) := h_9
    refine z_get (ref := "FlowExporter$Exporter") (C := RX2) (T := TX2) (N := 13) (ci := 4) (v := .int v_3) B (by decide +kernel) rfl 4 (by decide) (by decide +kernel) rfl h_10 rfl dX11_deliverAll_31 ?_
    obtain ⟨n_3, v_12, v_13, h_11, b_5⟩ := in25 (k := 132) hI2 rfl
    have h_12 : Φ1 (x + 132) = some (o_ 2 [.ref (x + 3), .ref (x + 121), .ref (x + 133), .ref (x + 134), .ref (x + 135), .ref (x + 137), .ref (x + 138), .ref (x + 139), .ref (x + 140), .int (nI n_3), .int v_12, .int v_13]) := h_11
    refine z_callV (As := [.ref (x + (48 + 2 * m_1)), .int v_3]) (rest := [.int i_2]) B (s_X0_take G l Φ1 sz x (ca + (12 - i_1)) (48 + 2 * m_1) v_3 hx hI2 (kd_q hm_1) (show (ca + (12 - i_1)) < 1000000 by omega)) (cwV 2 B.1.2.2.2.2 gX11_deliverAll_X0_take rfl rfl rfl (by decide +kernel) ⟨Nat.le_of_ble_eq_true rfl, Nat.le_of_ble_eq_true rfl⟩) h_12 rfl rfl rfl rfl (Nat.le_of_ble_eq_true rfl) dX11_deliverAll_34 ⟨Nat.le_of_ble_eq_true rfl, Nat.le_of_ble_eq_true rfl⟩ (fun r_2 Φ2 sz2 st2 hp2 hs2 => ?_)
    obtain ⟨⟨v_14, rfl⟩, hq2, hI3, hF3⟩ := hp2
    subst sz2
    replace hs2 : st2 = [.int v_14, .int i_2] := hs2
    subst st2
    replace hI3 : In G x (ca + (12 - i_1) + 1) Φ2 := hI3
    refine z_iadd B dX11_deliverAll_37 ?_
    refine z_fi (fun v_15 => ?_)
    refine z_istore_n (lv' := [(1, .int v_15), (2, .int (nI i_1)), (0, .ref x)]) B dX11_deliverAll_38 rfl (Nat.le_of_ble_eq_true rfl) rfl ?_
    refine z_iinc (k := 1) (v := nI (i_1 - 1)) (lv' := [(2, .int (nI (i_1 - 1))), (1, .int v_15), (0, .ref x)]) B dX11_deliverAll_39 rfl (nI_m1 (show 1 ≤ i_1 by omega)) (Nat.le_of_ble_eq_true rfl) rfl ?_
    refine z_goto (tgt := 10) B dX11_deliverAll_42 rfl ?_
    refine z_lv [0, 1, 2] rfl ?_
    exact ih1 (i_1 - 1, v_15) Φ2 (show (i_1 - 1) < i_1 by omega) ⟨(In.mono hI3 (by omega)), (fun b9 h9 => ((hF3 b9 (fun j9 h8 h7 => h9 j9 h8 (show 2 ≤ j9 ∧ j9 < 149 by have h6 : (121 ≤ j9 ∧ j9 < 149) := h7; omega))).trans ((hF2 b9 (fun j9 h8 h7 => h9 j9 h8 (show 2 ≤ j9 ∧ j9 < 149 by have h6 : j9 = 46 ∨ j9 = 47 := h7; omega))).trans ((hF1 b9 (fun j9 h8 h7 => h9 j9 h8 (show 2 ≤ j9 ∧ j9 < 149 by have h6 : 2 ≤ j9 ∧ j9 < 149 := h7; omega))).trans rfl)))), (show (i_1 - 1) ≤ 12 by omega), trivial⟩

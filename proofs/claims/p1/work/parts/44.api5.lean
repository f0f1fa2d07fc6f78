set_option maxHeartbeats 4000000 in
set_option maxRecDepth 100000 in
theorem f_X2_remember (G : EnvG) (l : Launch) (Φ : Hm) (sz : Nat) (x : Nat) (ob : Int64) (k : Int64) (b : Int32) (n : Int32) (hc80_ : Φ (x + 80) = some (o_ 4 [.ref (x + 3), .ref (x + 74), .ref (x + 81), .ref (x + 95), .int 0, .int 1, .int 1, .int 0, .int 0, .int 0, .long ob, .long 0, .long 0])) (hc95_ : Φ (x + 95) = some (o_ 6 [.ref (x + 96), .int 0])) (hc96_ : Φ (x + 96) = some (aq_ G 5 24 (va_up (va_up (va_up (va_up (va_up (va_up (va_up (va_up (va_up (va_up (va_up (va_up (va_up (va_up (va_up (va_up (va_up (va_up (va_up (va_up (va_up (va_up (va_up (va_up (fun _ => none) (0 : Int32).toNatClampNeg (some (x + 97))) (1 : Int32).toNatClampNeg (some (x + 98))) (2 : Int32).toNatClampNeg (some (x + 99))) (3 : Int32).toNatClampNeg (some (x + 100))) (4 : Int32).toNatClampNeg (some (x + 101))) (5 : Int32).toNatClampNeg (some (x + 102))) (6 : Int32).toNatClampNeg (some (x + 103))) (7 : Int32).toNatClampNeg (some (x + 104))) (8 : Int32).toNatClampNeg (some (x + 105))) (9 : Int32).toNatClampNeg (some (x + 106))) (10 : Int32).toNatClampNeg (some (x + 107))) (11 : Int32).toNatClampNeg (some (x + 108))) (12 : Int32).toNatClampNeg (some (x + 109))) (13 : Int32).toNatClampNeg (some (x + 110))) (14 : Int32).toNatClampNeg (some (x + 111))) (15 : Int32).toNatClampNeg (some (x + 112))) (16 : Int32).toNatClampNeg (some (x + 113))) (17 : Int32).toNatClampNeg (some (x + 114))) (18 : Int32).toNatClampNeg (some (x + 115))) (19 : Int32).toNatClampNeg (some (x + 116))) (20 : Int32).toNatClampNeg (some (x + 117))) (21 : Int32).toNatClampNeg (some (x + 118))) (22 : Int32).toNatClampNeg (some (x + 119))) (23 : Int32).toNatClampNeg (some (x + 120))))) (hc97_ : Φ (x + 97) = some (o_ 5 [.long 0, .long 0, .long 0, .int 0, .int 0])) (hna : G.2.2.2 ≤ x) : Ct G l yX2_remember wsX2_remember ({ frames := 2, cells := 0, slots := 0, locals := 47 }) 0 0 [.ref (x + 80), .long k, .int b, .int n] Φ sz (fun v Φ1 sz1 => v = none ∧ sz1 = sz ∧ (∀ b9 : Nat, b9 ≠ x + 95 → b9 ≠ x + 97 → Φ1 b9 = Φ b9) ∧ Φ1 (x + 95) = some (o_ 6 [.ref (x + 96), .int 1]) ∧ Φ1 (x + 97) = some (o_ 5 [.long k, .long (0 + n.toInt64), .long (0 + (n.toInt64 * b.toInt64)), .int 0, .int 0])) := by
  refine Ct.of (cc := cX2_remember) (maxL := 7) (ret := none) (by decide) rfl (Nat.le_of_ble_eq_true rfl) ?_
  intro p9 e9 s9 m9 w9 t9 k9 B
  show Z p9 l e9 _ s9 m9 _ w9 t9 k9 _ G 7 0 [(0, .ref (x + 80)), (1, .long k), (3, .int b), (4, .int n)] [] Φ sz 0 0
  refine z_aload_n B dX2_remember_0 rfl 0 rfl ?_
  refine z_get (ref := "FlowExporter$Exporter") (C := RX2) (T := TX2) (N := 13) (ci := 4) (v := .ref (x + 95)) B (by decide +kernel) rfl 3 (by decide) (by decide +kernel) rfl hc80_ rfl dX2_remember_1 ?_
  refine z_lload_n B dX2_remember_4 rfl 1 rfl ?_
  refine z_callV (As := [.long k]) (rest := []) B (f_X4_indexOf_t G l Φ sz x k hc95_) (cwV 1 B.1.2.2.2.2 gX2_remember_X4_indexOf rfl rfl rfl (by decide +kernel) ⟨Nat.le_of_ble_eq_true rfl, Nat.le_of_ble_eq_true rfl⟩) hc95_ rfl rfl rfl rfl (Nat.le_of_ble_eq_true rfl) dX2_remember_5 ⟨Nat.le_of_ble_eq_true rfl, Nat.le_of_ble_eq_true rfl⟩ (fun v1 Φ1 sz1 st1 hp1 hs1 => ?_)
  obtain ⟨rfl, hq1, fr1⟩ := hp1
  replace hq1 : sz1 = sz := hq1
  subst sz1
  replace hs1 : st1 = [.int (-1)] := hs1
  subst st1
  refine z_istore (lv' := [(5, .int (-1)), (0, .ref (x + 80)), (1, .long k), (3, .int b), (4, .int n)]) B dX2_remember_8 (Nat.le_of_ble_eq_true rfl) rfl ?_
  refine z_iload B dX2_remember_10 0 rfl ?_
  refine z_iconst (v := (-1)) B dX2_remember_12 rfl ?_
  refine z_icmp_ne (tgt := 27) B dX2_remember_13 rfl (fun h9 => absurd (by decide) h9) (fun c_1 => ?_)
  refine z_aload_n B dX2_remember_16 rfl 1 rfl ?_
  have h_1 : Φ1 (x + 80) = some (o_ 4 [.ref (x + 3), .ref (x + 74), .ref (x + 81), .ref (x + 95), .int 0, .int 1, .int 1, .int 0, .int 0, .int 0, .long ob, .long 0, .long 0]) := ((fr1 (x + 80)).trans hc80_)
  refine z_get (ref := "FlowExporter$Exporter") (C := RX2) (T := TX2) (N := 13) (ci := 4) (v := .ref (x + 95)) B (by decide +kernel) rfl 3 (by decide) (by decide +kernel) rfl h_1 rfl dX2_remember_17 ?_
  have h_2 : Φ1 (x + 95) = some (o_ 6 [.ref (x + 96), .int 0]) := ((fr1 (x + 95)).trans hc95_)
  have h_3 : Φ1 (x + 96) = some (aq_ G 5 24 (va_up (va_up (va_up (va_up (va_up (va_up (va_up (va_up (va_up (va_up (va_up (va_up (va_up (va_up (va_up (va_up (va_up (va_up (va_up (va_up (va_up (va_up (va_up (va_up (fun _ => none) (0 : Int32).toNatClampNeg (some (x + 97))) (1 : Int32).toNatClampNeg (some (x + 98))) (2 : Int32).toNatClampNeg (some (x + 99))) (3 : Int32).toNatClampNeg (some (x + 100))) (4 : Int32).toNatClampNeg (some (x + 101))) (5 : Int32).toNatClampNeg (some (x + 102))) (6 : Int32).toNatClampNeg (some (x + 103))) (7 : Int32).toNatClampNeg (some (x + 104))) (8 : Int32).toNatClampNeg (some (x + 105))) (9 : Int32).toNatClampNeg (some (x + 106))) (10 : Int32).toNatClampNeg (some (x + 107))) (11 : Int32).toNatClampNeg (some (x + 108))) (12 : Int32).toNatClampNeg (some (x + 109))) (13 : Int32).toNatClampNeg (some (x + 110))) (14 : Int32).toNatClampNeg (some (x + 111))) (15 : Int32).toNatClampNeg (some (x + 112))) (16 : Int32).toNatClampNeg (some (x + 113))) (17 : Int32).toNatClampNeg (some (x + 114))) (18 : Int32).toNatClampNeg (some (x + 115))) (19 : Int32).toNatClampNeg (some (x + 116))) (20 : Int32).toNatClampNeg (some (x + 117))) (21 : Int32).toNatClampNeg (some (x + 118))) (22 : Int32).toNatClampNeg (some (x + 119))) (23 : Int32).toNatClampNeg (some (x + 120)))) := ((fr1 (x + 96)).trans hc96_)
  refine z_callV (As := []) (rest := []) B (f_X4_isFull_t G l Φ1 sz x h_2 h_3) (cwV 0 B.1.2.2.2.2 gX2_remember_X4_isFull rfl rfl rfl (by decide +kernel) ⟨Nat.le_of_ble_eq_true rfl, Nat.le_of_ble_eq_true rfl⟩) h_2 rfl rfl rfl rfl (Nat.le_of_ble_eq_true rfl) dX2_remember_20 ⟨Nat.le_of_ble_eq_true rfl, Nat.le_of_ble_eq_true rfl⟩ (fun v2 Φ2 sz2 st2 hp2 hs2 => ?_)
  obtain ⟨rfl, hq2, fr2⟩ := hp2
  replace hq2 : sz2 = sz := hq2
  subst sz2
  replace hs2 : st2 = [.int 0] := hs2
  subst st2
  refine z_if_eq (tgt := 27) B dX2_remember_23 rfl (fun c_2 => ?_) (fun h9 => absurd (by decide) h9)
  refine z_iload B dX2_remember_27 0 rfl ?_
  refine z_iconst (v := (-1)) B dX2_remember_29 rfl ?_
  refine z_icmp_ne (tgt := 48) B dX2_remember_30 rfl (fun h9 => absurd (by decide) h9) (fun c_3 => ?_)
  refine z_aload_n B dX2_remember_33 rfl 1 rfl ?_
  have h_4 : Φ2 (x + 80) = some (o_ 4 [.ref (x + 3), .ref (x + 74), .ref (x + 81), .ref (x + 95), .int 0, .int 1, .int 1, .int 0, .int 0, .int 0, .long ob, .long 0, .long 0]) := ((fr2 (x + 80)).trans h_1)
  refine z_get (ref := "FlowExporter$Exporter") (C := RX2) (T := TX2) (N := 13) (ci := 4) (v := .ref (x + 95)) B (by decide +kernel) rfl 3 (by decide) (by decide +kernel) rfl h_4 rfl dX2_remember_34 ?_
  refine z_lload_n B dX2_remember_37 rfl 2 rfl ?_
  refine z_aload_n B dX2_remember_38 rfl 1 rfl ?_
  refine z_get (ref := "FlowExporter$Exporter") (C := RX2) (T := TX2) (N := 13) (ci := 4) (v := .int 0) B (by decide +kernel) rfl 4 (by decide) (by decide +kernel) rfl h_4 rfl dX2_remember_39 ?_
  have h_5 : Φ2 (x + 95) = some (o_ 6 [.ref (x + 96), .int 0]) := ((fr2 (x + 95)).trans h_2)
  have h_6 : Φ2 (x + 96) = some (aq_ G 5 24 (va_up (va_up (va_up (va_up (va_up (va_up (va_up (va_up (va_up (va_up (va_up (va_up (va_up (va_up (va_up (va_up (va_up (va_up (va_up (va_up (va_up (va_up (va_up (va_up (fun _ => none) (0 : Int32).toNatClampNeg (some (x + 97))) (1 : Int32).toNatClampNeg (some (x + 98))) (2 : Int32).toNatClampNeg (some (x + 99))) (3 : Int32).toNatClampNeg (some (x + 100))) (4 : Int32).toNatClampNeg (some (x + 101))) (5 : Int32).toNatClampNeg (some (x + 102))) (6 : Int32).toNatClampNeg (some (x + 103))) (7 : Int32).toNatClampNeg (some (x + 104))) (8 : Int32).toNatClampNeg (some (x + 105))) (9 : Int32).toNatClampNeg (some (x + 106))) (10 : Int32).toNatClampNeg (some (x + 107))) (11 : Int32).toNatClampNeg (some (x + 108))) (12 : Int32).toNatClampNeg (some (x + 109))) (13 : Int32).toNatClampNeg (some (x + 110))) (14 : Int32).toNatClampNeg (some (x + 111))) (15 : Int32).toNatClampNeg (some (x + 112))) (16 : Int32).toNatClampNeg (some (x + 113))) (17 : Int32).toNatClampNeg (some (x + 114))) (18 : Int32).toNatClampNeg (some (x + 115))) (19 : Int32).toNatClampNeg (some (x + 116))) (20 : Int32).toNatClampNeg (some (x + 117))) (21 : Int32).toNatClampNeg (some (x + 118))) (22 : Int32).toNatClampNeg (some (x + 119))) (23 : Int32).toNatClampNeg (some (x + 120)))) := ((fr2 (x + 96)).trans h_3)
  have h_7 : Φ2 (x + 97) = some (o_ 5 [.long 0, .long 0, .long 0, .int 0, .int 0]) := ((fr2 (x + 97)).trans ((fr1 (x + 97)).trans hc97_))
  refine z_callV (As := [.long k, .int 0]) (rest := []) B (f_X4_addFlow_t G l Φ2 sz x k h_5 h_6 h_7 hna) (cwV 2 B.1.2.2.2.2 gX2_remember_X4_addFlow rfl rfl rfl (by decide +kernel) ⟨Nat.le_of_ble_eq_true rfl, Nat.le_of_ble_eq_true rfl⟩) h_5 rfl rfl rfl rfl (Nat.le_of_ble_eq_true rfl) dX2_remember_42 ⟨Nat.le_of_ble_eq_true rfl, Nat.le_of_ble_eq_true rfl⟩ (fun v3 Φ3 sz3 st3 hp3 hs3 => ?_)
  obtain ⟨rfl, hq3, fr3, h_8, h_9⟩ := hp3
  replace hq3 : sz3 = sz := hq3
  subst sz3
  replace hs3 : st3 = [.ref (x + 97)] := hs3
  subst st3
  have h_10 : Φ3 (x + 95) = some (o_ 6 [.ref (x + 96), .int 1]) := h_8
  have h_11 : Φ3 (x + 97) = some (o_ 5 [.long k, .long 0, .long 0, .int 0, .int 0]) := h_9
  refine z_goto (tgt := 57) B dX2_remember_45 rfl ?_
  refine z_astore (lv' := [(6, .ref (x + 97)), (5, .int (-1)), (0, .ref (x + 80)), (1, .long k), (3, .int b), (4, .int n)]) B dX2_remember_57 (Nat.le_of_ble_eq_true rfl) rfl ?_
  refine z_aload B dX2_remember_59 0 rfl ?_
  refine z_dup B dX2_remember_61 rfl ?_
  refine z_get (ref := "FlowExporter$Flow") (C := RX3) (T := TX3) (N := 5) (ci := 5) (v := .long 0) B (by decide +kernel) rfl 1 (by decide) (by decide +kernel) rfl h_11 rfl dX2_remember_62 ?_
  refine z_iload B dX2_remember_65 5 rfl ?_
  refine z_i2l (v := n.toInt64) B dX2_remember_67 rfl ?_
  refine z_ladd B dX2_remember_68 ?_
  refine z_put (ref := "FlowExporter$Flow") (C := RX3) (T := TX3) (N := 5) (ci := 5) (v := .long (0 + n.toInt64)) B (by decide +kernel) tyX3 tyX3_ok nmX3 rfl 1 (by decide) (by decide +kernel) rfl (Or.inl rfl) h_11 (Nat.le_trans hna (Nat.le_add_right x 97)) rfl rfl (Nat.le_of_ble_eq_true rfl) dX2_remember_69 (fun Φ4 hΦ1 => ?_)
  have h_12 : Φ4 (x + 97) = some (o_ 5 [.long k, .long (0 + n.toInt64), .long 0, .int 0, .int 0]) := fset_at hΦ1
  refine z_aload B dX2_remember_72 0 rfl ?_
  refine z_dup B dX2_remember_74 rfl ?_
  refine z_get (ref := "FlowExporter$Flow") (C := RX3) (T := TX3) (N := 5) (ci := 5) (v := .long 0) B (by decide +kernel) rfl 2 (by decide) (by decide +kernel) rfl h_12 rfl dX2_remember_75 ?_
  refine z_iload B dX2_remember_78 5 rfl ?_
  refine z_i2l (v := n.toInt64) B dX2_remember_80 rfl ?_
  refine z_iload_n B dX2_remember_81 rfl 4 rfl ?_
  refine z_i2l (v := b.toInt64) B dX2_remember_82 rfl ?_
  refine z_lmul B dX2_remember_83 ?_
  refine z_ladd B dX2_remember_84 ?_
  refine z_put (ref := "FlowExporter$Flow") (C := RX3) (T := TX3) (N := 5) (ci := 5) (v := .long (0 + (n.toInt64 * b.toInt64))) B (by decide +kernel) tyX3 tyX3_ok nmX3 rfl 2 (by decide) (by decide +kernel) rfl (Or.inl rfl) h_12 (Nat.le_trans hna (Nat.le_add_right x 97)) rfl rfl (Nat.le_of_ble_eq_true rfl) dX2_remember_85 (fun Φ5 hΦ2 => ?_)
  have h_13 : Φ5 (x + 97) = some (o_ 5 [.long k, .long (0 + n.toInt64), .long (0 + (n.toInt64 * b.toInt64)), .int 0, .int 0]) := fset_at hΦ2
  have h_14 : Φ5 (x + 95) = some (o_ 6 [.ref (x + 96), .int 1]) := ((fset_fr hΦ2 (ne_off (x := x) (i := 95) (j := 97) rfl)).trans ((fset_fr hΦ1 (ne_off (x := x) (i := 95) (j := 97) rfl)).trans h_10))
  exact z_ret_v B dX2_remember_88 ⟨rfl, rfl, (fun b9 h9a h9b => ((fset_fr hΦ2 h9b).trans ((fset_fr hΦ1 h9b).trans ((fr3 b9 h9a h9b).trans ((fr2 b9).trans ((fr1 b9).trans rfl)))))), h_14, h_13⟩

set_option maxHeartbeats 4000000 in
set_option maxRecDepth 100000 in
theorem f_X2_isSampled (G : EnvG) (l : Launch) (Φ : Hm) (sz : Nat) (x : Nat) (ob : Int64) (hc80_ : Φ (x + 80) = some (o_ 4 [.ref (x + 3), .ref (x + 74), .ref (x + 81), .ref (x + 95), .int 0, .int 1, .int 1, .int 0, .int 0, .int 0, .long ob, .long 0, .long 0])) : Ct G l yX2_isSampled wsX2_isSampled ({ frames := 0, cells := 0, slots := 0, locals := 0 }) 0 0 [.ref (x + 80)] Φ sz (fun v Φ1 sz1 => v = some (.int 1) ∧ sz1 = sz ∧ (∀ b9 : Nat, Φ1 b9 = Φ b9)) := by
  refine Ct.of (cc := cX2_isSampled) (maxL := 1) (ret := (some .boolean)) (by decide) rfl (Nat.le_of_ble_eq_true rfl) ?_
  intro p9 e9 s9 m9 w9 t9 k9 B
  show Z p9 l e9 _ s9 m9 _ w9 t9 k9 _ G 1 0 [(0, .ref (x + 80))] [] Φ sz 0 0
  refine z_aload_n B dX2_isSampled_0 rfl 0 rfl ?_
  refine z_get (ref := "FlowExporter$Exporter") (C := RX2) (T := TX2) (N := 13) (ci := 4) (v := .int 1) B (by decide +kernel) rfl 5 (by decide) (by decide +kernel) rfl hc80_ rfl dX2_isSampled_1 ?_
  refine z_iconst (v := 1) B dX2_isSampled_4 rfl ?_
  refine z_icmp_gt (tgt := 10) B dX2_isSampled_5 rfl (fun h9 => absurd h9 (by decide)) (fun c_1 => ?_)
  refine z_iconst (v := 1) B dX2_isSampled_8 rfl ?_
  exact z_ret_z B dX2_isSampled_9 (by decide) ⟨rfl, rfl, (fun b9 => rfl)⟩

set_option maxHeartbeats 4000000 in
set_option maxRecDepth 100000 in
theorem f_X2_addToFlow_1 (G : EnvG) (l : Launch) (Φ : Hm) (sz : Nat) (x : Nat) (ob : Int64) (k : Int64) (b : Int32) (hc80_ : Φ (x + 80) = some (o_ 4 [.ref (x + 3), .ref (x + 74), .ref (x + 81), .ref (x + 95), .int 0, .int 1, .int 1, .int 0, .int 0, .int 0, .long ob, .long 0, .long 0])) (hc81_ : Φ (x + 81) = some (o_ 6 [.ref (x + 82), .int 0])) (hc82_ : Φ (x + 82) = some (aq_ G 5 12 (va_up (va_up (va_up (va_up (va_up (va_up (va_up (va_up (va_up (va_up (va_up (va_up (fun _ => none) (0 : Int32).toNatClampNeg (some (x + 83))) (1 : Int32).toNatClampNeg (some (x + 84))) (2 : Int32).toNatClampNeg (some (x + 85))) (3 : Int32).toNatClampNeg (some (x + 86))) (4 : Int32).toNatClampNeg (some (x + 87))) (5 : Int32).toNatClampNeg (some (x + 88))) (6 : Int32).toNatClampNeg (some (x + 89))) (7 : Int32).toNatClampNeg (some (x + 90))) (8 : Int32).toNatClampNeg (some (x + 91))) (9 : Int32).toNatClampNeg (some (x + 92))) (10 : Int32).toNatClampNeg (some (x + 93))) (11 : Int32).toNatClampNeg (some (x + 94))))) (hc83_ : Φ (x + 83) = some (o_ 5 [.long 0, .long 0, .long 0, .int 0, .int 0])) (hna : G.2.2.2 ≤ x) : Ct G l yX2_addToFlow wsX2_addToFlow ({ frames := 2, cells := 0, slots := 0, locals := 47 }) 0 0 [.ref (x + 80), .long k, .int b] Φ sz (fun v Φ1 sz1 => v = none ∧ sz1 = sz ∧ (∀ b9 : Nat, b9 ≠ x + 81 → b9 ≠ x + 83 → Φ1 b9 = Φ b9) ∧ Φ1 (x + 81) = some (o_ 6 [.ref (x + 82), .int 1]) ∧ Φ1 (x + 83) = some (o_ 5 [.long k, .long 1, .long (0 + b.toInt64), .int 0, .int 0])) := by
  refine Ct.of (cc := cX2_addToFlow) (maxL := 6) (ret := none) (by decide) rfl (Nat.le_of_ble_eq_true rfl) ?_
  intro p9 e9 s9 m9 w9 t9 k9 B
  show Z p9 l e9 _ s9 m9 _ w9 t9 k9 _ G 6 0 [(0, .ref (x + 80)), (1, .long k), (3, .int b)] [] Φ sz 0 0
  refine z_aload_n B dX2_addToFlow_0 rfl 0 rfl ?_
  refine z_get (ref := "FlowExporter$Exporter") (C := RX2) (T := TX2) (N := 13) (ci := 4) (v := .ref (x + 81)) B (by decide +kernel) rfl 2 (by decide) (by decide +kernel) rfl hc80_ rfl dX2_addToFlow_1 ?_
  refine z_lload_n B dX2_addToFlow_4 rfl 1 rfl ?_
  refine z_callV (As := [.long k]) (rest := []) B (f_X4_indexOf_c G l Φ sz x k hc81_) (cwV 1 B.1.2.2.2.2 gX2_addToFlow_X4_indexOf rfl rfl rfl (by decide +kernel) ⟨Nat.le_of_ble_eq_true rfl, Nat.le_of_ble_eq_true rfl⟩) hc81_ rfl rfl rfl rfl (Nat.le_of_ble_eq_true rfl) dX2_addToFlow_5 ⟨Nat.le_of_ble_eq_true rfl, Nat.le_of_ble_eq_true rfl⟩ (fun v1 Φ1 sz1 st1 hp1 hs1 => ?_)
  obtain ⟨rfl, hq1, fr1⟩ := hp1
  replace hq1 : sz1 = sz := hq1
  subst sz1
  replace hs1 : st1 = [.int (-1)] := hs1
  subst st1
  refine z_istore (lv' := [(4, .int (-1)), (0, .ref (x + 80)), (1, .long k), (3, .int b)]) B dX2_addToFlow_8 (Nat.le_of_ble_eq_true rfl) rfl ?_
  refine z_iload B dX2_addToFlow_10 0 rfl ?_
  refine z_iconst (v := (-1)) B dX2_addToFlow_12 rfl ?_
  refine z_icmp_ne (tgt := 37) B dX2_addToFlow_13 rfl (fun h9 => absurd (by decide) h9) (fun c_1 => ?_)
  refine z_aload_n B dX2_addToFlow_16 rfl 1 rfl ?_
  have h_1 : Φ1 (x + 80) = some (o_ 4 [.ref (x + 3), .ref (x + 74), .ref (x + 81), .ref (x + 95), .int 0, .int 1, .int 1, .int 0, .int 0, .int 0, .long ob, .long 0, .long 0]) := ((fr1 (x + 80)).trans hc80_)
  refine z_get (ref := "FlowExporter$Exporter") (C := RX2) (T := TX2) (N := 13) (ci := 4) (v := .ref (x + 81)) B (by decide +kernel) rfl 2 (by decide) (by decide +kernel) rfl h_1 rfl dX2_addToFlow_17 ?_
  have h_2 : Φ1 (x + 81) = some (o_ 6 [.ref (x + 82), .int 0]) := ((fr1 (x + 81)).trans hc81_)
  have h_3 : Φ1 (x + 82) = some (aq_ G 5 12 (va_up (va_up (va_up (va_up (va_up (va_up (va_up (va_up (va_up (va_up (va_up (va_up (fun _ => none) (0 : Int32).toNatClampNeg (some (x + 83))) (1 : Int32).toNatClampNeg (some (x + 84))) (2 : Int32).toNatClampNeg (some (x + 85))) (3 : Int32).toNatClampNeg (some (x + 86))) (4 : Int32).toNatClampNeg (some (x + 87))) (5 : Int32).toNatClampNeg (some (x + 88))) (6 : Int32).toNatClampNeg (some (x + 89))) (7 : Int32).toNatClampNeg (some (x + 90))) (8 : Int32).toNatClampNeg (some (x + 91))) (9 : Int32).toNatClampNeg (some (x + 92))) (10 : Int32).toNatClampNeg (some (x + 93))) (11 : Int32).toNatClampNeg (some (x + 94)))) := ((fr1 (x + 82)).trans hc82_)
  refine z_callV (As := []) (rest := []) B (f_X4_isFull_c G l Φ1 sz x h_2 h_3) (cwV 0 B.1.2.2.2.2 gX2_addToFlow_X4_isFull rfl rfl rfl (by decide +kernel) ⟨Nat.le_of_ble_eq_true rfl, Nat.le_of_ble_eq_true rfl⟩) h_2 rfl rfl rfl rfl (Nat.le_of_ble_eq_true rfl) dX2_addToFlow_20 ⟨Nat.le_of_ble_eq_true rfl, Nat.le_of_ble_eq_true rfl⟩ (fun v2 Φ2 sz2 st2 hp2 hs2 => ?_)
  obtain ⟨rfl, hq2, fr2⟩ := hp2
  replace hq2 : sz2 = sz := hq2
  subst sz2
  replace hs2 : st2 = [.int 0] := hs2
  subst st2
  refine z_if_eq (tgt := 37) B dX2_addToFlow_23 rfl (fun c_2 => ?_) (fun h9 => absurd (by decide) h9)
  refine z_iload B dX2_addToFlow_37 0 rfl ?_
  refine z_iconst (v := (-1)) B dX2_addToFlow_39 rfl ?_
  refine z_icmp_ne (tgt := 58) B dX2_addToFlow_40 rfl (fun h9 => absurd (by decide) h9) (fun c_3 => ?_)
  refine z_aload_n B dX2_addToFlow_43 rfl 1 rfl ?_
  have h_4 : Φ2 (x + 80) = some (o_ 4 [.ref (x + 3), .ref (x + 74), .ref (x + 81), .ref (x + 95), .int 0, .int 1, .int 1, .int 0, .int 0, .int 0, .long ob, .long 0, .long 0]) := ((fr2 (x + 80)).trans h_1)
  refine z_get (ref := "FlowExporter$Exporter") (C := RX2) (T := TX2) (N := 13) (ci := 4) (v := .ref (x + 81)) B (by decide +kernel) rfl 2 (by decide) (by decide +kernel) rfl h_4 rfl dX2_addToFlow_44 ?_
  refine z_lload_n B dX2_addToFlow_47 rfl 2 rfl ?_
  refine z_aload_n B dX2_addToFlow_48 rfl 1 rfl ?_
  refine z_get (ref := "FlowExporter$Exporter") (C := RX2) (T := TX2) (N := 13) (ci := 4) (v := .int 0) B (by decide +kernel) rfl 4 (by decide) (by decide +kernel) rfl h_4 rfl dX2_addToFlow_49 ?_
  have h_5 : Φ2 (x + 81) = some (o_ 6 [.ref (x + 82), .int 0]) := ((fr2 (x + 81)).trans h_2)
  have h_6 : Φ2 (x + 82) = some (aq_ G 5 12 (va_up (va_up (va_up (va_up (va_up (va_up (va_up (va_up (va_up (va_up (va_up (va_up (fun _ => none) (0 : Int32).toNatClampNeg (some (x + 83))) (1 : Int32).toNatClampNeg (some (x + 84))) (2 : Int32).toNatClampNeg (some (x + 85))) (3 : Int32).toNatClampNeg (some (x + 86))) (4 : Int32).toNatClampNeg (some (x + 87))) (5 : Int32).toNatClampNeg (some (x + 88))) (6 : Int32).toNatClampNeg (some (x + 89))) (7 : Int32).toNatClampNeg (some (x + 90))) (8 : Int32).toNatClampNeg (some (x + 91))) (9 : Int32).toNatClampNeg (some (x + 92))) (10 : Int32).toNatClampNeg (some (x + 93))) (11 : Int32).toNatClampNeg (some (x + 94)))) := ((fr2 (x + 82)).trans h_3)
  have h_7 : Φ2 (x + 83) = some (o_ 5 [.long 0, .long 0, .long 0, .int 0, .int 0]) := ((fr2 (x + 83)).trans ((fr1 (x + 83)).trans hc83_))
  refine z_callV (As := [.long k, .int 0]) (rest := []) B (f_X4_addFlow_c G l Φ2 sz x k h_5 h_6 h_7 hna) (cwV 2 B.1.2.2.2.2 gX2_addToFlow_X4_addFlow rfl rfl rfl (by decide +kernel) ⟨Nat.le_of_ble_eq_true rfl, Nat.le_of_ble_eq_true rfl⟩) h_5 rfl rfl rfl rfl (Nat.le_of_ble_eq_true rfl) dX2_addToFlow_52 ⟨Nat.le_of_ble_eq_true rfl, Nat.le_of_ble_eq_true rfl⟩ (fun v3 Φ3 sz3 st3 hp3 hs3 => ?_)
  obtain ⟨rfl, hq3, fr3, h_8, h_9⟩ := hp3
  replace hq3 : sz3 = sz := hq3
  subst sz3
  replace hs3 : st3 = [.ref (x + 83)] := hs3
  subst st3
  have h_10 : Φ3 (x + 81) = some (o_ 6 [.ref (x + 82), .int 1]) := h_8
  have h_11 : Φ3 (x + 83) = some (o_ 5 [.long k, .long 0, .long 0, .int 0, .int 0]) := h_9
  refine z_goto (tgt := 67) B dX2_addToFlow_55 rfl ?_
  refine z_astore (lv' := [(5, .ref (x + 83)), (4, .int (-1)), (0, .ref (x + 80)), (1, .long k), (3, .int b)]) B dX2_addToFlow_67 (Nat.le_of_ble_eq_true rfl) rfl ?_
  refine z_aload B dX2_addToFlow_69 0 rfl ?_
  refine z_dup B dX2_addToFlow_71 rfl ?_
  refine z_get (ref := "FlowExporter$Flow") (C := RX3) (T := TX3) (N := 5) (ci := 5) (v := .long 0) B (by decide +kernel) rfl 1 (by decide) (by decide +kernel) rfl h_11 rfl dX2_addToFlow_72 ?_
  refine z_lconst (v := 1) B dX2_addToFlow_75 rfl ?_
  refine z_ladd B dX2_addToFlow_76 ?_
  refine z_top (st1 := [.long 1, .ref (x + 83)]) (congrArg (fun w9 : Int64 => ([.long w9, .ref (x + 83)] : List Value)) (show (0 + 1 : Int64) = 1 by decide +kernel)) ?_
  refine z_put (ref := "FlowExporter$Flow") (C := RX3) (T := TX3) (N := 5) (ci := 5) (v := .long 1) B (by decide +kernel) tyX3 tyX3_ok nmX3 rfl 1 (by decide) (by decide +kernel) rfl (Or.inl rfl) h_11 (Nat.le_trans hna (Nat.le_add_right x 83)) rfl rfl (Nat.le_of_ble_eq_true rfl) dX2_addToFlow_77 (fun Φ4 hΦ1 => ?_)
  have h_12 : Φ4 (x + 83) = some (o_ 5 [.long k, .long 1, .long 0, .int 0, .int 0]) := fset_at hΦ1
  refine z_aload B dX2_addToFlow_80 0 rfl ?_
  refine z_dup B dX2_addToFlow_82 rfl ?_
  refine z_get (ref := "FlowExporter$Flow") (C := RX3) (T := TX3) (N := 5) (ci := 5) (v := .long 0) B (by decide +kernel) rfl 2 (by decide) (by decide +kernel) rfl h_12 rfl dX2_addToFlow_83 ?_
  refine z_iload_n B dX2_addToFlow_86 rfl 4 rfl ?_
  refine z_i2l (v := b.toInt64) B dX2_addToFlow_87 rfl ?_
  refine z_ladd B dX2_addToFlow_88 ?_
  refine z_put (ref := "FlowExporter$Flow") (C := RX3) (T := TX3) (N := 5) (ci := 5) (v := .long (0 + b.toInt64)) B (by decide +kernel) tyX3 tyX3_ok nmX3 rfl 2 (by decide) (by decide +kernel) rfl (Or.inl rfl) h_12 (Nat.le_trans hna (Nat.le_add_right x 83)) rfl rfl (Nat.le_of_ble_eq_true rfl) dX2_addToFlow_89 (fun Φ5 hΦ2 => ?_)
  have h_13 : Φ5 (x + 83) = some (o_ 5 [.long k, .long 1, .long (0 + b.toInt64), .int 0, .int 0]) := fset_at hΦ2
  refine z_aload B dX2_addToFlow_92 0 rfl ?_
  refine z_aload_n B dX2_addToFlow_94 rfl 2 rfl ?_
  have h_14 : Φ5 (x + 80) = some (o_ 4 [.ref (x + 3), .ref (x + 74), .ref (x + 81), .ref (x + 95), .int 0, .int 1, .int 1, .int 0, .int 0, .int 0, .long ob, .long 0, .long 0]) := ((fset_fr hΦ2 (ne_off (x := x) (i := 80) (j := 83) rfl)).trans ((fset_fr hΦ1 (ne_off (x := x) (i := 80) (j := 83) rfl)).trans ((fr3 (x + 80) (ne_off (x := x) (i := 80) (j := 81) rfl) (ne_off (x := x) (i := 80) (j := 83) rfl)).trans h_4)))
  refine z_get (ref := "FlowExporter$Exporter") (C := RX2) (T := TX2) (N := 13) (ci := 4) (v := .int 0) B (by decide +kernel) rfl 4 (by decide) (by decide +kernel) rfl h_14 rfl dX2_addToFlow_95 ?_
  refine z_put (ref := "FlowExporter$Flow") (C := RX3) (T := TX3) (N := 5) (ci := 5) (v := .int 0) B (by decide +kernel) tyX3 tyX3_ok nmX3 rfl 4 (by decide) (by decide +kernel) rfl (Or.inl rfl) h_13 (Nat.le_trans hna (Nat.le_add_right x 83)) rfl rfl (Nat.le_of_ble_eq_true rfl) dX2_addToFlow_98 (fun Φ6 hΦ3 => ?_)
  have h_15 : Φ6 (x + 83) = some (o_ 5 [.long k, .long 1, .long (0 + b.toInt64), .int 0, .int 0]) := fset_at hΦ3
  have h_16 : Φ6 (x + 81) = some (o_ 6 [.ref (x + 82), .int 1]) := ((fset_fr hΦ3 (ne_off (x := x) (i := 81) (j := 83) rfl)).trans ((fset_fr hΦ2 (ne_off (x := x) (i := 81) (j := 83) rfl)).trans ((fset_fr hΦ1 (ne_off (x := x) (i := 81) (j := 83) rfl)).trans h_10)))
  exact z_ret_v B dX2_addToFlow_101 ⟨rfl, rfl, (fun b9 h9a h9b => ((fset_fr hΦ3 h9b).trans ((fset_fr hΦ2 h9b).trans ((fset_fr hΦ1 h9b).trans ((fr3 b9 h9a h9b).trans ((fr2 b9).trans ((fr1 b9).trans rfl))))))), h_16, h_15⟩

set_option maxHeartbeats 4000000 in
set_option maxRecDepth 100000 in
theorem f_X8_sendPending_b (G : EnvG) (l : Launch) (Φ : Hm) (sz : Nat) (x : Nat) (hc74_ : Φ (x + 74) = some (o_ 10 [.ref (x + 3), .ref (x + 46), .ref (x + 75), .ref (x + 77), .int 0, .ref (x + 78), .ref (x + 79), .int 0, .long 0, .int 0])) : Ct G l yX8_sendPending wsX8_sendPending ({ frames := 0, cells := 0, slots := 0, locals := 0 }) 0 0 [.ref (x + 74), .int 0] Φ sz (fun v Φ1 sz1 => v = none ∧ sz1 = sz ∧ (∀ b9 : Nat, Φ1 b9 = Φ b9)) := by
  refine Ct.of (cc := cX8_sendPending) (maxL := 11) (ret := none) (by decide) rfl (Nat.le_of_ble_eq_true rfl) ?_
  intro p9 e9 s9 m9 w9 t9 k9 B
  show Z p9 l e9 _ s9 m9 _ w9 t9 k9 _ G 11 0 [(0, .ref (x + 74)), (1, .int 0)] [] Φ sz 0 0
  refine z_aload_n B dX8_sendPending_0 rfl 0 rfl ?_
  refine z_get (ref := "FlowExporter$Sender") (C := RX8) (T := TX8) (N := 10) (ci := 10) (v := .int 0) B (by decide +kernel) rfl 4 (by decide) (by decide +kernel) rfl hc74_ rfl dX8_sendPending_1 ?_
  refine z_if_ne (tgt := 8) B dX8_sendPending_4 rfl (fun h9 => absurd (by decide) h9) (fun c_1 => ?_)
  exact z_ret_v B dX8_sendPending_7 ⟨rfl, rfl, (fun b9 => rfl)⟩

set_option maxHeartbeats 4000000 in
set_option maxRecDepth 100000 in
theorem f_X2_takePackets_1 (G : EnvG) (l : Launch) (Φ : Hm) (sz : Nat) (x : Nat) (k : Int64) (b : Int32) (hc74_ : Φ (x + 74) = some (o_ 10 [.ref (x + 3), .ref (x + 46), .ref (x + 75), .ref (x + 77), .int 0, .ref (x + 78), .ref (x + 79), .int 0, .long 0, .int 0])) (hc80_ : Φ (x + 80) = some (o_ 4 [.ref (x + 3), .ref (x + 74), .ref (x + 81), .ref (x + 95), .int 0, .int 1, .int 1, .int 0, .int 0, .int 0, .long 0, .long 0, .long 0])) (hc81_ : Φ (x + 81) = some (o_ 6 [.ref (x + 82), .int 0])) (hc82_ : Φ (x + 82) = some (aq_ G 5 12 (va_up (va_up (va_up (va_up (va_up (va_up (va_up (va_up (va_up (va_up (va_up (va_up (fun _ => none) (0 : Int32).toNatClampNeg (some (x + 83))) (1 : Int32).toNatClampNeg (some (x + 84))) (2 : Int32).toNatClampNeg (some (x + 85))) (3 : Int32).toNatClampNeg (some (x + 86))) (4 : Int32).toNatClampNeg (some (x + 87))) (5 : Int32).toNatClampNeg (some (x + 88))) (6 : Int32).toNatClampNeg (some (x + 89))) (7 : Int32).toNatClampNeg (some (x + 90))) (8 : Int32).toNatClampNeg (some (x + 91))) (9 : Int32).toNatClampNeg (some (x + 92))) (10 : Int32).toNatClampNeg (some (x + 93))) (11 : Int32).toNatClampNeg (some (x + 94))))) (hc83_ : Φ (x + 83) = some (o_ 5 [.long 0, .long 0, .long 0, .int 0, .int 0])) (hc95_ : Φ (x + 95) = some (o_ 6 [.ref (x + 96), .int 0])) (hc96_ : Φ (x + 96) = some (aq_ G 5 24 (va_up (va_up (va_up (va_up (va_up (va_up (va_up (va_up (va_up (va_up (va_up (va_up (va_up (va_up (va_up (va_up (va_up (va_up (va_up (va_up (va_up (va_up (va_up (va_up (fun _ => none) (0 : Int32).toNatClampNeg (some (x + 97))) (1 : Int32).toNatClampNeg (some (x + 98))) (2 : Int32).toNatClampNeg (some (x + 99))) (3 : Int32).toNatClampNeg (some (x + 100))) (4 : Int32).toNatClampNeg (some (x + 101))) (5 : Int32).toNatClampNeg (some (x + 102))) (6 : Int32).toNatClampNeg (some (x + 103))) (7 : Int32).toNatClampNeg (some (x + 104))) (8 : Int32).toNatClampNeg (some (x + 105))) (9 : Int32).toNatClampNeg (some (x + 106))) (10 : Int32).toNatClampNeg (some (x + 107))) (11 : Int32).toNatClampNeg (some (x + 108))) (12 : Int32).toNatClampNeg (some (x + 109))) (13 : Int32).toNatClampNeg (some (x + 110))) (14 : Int32).toNatClampNeg (some (x + 111))) (15 : Int32).toNatClampNeg (some (x + 112))) (16 : Int32).toNatClampNeg (some (x + 113))) (17 : Int32).toNatClampNeg (some (x + 114))) (18 : Int32).toNatClampNeg (some (x + 115))) (19 : Int32).toNatClampNeg (some (x + 116))) (20 : Int32).toNatClampNeg (some (x + 117))) (21 : Int32).toNatClampNeg (some (x + 118))) (22 : Int32).toNatClampNeg (some (x + 119))) (23 : Int32).toNatClampNeg (some (x + 120))))) (hc97_ : Φ (x + 97) = some (o_ 5 [.long 0, .long 0, .long 0, .int 0, .int 0])) (hna : G.2.2.2 ≤ x) : Ct G l yX2_takePackets wsX2_takePackets ({ frames := 3, cells := 0, slots := 0, locals := 73 }) 0 0 [.ref (x + 80), .long k, .int b, .int 1] Φ sz (fun v Φ1 sz1 => v = some (.int 1) ∧ sz1 = sz ∧ (∀ b9 : Nat, b9 ≠ x + 80 → b9 ≠ x + 81 → b9 ≠ x + 83 → b9 ≠ x + 95 → b9 ≠ x + 97 → Φ1 b9 = Φ b9) ∧ Φ1 (x + 80) = some (o_ 4 [.ref (x + 3), .ref (x + 74), .ref (x + 81), .ref (x + 95), .int 0, .int 1, .int 1, .int 0, .int 0, .int 0, .long 1, .long 1, .long 0]) ∧ Φ1 (x + 81) = some (o_ 6 [.ref (x + 82), .int 1]) ∧ Φ1 (x + 83) = some (o_ 5 [.long k, .long 1, .long (0 + b.toInt64), .int 0, .int 0]) ∧ Φ1 (x + 95) = some (o_ 6 [.ref (x + 96), .int 1]) ∧ Φ1 (x + 97) = some (o_ 5 [.long k, .long 1, .long (0 + ((1 : Int32).toInt64 * b.toInt64)), .int 0, .int 0])) := by
  refine Ct.of (cc := cX2_takePackets) (maxL := 7) (ret := (some .int)) (by decide) rfl (Nat.le_of_ble_eq_true rfl) ?_
  intro p9 e9 s9 m9 w9 t9 k9 B
  show Z p9 l e9 _ s9 m9 _ w9 t9 k9 _ G 7 0 [(0, .ref (x + 80)), (1, .long k), (3, .int b), (4, .int 1)] [] Φ sz 0 0
  refine z_aload_n B dX2_takePackets_0 rfl 0 rfl ?_
  refine z_dup B dX2_takePackets_1 rfl ?_
  refine z_get (ref := "FlowExporter$Exporter") (C := RX2) (T := TX2) (N := 13) (ci := 4) (v := .long 0) B (by decide +kernel) rfl 10 (by decide) (by decide +kernel) rfl hc80_ rfl dX2_takePackets_2 ?_
  refine z_iload B dX2_takePackets_5 3 rfl ?_
  refine z_i2l (v := 1) B dX2_takePackets_7 (by decide +kernel) ?_
  refine z_ladd B dX2_takePackets_8 ?_
  refine z_top (st1 := [.long 1, .ref (x + 80)]) (congrArg (fun w9 : Int64 => ([.long w9, .ref (x + 80)] : List Value)) (show (0 + 1 : Int64) = 1 by decide +kernel)) ?_
  refine z_put (ref := "FlowExporter$Exporter") (C := RX2) (T := TX2) (N := 13) (ci := 4) (v := .long 1) B (by decide +kernel) tyX2 tyX2_ok nmX2 rfl 10 (by decide) (by decide +kernel) rfl (Or.inl rfl) hc80_ (Nat.le_trans hna (Nat.le_add_right x 80)) rfl rfl (Nat.le_of_ble_eq_true rfl) dX2_takePackets_9 (fun Φ1 hΦ1 => ?_)
  have h_1 : Φ1 (x + 80) = some (o_ 4 [.ref (x + 3), .ref (x + 74), .ref (x + 81), .ref (x + 95), .int 0, .int 1, .int 1, .int 0, .int 0, .int 0, .long 1, .long 0, .long 0]) := fset_at hΦ1
  refine z_aload_n B dX2_takePackets_12 rfl 0 rfl ?_
  refine z_lload_n B dX2_takePackets_13 rfl 1 rfl ?_
  refine z_iload_n B dX2_takePackets_14 rfl 2 rfl ?_
  refine z_iload B dX2_takePackets_15 3 rfl ?_
  have h_2 : Φ1 (x + 95) = some (o_ 6 [.ref (x + 96), .int 0]) := ((fset_fr hΦ1 (ne_off (x := x) (i := 95) (j := 80) rfl)).trans hc95_)
  have h_3 : Φ1 (x + 96) = some (aq_ G 5 24 (va_up (va_up (va_up (va_up (va_up (va_up (va_up (va_up (va_up (va_up (va_up (va_up (va_up (va_up (va_up (va_up (va_up (va_up (va_up (va_up (va_up (va_up (va_up (va_up (fun _ => none) (0 : Int32).toNatClampNeg (some (x + 97))) (1 : Int32).toNatClampNeg (some (x + 98))) (2 : Int32).toNatClampNeg (some (x + 99))) (3 : Int32).toNatClampNeg (some (x + 100))) (4 : Int32).toNatClampNeg (some (x + 101))) (5 : Int32).toNatClampNeg (some (x + 102))) (6 : Int32).toNatClampNeg (some (x + 103))) (7 : Int32).toNatClampNeg (some (x + 104))) (8 : Int32).toNatClampNeg (some (x + 105))) (9 : Int32).toNatClampNeg (some (x + 106))) (10 : Int32).toNatClampNeg (some (x + 107))) (11 : Int32).toNatClampNeg (some (x + 108))) (12 : Int32).toNatClampNeg (some (x + 109))) (13 : Int32).toNatClampNeg (some (x + 110))) (14 : Int32).toNatClampNeg (some (x + 111))) (15 : Int32).toNatClampNeg (some (x + 112))) (16 : Int32).toNatClampNeg (some (x + 113))) (17 : Int32).toNatClampNeg (some (x + 114))) (18 : Int32).toNatClampNeg (some (x + 115))) (19 : Int32).toNatClampNeg (some (x + 116))) (20 : Int32).toNatClampNeg (some (x + 117))) (21 : Int32).toNatClampNeg (some (x + 118))) (22 : Int32).toNatClampNeg (some (x + 119))) (23 : Int32).toNatClampNeg (some (x + 120)))) := ((fset_fr hΦ1 (ne_off (x := x) (i := 96) (j := 80) rfl)).trans hc96_)
  have h_4 : Φ1 (x + 97) = some (o_ 5 [.long 0, .long 0, .long 0, .int 0, .int 0]) := ((fset_fr hΦ1 (ne_off (x := x) (i := 97) (j := 80) rfl)).trans hc97_)
  refine z_callV (As := [.long k, .int b, .int 1]) (rest := []) B (f_X2_remember G l Φ1 sz x 1 k b 1 h_1 h_2 h_3 h_4 hna) (cwV 3 B.1.2.2.2.2 gX2_takePackets_X2_remember rfl rfl rfl (by decide +kernel) ⟨Nat.le_of_ble_eq_true rfl, Nat.le_of_ble_eq_true rfl⟩) h_1 rfl rfl rfl rfl (Nat.le_of_ble_eq_true rfl) dX2_takePackets_17 ⟨Nat.le_of_ble_eq_true rfl, Nat.le_of_ble_eq_true rfl⟩ (fun v1 Φ2 sz1 st1 hp1 hs1 => ?_)
  obtain ⟨rfl, hq1, fr1, h_5, h_6⟩ := hp1
  replace hq1 : sz1 = sz := hq1
  subst sz1
  replace hs1 : st1 = [] := hs1
  subst st1
  have h_7 : Φ2 (x + 95) = some (o_ 6 [.ref (x + 96), .int 1]) := h_5
  have h_8 : Φ2 (x + 97) = some (o_ 5 [.long k, .long 1, .long (0 + ((1 : Int32).toInt64 * b.toInt64)), .int 0, .int 0]) := h_6
  refine z_iconst (v := 0) B dX2_takePackets_20 rfl ?_
  refine z_istore (lv' := [(5, .int 0), (0, .ref (x + 80)), (1, .long k), (3, .int b), (4, .int 1)]) B dX2_takePackets_21 (Nat.le_of_ble_eq_true rfl) rfl ?_
  refine z_iconst (v := 0) B dX2_takePackets_23 rfl ?_
  refine z_istore (lv' := [(6, .int 0), (5, .int 0), (0, .ref (x + 80)), (1, .long k), (3, .int b), (4, .int 1)]) B dX2_takePackets_24 (Nat.le_of_ble_eq_true rfl) rfl ?_
  refine z_iload B dX2_takePackets_26 0 rfl ?_
  refine z_iload B dX2_takePackets_28 5 rfl ?_
  refine z_icmp_ge (tgt := 55) B dX2_takePackets_30 rfl (fun h9 => absurd h9 (by decide)) (fun c_1 => ?_)
  refine z_aload_n B dX2_takePackets_33 rfl 2 rfl ?_
  have h_9 : Φ2 (x + 80) = some (o_ 4 [.ref (x + 3), .ref (x + 74), .ref (x + 81), .ref (x + 95), .int 0, .int 1, .int 1, .int 0, .int 0, .int 0, .long 1, .long 0, .long 0]) := ((fr1 (x + 80) (ne_off (x := x) (i := 80) (j := 95) rfl) (ne_off (x := x) (i := 80) (j := 97) rfl)).trans h_1)
  refine z_callV (As := []) (rest := []) B (f_X2_isSampled G l Φ2 sz x 1 h_9) (cwV 0 B.1.2.2.2.2 gX2_takePackets_X2_isSampled rfl rfl rfl (by decide +kernel) ⟨Nat.le_of_ble_eq_true rfl, Nat.le_of_ble_eq_true rfl⟩) h_9 rfl rfl rfl rfl (Nat.le_of_ble_eq_true rfl) dX2_takePackets_34 ⟨Nat.le_of_ble_eq_true rfl, Nat.le_of_ble_eq_true rfl⟩ (fun v2 Φ3 sz2 st2 hp2 hs2 => ?_)
  obtain ⟨rfl, hq2, fr2⟩ := hp2
  replace hq2 : sz2 = sz := hq2
  subst sz2
  replace hs2 : st2 = [.int 1] := hs2
  subst st2
  refine z_if_eq (tgt := 49) B dX2_takePackets_37 rfl (fun h9 => absurd h9 (by decide)) (fun c_2 => ?_)
  refine z_aload_n B dX2_takePackets_40 rfl 2 rfl ?_
  refine z_lload_n B dX2_takePackets_41 rfl 3 rfl ?_
  refine z_iload_n B dX2_takePackets_42 rfl 4 rfl ?_
  have h_10 : Φ3 (x + 80) = some (o_ 4 [.ref (x + 3), .ref (x + 74), .ref (x + 81), .ref (x + 95), .int 0, .int 1, .int 1, .int 0, .int 0, .int 0, .long 1, .long 0, .long 0]) := ((fr2 (x + 80)).trans h_9)
  have h_11 : Φ3 (x + 81) = some (o_ 6 [.ref (x + 82), .int 0]) := ((fr2 (x + 81)).trans ((fr1 (x + 81) (ne_off (x := x) (i := 81) (j := 95) rfl) (ne_off (x := x) (i := 81) (j := 97) rfl)).trans ((fset_fr hΦ1 (ne_off (x := x) (i := 81) (j := 80) rfl)).trans hc81_)))
  have h_12 : Φ3 (x + 82) = some (aq_ G 5 12 (va_up (va_up (va_up (va_up (va_up (va_up (va_up (va_up (va_up (va_up (va_up (va_up (fun _ => none) (0 : Int32).toNatClampNeg (some (x + 83))) (1 : Int32).toNatClampNeg (some (x + 84))) (2 : Int32).toNatClampNeg (some (x + 85))) (3 : Int32).toNatClampNeg (some (x + 86))) (4 : Int32).toNatClampNeg (some (x + 87))) (5 : Int32).toNatClampNeg (some (x + 88))) (6 : Int32).toNatClampNeg (some (x + 89))) (7 : Int32).toNatClampNeg (some (x + 90))) (8 : Int32).toNatClampNeg (some (x + 91))) (9 : Int32).toNatClampNeg (some (x + 92))) (10 : Int32).toNatClampNeg (some (x + 93))) (11 : Int32).toNatClampNeg (some (x + 94)))) := ((fr2 (x + 82)).trans ((fr1 (x + 82) (ne_off (x := x) (i := 82) (j := 95) rfl) (ne_off (x := x) (i := 82) (j := 97) rfl)).trans ((fset_fr hΦ1 (ne_off (x := x) (i := 82) (j := 80) rfl)).trans hc82_)))
  have h_13 : Φ3 (x + 83) = some (o_ 5 [.long 0, .long 0, .long 0, .int 0, .int 0]) := ((fr2 (x + 83)).trans ((fr1 (x + 83) (ne_off (x := x) (i := 83) (j := 95) rfl) (ne_off (x := x) (i := 83) (j := 97) rfl)).trans ((fset_fr hΦ1 (ne_off (x := x) (i := 83) (j := 80) rfl)).trans hc83_)))
  refine z_callV (As := [.long k, .int b]) (rest := []) B (f_X2_addToFlow_1 G l Φ3 sz x 1 k b h_10 h_11 h_12 h_13 hna) (cwV 2 B.1.2.2.2.2 gX2_takePackets_X2_addToFlow rfl rfl rfl (by decide +kernel) ⟨Nat.le_of_ble_eq_true rfl, Nat.le_of_ble_eq_true rfl⟩) h_10 rfl rfl rfl rfl (Nat.le_of_ble_eq_true rfl) dX2_takePackets_43 ⟨Nat.le_of_ble_eq_true rfl, Nat.le_of_ble_eq_true rfl⟩ (fun v3 Φ4 sz3 st3 hp3 hs3 => ?_)
  obtain ⟨rfl, hq3, fr3, h_14, h_15⟩ := hp3
  replace hq3 : sz3 = sz := hq3
  subst sz3
  replace hs3 : st3 = [] := hs3
  subst st3
  have h_16 : Φ4 (x + 81) = some (o_ 6 [.ref (x + 82), .int 1]) := h_14
  have h_17 : Φ4 (x + 83) = some (o_ 5 [.long k, .long 1, .long (0 + b.toInt64), .int 0, .int 0]) := h_15
  refine z_iinc (k := 1) (v := 1) (lv' := [(5, .int 1), (6, .int 0), (0, .ref (x + 80)), (1, .long k), (3, .int b), (4, .int 1)]) B dX2_takePackets_46 rfl rfl (Nat.le_of_ble_eq_true rfl) rfl ?_
  refine z_iinc (k := 1) (v := 1) (lv' := [(6, .int 1), (5, .int 1), (0, .ref (x + 80)), (1, .long k), (3, .int b), (4, .int 1)]) B dX2_takePackets_49 rfl rfl (Nat.le_of_ble_eq_true rfl) rfl ?_
  refine z_goto (tgt := 26) B dX2_takePackets_52 rfl ?_
  refine z_iload B dX2_takePackets_26 0 rfl ?_
  refine z_iload B dX2_takePackets_28 5 rfl ?_
  refine z_icmp_ge (tgt := 55) B dX2_takePackets_30 rfl (fun c_3 => ?_) (fun h9 => absurd (by decide) h9)
  refine z_aload_n B dX2_takePackets_55 rfl 2 rfl ?_
  refine z_dup B dX2_takePackets_56 rfl ?_
  have h_18 : Φ4 (x + 80) = some (o_ 4 [.ref (x + 3), .ref (x + 74), .ref (x + 81), .ref (x + 95), .int 0, .int 1, .int 1, .int 0, .int 0, .int 0, .long 1, .long 0, .long 0]) := ((fr3 (x + 80) (ne_off (x := x) (i := 80) (j := 81) rfl) (ne_off (x := x) (i := 80) (j := 83) rfl)).trans h_10)
  refine z_get (ref := "FlowExporter$Exporter") (C := RX2) (T := TX2) (N := 13) (ci := 4) (v := .long 0) B (by decide +kernel) rfl 11 (by decide) (by decide +kernel) rfl h_18 rfl dX2_takePackets_57 ?_
  refine z_iload B dX2_takePackets_60 1 rfl ?_
  refine z_i2l (v := 1) B dX2_takePackets_62 (by decide +kernel) ?_
  refine z_ladd B dX2_takePackets_63 ?_
  refine z_top (st1 := [.long 1, .ref (x + 80)]) (congrArg (fun w9 : Int64 => ([.long w9, .ref (x + 80)] : List Value)) (show (0 + 1 : Int64) = 1 by decide +kernel)) ?_
  refine z_put (ref := "FlowExporter$Exporter") (C := RX2) (T := TX2) (N := 13) (ci := 4) (v := .long 1) B (by decide +kernel) tyX2 tyX2_ok nmX2 rfl 11 (by decide) (by decide +kernel) rfl (Or.inl rfl) h_18 (Nat.le_trans hna (Nat.le_add_right x 80)) rfl rfl (Nat.le_of_ble_eq_true rfl) dX2_takePackets_64 (fun Φ5 hΦ2 => ?_)
  have h_19 : Φ5 (x + 80) = some (o_ 4 [.ref (x + 3), .ref (x + 74), .ref (x + 81), .ref (x + 95), .int 0, .int 1, .int 1, .int 0, .int 0, .int 0, .long 1, .long 1, .long 0]) := fset_at hΦ2
  refine z_aload_n B dX2_takePackets_67 rfl 2 rfl ?_
  refine z_get (ref := "FlowExporter$Exporter") (C := RX2) (T := TX2) (N := 13) (ci := 4) (v := .ref (x + 74)) B (by decide +kernel) rfl 1 (by decide) (by decide +kernel) rfl h_19 rfl dX2_takePackets_68 ?_
  refine z_aload_n B dX2_takePackets_71 rfl 2 rfl ?_
  refine z_get (ref := "FlowExporter$Exporter") (C := RX2) (T := TX2) (N := 13) (ci := 4) (v := .int 0) B (by decide +kernel) rfl 4 (by decide) (by decide +kernel) rfl h_19 rfl dX2_takePackets_72 ?_
  have h_20 : Φ5 (x + 74) = some (o_ 10 [.ref (x + 3), .ref (x + 46), .ref (x + 75), .ref (x + 77), .int 0, .ref (x + 78), .ref (x + 79), .int 0, .long 0, .int 0]) := ((fset_fr hΦ2 (ne_off (x := x) (i := 74) (j := 80) rfl)).trans ((fr3 (x + 74) (ne_off (x := x) (i := 74) (j := 81) rfl) (ne_off (x := x) (i := 74) (j := 83) rfl)).trans ((fr2 (x + 74)).trans ((fr1 (x + 74) (ne_off (x := x) (i := 74) (j := 95) rfl) (ne_off (x := x) (i := 74) (j := 97) rfl)).trans ((fset_fr hΦ1 (ne_off (x := x) (i := 74) (j := 80) rfl)).trans hc74_)))))
  refine z_callV (As := [.int 0]) (rest := []) B (f_X8_sendPending G l Φ5 sz x h_20) (cwV 1 B.1.2.2.2.2 gX2_takePackets_X8_sendPending rfl rfl rfl (by decide +kernel) ⟨Nat.le_of_ble_eq_true rfl, Nat.le_of_ble_eq_true rfl⟩) h_20 rfl rfl rfl rfl (Nat.le_of_ble_eq_true rfl) dX2_takePackets_75 ⟨Nat.le_of_ble_eq_true rfl, Nat.le_of_ble_eq_true rfl⟩ (fun v4 Φ6 sz4 st4 hp4 hs4 => ?_)
  obtain ⟨rfl, hq4, fr4⟩ := hp4
  replace hq4 : sz4 = sz := hq4
  subst sz4
  replace hs4 : st4 = [] := hs4
  subst st4
  refine z_iload B dX2_takePackets_78 1 rfl ?_
  have h_21 : Φ6 (x + 80) = some (o_ 4 [.ref (x + 3), .ref (x + 74), .ref (x + 81), .ref (x + 95), .int 0, .int 1, .int 1, .int 0, .int 0, .int 0, .long 1, .long 1, .long 0]) := ((fr4 (x + 80)).trans h_19)
  have h_22 : Φ6 (x + 81) = some (o_ 6 [.ref (x + 82), .int 1]) := ((fr4 (x + 81)).trans ((fset_fr hΦ2 (ne_off (x := x) (i := 81) (j := 80) rfl)).trans h_16))
  have h_23 : Φ6 (x + 83) = some (o_ 5 [.long k, .long 1, .long (0 + b.toInt64), .int 0, .int 0]) := ((fr4 (x + 83)).trans ((fset_fr hΦ2 (ne_off (x := x) (i := 83) (j := 80) rfl)).trans h_17))
  have h_24 : Φ6 (x + 95) = some (o_ 6 [.ref (x + 96), .int 1]) := ((fr4 (x + 95)).trans ((fset_fr hΦ2 (ne_off (x := x) (i := 95) (j := 80) rfl)).trans ((fr3 (x + 95) (ne_off (x := x) (i := 95) (j := 81) rfl) (ne_off (x := x) (i := 95) (j := 83) rfl)).trans ((fr2 (x + 95)).trans h_7))))
  have h_25 : Φ6 (x + 97) = some (o_ 5 [.long k, .long 1, .long (0 + ((1 : Int32).toInt64 * b.toInt64)), .int 0, .int 0]) := ((fr4 (x + 97)).trans ((fset_fr hΦ2 (ne_off (x := x) (i := 97) (j := 80) rfl)).trans ((fr3 (x + 97) (ne_off (x := x) (i := 97) (j := 81) rfl) (ne_off (x := x) (i := 97) (j := 83) rfl)).trans ((fr2 (x + 97)).trans h_8))))
  exact z_ret_i B dX2_takePackets_80 ⟨rfl, rfl, (fun b9 h9a h9b h9c h9d h9e => ((fr4 b9).trans ((fset_fr hΦ2 h9a).trans ((fr3 b9 h9b h9c).trans ((fr2 b9).trans ((fr1 b9 h9d h9e).trans ((fset_fr hΦ1 h9a).trans rfl))))))), h_21, h_22, h_23, h_24, h_25⟩

set_option maxHeartbeats 4000000 in
set_option maxRecDepth 100000 in
theorem f_X11_requirePackets_x (G : EnvG) (l : Launch) (hl9 : l.stackTraces = false) (Φ : Hm) (sz : Nat) (x : Nat) (k : Int64) (b : Int32) (n : Int32) (hk : ¬ (¬ lg_cmp k (-1) = 0 ∧ ¬ b < 1 ∧ ¬ 65535 < b ∧ ¬ n < 1 ∧ n ≤ 200)) : CtX G l yX11_requirePackets wsX11_requirePackets ({ frames := 6, cells := 1, slots := 6, locals := 81 }) 1 6 [.long k, .int b, .int n] Φ sz xIA := by
  refine CtX.of (cc := cX11_requirePackets) (maxL := 4) (ret := none) (by decide) rfl (Nat.le_of_ble_eq_true rfl) ?_
  intro p9 e9 s9 m9 w9 t9 k9 B htab9
  show Z p9 l e9 _ s9 m9 _ w9 t9 k9 _ G 4 0 [(0, .long k), (2, .int b), (3, .int n)] [] Φ sz 0 0
  refine z_lload_n B dX11_requirePackets_0 rfl 0 rfl ?_
  refine z_ldc2 (v := (-1)) B (by decide +kernel) dX11_requirePackets_1 ?_
  refine z_lcmp B dX11_requirePackets_4 ?_
  refine z_if_eq (tgt := 31) B dX11_requirePackets_5 rfl (fun c_1 => ?_) (fun c_1 => ?_)
  · exact z_throw (cls := xIA) (ik := 116) (ic := 118) B hl9 htab9 (by decide) (by decide +kernel) (by decide +kernel) (by decide +kernel) (by decide +kernel) (by decide +kernel) (by decide +kernel) (by decide +kernel) dX11_requirePackets_31 dX11_requirePackets_34 dX11_requirePackets_35 dX11_requirePackets_38 ⟨Nat.le_of_ble_eq_true rfl, Nat.le_of_ble_eq_true rfl, Nat.le_of_ble_eq_true rfl, Nat.le_of_ble_eq_true rfl⟩ ⟨Nat.le_of_ble_eq_true rfl, Nat.le_of_ble_eq_true rfl⟩
  · refine z_iload_n B dX11_requirePackets_8 rfl 1 rfl ?_
    refine z_iconst (v := 1) B dX11_requirePackets_9 rfl ?_
    refine z_icmp_lt (tgt := 31) B dX11_requirePackets_10 rfl (fun c_2 => ?_) (fun c_2 => ?_)
    · exact z_throw (cls := xIA) (ik := 116) (ic := 118) B hl9 htab9 (by decide) (by decide +kernel) (by decide +kernel) (by decide +kernel) (by decide +kernel) (by decide +kernel) (by decide +kernel) (by decide +kernel) dX11_requirePackets_31 dX11_requirePackets_34 dX11_requirePackets_35 dX11_requirePackets_38 ⟨Nat.le_of_ble_eq_true rfl, Nat.le_of_ble_eq_true rfl, Nat.le_of_ble_eq_true rfl, Nat.le_of_ble_eq_true rfl⟩ ⟨Nat.le_of_ble_eq_true rfl, Nat.le_of_ble_eq_true rfl⟩
    · refine z_iload_n B dX11_requirePackets_13 rfl 1 rfl ?_
      refine z_ldc (v := 65535) B (by decide +kernel) dX11_requirePackets_14 ?_
      refine z_icmp_gt (tgt := 31) B dX11_requirePackets_16 rfl (fun c_3 => ?_) (fun c_3 => ?_)
      · exact z_throw (cls := xIA) (ik := 116) (ic := 118) B hl9 htab9 (by decide) (by decide +kernel) (by decide +kernel) (by decide +kernel) (by decide +kernel) (by decide +kernel) (by decide +kernel) (by decide +kernel) dX11_requirePackets_31 dX11_requirePackets_34 dX11_requirePackets_35 dX11_requirePackets_38 ⟨Nat.le_of_ble_eq_true rfl, Nat.le_of_ble_eq_true rfl, Nat.le_of_ble_eq_true rfl, Nat.le_of_ble_eq_true rfl⟩ ⟨Nat.le_of_ble_eq_true rfl, Nat.le_of_ble_eq_true rfl⟩
      · refine z_iload_n B dX11_requirePackets_19 rfl 2 rfl ?_
        refine z_iconst (v := 1) B dX11_requirePackets_20 rfl ?_
        refine z_icmp_lt (tgt := 31) B dX11_requirePackets_21 rfl (fun c_4 => ?_) (fun c_4 => ?_)
        · exact z_throw (cls := xIA) (ik := 116) (ic := 118) B hl9 htab9 (by decide) (by decide +kernel) (by decide +kernel) (by decide +kernel) (by decide +kernel) (by decide +kernel) (by decide +kernel) (by decide +kernel) dX11_requirePackets_31 dX11_requirePackets_34 dX11_requirePackets_35 dX11_requirePackets_38 ⟨Nat.le_of_ble_eq_true rfl, Nat.le_of_ble_eq_true rfl, Nat.le_of_ble_eq_true rfl, Nat.le_of_ble_eq_true rfl⟩ ⟨Nat.le_of_ble_eq_true rfl, Nat.le_of_ble_eq_true rfl⟩
        · refine z_iload_n B dX11_requirePackets_24 rfl 2 rfl ?_
          refine z_sipush (v := 200) B dX11_requirePackets_25 rfl ?_
          refine z_icmp_le (tgt := 39) B dX11_requirePackets_28 rfl (fun h9 => absurd h9 (fun h8 => hk ⟨c_1, c_2, c_3, c_4, h8⟩)) (fun c_5 => ?_)
          exact z_throw (cls := xIA) (ik := 116) (ic := 118) B hl9 htab9 (by decide) (by decide +kernel) (by decide +kernel) (by decide +kernel) (by decide +kernel) (by decide +kernel) (by decide +kernel) (by decide +kernel) dX11_requirePackets_31 dX11_requirePackets_34 dX11_requirePackets_35 dX11_requirePackets_38 ⟨Nat.le_of_ble_eq_true rfl, Nat.le_of_ble_eq_true rfl, Nat.le_of_ble_eq_true rfl, Nat.le_of_ble_eq_true rfl⟩ ⟨Nat.le_of_ble_eq_true rfl, Nat.le_of_ble_eq_true rfl⟩

set_option maxHeartbeats 4000000 in
set_option maxRecDepth 100000 in
theorem f_X11_requirePackets (G : EnvG) (l : Launch) (Φ : Hm) (sz : Nat) (x : Nat) (k : Int64) (b : Int32) (n : Int32) (hk : ¬ lg_cmp k (-1) = 0 ∧ ¬ b < 1 ∧ ¬ 65535 < b ∧ ¬ n < 1 ∧ n ≤ 200) : Ct G l yX11_requirePackets wsX11_requirePackets ({ frames := 0, cells := 0, slots := 0, locals := 0 }) 0 0 [.long k, .int b, .int n] Φ sz (fun v Φ1 sz1 => v = none ∧ sz1 = sz ∧ (∀ b9 : Nat, Φ1 b9 = Φ b9)) := by
  refine Ct.of (cc := cX11_requirePackets) (maxL := 4) (ret := none) (by decide) rfl (Nat.le_of_ble_eq_true rfl) ?_
  intro p9 e9 s9 m9 w9 t9 k9 B
  show Z p9 l e9 _ s9 m9 _ w9 t9 k9 _ G 4 0 [(0, .long k), (2, .int b), (3, .int n)] [] Φ sz 0 0
  refine z_lload_n B dX11_requirePackets_0 rfl 0 rfl ?_
  refine z_ldc2 (v := (-1)) B (by decide +kernel) dX11_requirePackets_1 ?_
  refine z_lcmp B dX11_requirePackets_4 ?_
  refine z_if_eq (tgt := 31) B dX11_requirePackets_5 rfl (fun h9 => absurd h9 hk.1) (fun c_1 => ?_)
  refine z_iload_n B dX11_requirePackets_8 rfl 1 rfl ?_
  refine z_iconst (v := 1) B dX11_requirePackets_9 rfl ?_
  refine z_icmp_lt (tgt := 31) B dX11_requirePackets_10 rfl (fun h9 => absurd h9 hk.2.1) (fun c_2 => ?_)
  refine z_iload_n B dX11_requirePackets_13 rfl 1 rfl ?_
  refine z_ldc (v := 65535) B (by decide +kernel) dX11_requirePackets_14 ?_
  refine z_icmp_gt (tgt := 31) B dX11_requirePackets_16 rfl (fun h9 => absurd h9 hk.2.2.1) (fun c_3 => ?_)
  refine z_iload_n B dX11_requirePackets_19 rfl 2 rfl ?_
  refine z_iconst (v := 1) B dX11_requirePackets_20 rfl ?_
  refine z_icmp_lt (tgt := 31) B dX11_requirePackets_21 rfl (fun h9 => absurd h9 hk.2.2.2.1) (fun c_4 => ?_)
  refine z_iload_n B dX11_requirePackets_24 rfl 2 rfl ?_
  refine z_sipush (v := 200) B dX11_requirePackets_25 rfl ?_
  refine z_icmp_le (tgt := 39) B dX11_requirePackets_28 rfl (fun c_5 => ?_) (fun h9 => absurd hk.2.2.2.2 h9)
  exact z_ret_v B dX11_requirePackets_39 ⟨rfl, rfl, (fun b9 => rfl)⟩

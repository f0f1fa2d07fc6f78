set_option maxHeartbeats 4000000 in
set_option maxRecDepth 100000 in
theorem s_X8_endMessageX (G : EnvG) (l : Launch) (Φ : Hm) (sz x ca : Nat) (pn : Nat) (ms : Int32) (rs : Int64) (sq : Int32) (qn : Nat) (qL : Nat → Nat) (qd : Int32) (qp : Nat → Nat) (ml : Nat) (k : Nat) (r : Nat) (hx : G.2.2.2 ≤ x) (hI : In G x ca Φ) (hk_k : kd k = 1) (hc0 : Φ (x + 74) = some (o_ 10 [.ref (x + 3), .ref (x + 46), .ref (x + 75), .ref (x + 77), .int (nI pn), .ref (x + 78), .ref (x + 79), .int ms, .long rs, .int sq])) (hc1 : Φ (x + (k)) = some (o_ 7 [.ref (x + (k + 1)), .int (nI ml)])) (hcf0 : QbR G x qn qL qd qp Φ) (hq1 : 48 ≤ k) (hq2 : k < 73) (hkq : k = 48 + 2 * qp qn) (hl : ml ≤ 600) (hpn : pn ≤ 12) : Ct G l yX8_endMessage wsX8_endMessage ({ frames := 1, cells := 0, slots := 0, locals := 26 }) 0 0 [.ref (x + 74), .ref (x + (k)), .int (nI r)] Φ sz (fun v Φ1 sz1 => (∃ (n8 : Nat) (L8 : Nat → Nat) (d8 : Int32), v = none ∧ Φ1 (x + 74) = some (o_ 10 [.ref (x + 3), .ref (x + 46), .ref (x + 75), .ref (x + 77), .int (nI pn), .ref (x + 78), .ref (x + 79), .int (ms + 1), .long (rs + (nI r).toInt64), .int (sq + nI r)]) ∧ QbR G x n8 L8 d8 qp Φ1 ∧ (enQ ml (qn, qL, qd) = (n8, L8, d8))) ∧ sz1 = sz ∧ In G x (ca) Φ1 ∧ Fr x (fun j9 => j9 = k + 1 ∨ (j9 = 46 ∨ j9 = 74)) Φ Φ1) := by
  refine Ct.of (cc := cX8_endMessage) (maxL := 3) (ret := none) (by decide) rfl (Nat.le_of_ble_eq_true rfl) ?_
  intro p9 e9 s9 m9 w9 t9 k9 B
  show Z p9 l e9 _ s9 m9 _ w9 t9 k9 _ G 3 0 [(0, .ref (x + 74)), (1, .ref (x + (k))), (2, .int (nI r))] [] Φ sz 0 0
  refine z_aload_n B dX8_endMessage_0 rfl 1 rfl ?_
  refine z_iconst (v := 2) B dX8_endMessage_1 rfl ?_
  refine z_aload_n B dX8_endMessage_2 rfl 1 rfl ?_
  refine z_get (ref := "FlowExporter$Message") (C := RX5) (T := TX5) (N := 2) (ci := 7) (v := .int (nI ml)) B hu_X8_endMessage_X5 rfl 1 (Nat.le_of_ble_eq_true rfl) hv_X8_endMessage_61 rfl hc1 rfl dX8_endMessage_3 ?_
  refine z_i2l (v := (nI ml).toInt64) B dX8_endMessage_6 rfl ?_
  refine z_fl (fun v_1 => ?_)
  refine z_iconst (v := 2) B dX8_endMessage_7 rfl ?_
  refine z_callV (As := [.int 2, .long v_1, .int 2]) (rest := []) B (s_X5_putAt G l Φ sz x (ca) k 2 v_1 2 hx hI hk_k (show 2 ≤ 8 by omega)) (cwV 3 B.1.2.2.2.2 gX8_endMessage_X5_putAt rfl rfl rfl (by decide +kernel) ⟨Nat.le_of_ble_eq_true rfl, Nat.le_of_ble_eq_true rfl⟩) hc1 rfl rfl rfl rfl (Nat.le_of_ble_eq_true rfl) dX8_endMessage_8 ⟨Nat.le_of_ble_eq_true rfl, Nat.le_of_ble_eq_true rfl⟩ (fun r_1 Φ1 sz1 st1 hp1 hs1 => ?_)
  obtain ⟨rfl, hq1, hI1, hF1⟩ := hp1
  subst sz1
  replace hs1 : st1 = [] := hs1
  subst st1
  replace hI1 : In G x (ca) Φ1 := hI1
  refine z_aload_n B dX8_endMessage_11 rfl 1 rfl ?_
  refine z_bipush (v := 12) B dX8_endMessage_12 rfl ?_
  refine z_iload_n B dX8_endMessage_14 rfl 2 rfl ?_
  refine z_i2l (v := (nI r).toInt64) B dX8_endMessage_15 rfl ?_
  refine z_fl (fun v_2 => ?_)
  refine z_iconst (v := 4) B dX8_endMessage_16 rfl ?_
  have h_1 : Φ1 (x + (k)) = some (o_ 7 [.ref (x + (k + 1)), .int (nI ml)]) := ((hF1 (x + (k)) (fun j9 h8 h7 => by have h6 : j9 = k + 1 := h7; omega)).trans hc1)
  refine z_callV (As := [.int 12, .long v_2, .int 4]) (rest := []) B (s_X5_putAt G l Φ1 sz x (ca) k 12 v_2 4 hx hI1 hk_k (show 4 ≤ 8 by omega)) (cwV 3 B.1.2.2.2.2 gX8_endMessage_X5_putAt rfl rfl rfl (by decide +kernel) ⟨Nat.le_of_ble_eq_true rfl, Nat.le_of_ble_eq_true rfl⟩) h_1 rfl rfl rfl rfl (Nat.le_of_ble_eq_true rfl) dX8_endMessage_17 ⟨Nat.le_of_ble_eq_true rfl, Nat.le_of_ble_eq_true rfl⟩ (fun r_2 Φ2 sz2 st2 hp2 hs2 => ?_)
  obtain ⟨rfl, hq2, hI2, hF2⟩ := hp2
  subst sz2
  replace hs2 : st2 = [] := hs2
  subst st2
  replace hI2 : In G x (ca) Φ2 := hI2
  refine z_aload_n B dX8_endMessage_20 rfl 0 rfl ?_
  have h_2 : Φ2 (x + 74) = some (o_ 10 [.ref (x + 3), .ref (x + 46), .ref (x + 75), .ref (x + 77), .int (nI pn), .ref (x + 78), .ref (x + 79), .int ms, .long rs, .int sq]) := ((hF2 (x + 74) (fun j9 h8 h7 => by have h6 : j9 = k + 1 := h7; omega)).trans ((hF1 (x + 74) (fun j9 h8 h7 => by have h6 : j9 = k + 1 := h7; omega)).trans hc0))
  refine z_get (ref := "FlowExporter$Sender") (C := RX8) (T := TX8) (N := 10) (ci := 10) (v := .ref (x + 46)) B hu_X8_endMessage_X8 rfl 1 (Nat.le_of_ble_eq_true rfl) hv_X8_endMessage_48 rfl h_2 rfl dX8_endMessage_21 ?_
  obtain ⟨n_1, v_3, h_3, b_1⟩ := in11 (k := 46) hI2 rfl
  have h_4 : Φ2 (x + 46) = some (o_ 9 [.ref (x + 47), .int (nI n_1), .int v_3]) := h_3
  have hcg1 : QbR G x qn qL qd qp Φ2 := (QbR.frw (QbR.frw hcf0 hF1 (fun j9 h7 => by have h6 : j9 = k + 1 := h7; omega)) hF2 (fun j9 h7 => by have h6 : j9 = k + 1 := h7; omega))
  have h_5 : Φ2 (x + (k)) = some (o_ 7 [.ref (x + (k + 1)), .int (nI ml)]) := ((hF2 (x + (k)) (fun j9 h8 h7 => by have h6 : j9 = k + 1 := h7; omega)).trans h_1)
  refine z_callV (As := []) (rest := []) B (s_X7_addFreeMessageX G l Φ2 sz x (ca) qn qL qd qp ml hx hI2 hcg1 (show ml ≤ 600 by omega) (by rw [← hkq]; exact h_5)) (cwV 0 B.1.2.2.2.2 gX8_endMessage_X7_addFreeMessage rfl rfl rfl (by decide +kernel) ⟨Nat.le_of_ble_eq_true rfl, Nat.le_of_ble_eq_true rfl⟩) h_4 rfl rfl rfl rfl (Nat.le_of_ble_eq_true rfl) dX8_endMessage_24 ⟨Nat.le_of_ble_eq_true rfl, Nat.le_of_ble_eq_true rfl⟩ (fun r_3 Φ3 sz3 st3 hp3 hs3 => ?_)
  obtain ⟨⟨n_2, f_1, v_4, rfl, hcg2, e_1⟩, hq3, hI3, hF3⟩ := hp3
  subst sz3
  replace hs3 : st3 = [] := hs3
  subst st3
  replace hI3 : In G x (ca) Φ3 := hI3
  replace e_1 : enQ ml (qn, qL, qd) = (n_2, f_1, v_4) := e_1
  refine z_aload_n B dX8_endMessage_27 rfl 0 rfl ?_
  refine z_dup B dX8_endMessage_28 rfl ?_
  have h_6 : Φ3 (x + 74) = some (o_ 10 [.ref (x + 3), .ref (x + 46), .ref (x + 75), .ref (x + 77), .int (nI pn), .ref (x + 78), .ref (x + 79), .int ms, .long rs, .int sq]) := ((hF3 (x + 74) fq_168).trans h_2)
  refine z_get (ref := "FlowExporter$Sender") (C := RX8) (T := TX8) (N := 10) (ci := 10) (v := .int ms) B hu_X8_endMessage_X8 rfl 7 (Nat.le_of_ble_eq_true rfl) hv_X8_endMessage_34 rfl h_6 rfl dX8_endMessage_29 ?_
  refine z_iconst (v := 1) B dX8_endMessage_32 rfl ?_
  refine z_iadd B dX8_endMessage_33 ?_
  refine z_put (ref := "FlowExporter$Sender") (C := RX8) (T := TX8) (N := 10) (ci := 10) (v := .int (ms + 1)) B hu_X8_endMessage_X8 tyX8 tyX8_ok nmX8 rfl 7 (Nat.le_of_ble_eq_true rfl) hv_X8_endMessage_34 rfl (Or.inl rfl) h_6 (Nat.le_trans hx (Nat.le_add_right x 74)) rfl rfl (Nat.le_of_ble_eq_true rfl) dX8_endMessage_34 (fun Φ4 hΦ1 => ?_)
  have h_7 : Φ4 (x + 74) = some (o_ 10 [.ref (x + 3), .ref (x + 46), .ref (x + 75), .ref (x + 77), .int (nI pn), .ref (x + 78), .ref (x + 79), .int (ms + 1), .long rs, .int sq]) := fset_at hΦ1
  have hI4 : In G x (ca) Φ4 := In.put (k := 74) hI3 hΦ1 (ok13 (k := 74) rfl ⟨pn, ms + 1, rs, sq, rfl, (show pn ≤ 12 by omega)⟩)
  refine z_aload_n B dX8_endMessage_37 rfl 0 rfl ?_
  refine z_dup B dX8_endMessage_38 rfl ?_
  refine z_get (ref := "FlowExporter$Sender") (C := RX8) (T := TX8) (N := 10) (ci := 10) (v := .long rs) B hu_X8_endMessage_X8 rfl 8 (Nat.le_of_ble_eq_true rfl) hv_X8_endMessage_37 rfl h_7 rfl dX8_endMessage_39 ?_
  refine z_iload_n B dX8_endMessage_42 rfl 2 rfl ?_
  refine z_i2l (v := (nI r).toInt64) B dX8_endMessage_43 rfl ?_
  refine z_ladd B dX8_endMessage_44 ?_
  refine z_put (ref := "FlowExporter$Sender") (C := RX8) (T := TX8) (N := 10) (ci := 10) (v := .long (rs + ((nI r).toInt64))) B hu_X8_endMessage_X8 tyX8 tyX8_ok nmX8 rfl 8 (Nat.le_of_ble_eq_true rfl) hv_X8_endMessage_37 rfl (Or.inl rfl) h_7 (Nat.le_trans hx (Nat.le_add_right x 74)) rfl rfl (Nat.le_of_ble_eq_true rfl) dX8_endMessage_45 (fun Φ5 hΦ2 => ?_)
  have h_8 : Φ5 (x + 74) = some (o_ 10 [.ref (x + 3), .ref (x + 46), .ref (x + 75), .ref (x + 77), .int (nI pn), .ref (x + 78), .ref (x + 79), .int (ms + 1), .long (rs + ((nI r).toInt64)), .int sq]) := fset_at hΦ2
  have hI5 : In G x (ca) Φ5 := In.put (k := 74) hI4 hΦ2 (ok13 (k := 74) rfl ⟨pn, ms + 1, rs + ((nI r).toInt64), sq, rfl, (show pn ≤ 12 by omega)⟩)
  refine z_aload_n B dX8_endMessage_48 rfl 0 rfl ?_
  refine z_dup B dX8_endMessage_49 rfl ?_
  refine z_get (ref := "FlowExporter$Sender") (C := RX8) (T := TX8) (N := 10) (ci := 10) (v := .int sq) B hu_X8_endMessage_X8 rfl 9 (Nat.le_of_ble_eq_true rfl) hv_X8_endMessage_41 rfl h_8 rfl dX8_endMessage_50 ?_
  refine z_iload_n B dX8_endMessage_53 rfl 2 rfl ?_
  refine z_iadd B dX8_endMessage_54 ?_
  refine z_fi (fun v_5 => ?_)
  refine z_put (ref := "FlowExporter$Sender") (C := RX8) (T := TX8) (N := 10) (ci := 10) (v := .int v_5) B hu_X8_endMessage_X8 tyX8 tyX8_ok nmX8 rfl 9 (Nat.le_of_ble_eq_true rfl) hv_X8_endMessage_41 rfl (Or.inl rfl) h_8 (Nat.le_trans hx (Nat.le_add_right x 74)) rfl rfl (Nat.le_of_ble_eq_true rfl) dX8_endMessage_55 (fun Φ6 hΦ3 => ?_)
  have h_9 : Φ6 (x + 74) = some (o_ 10 [.ref (x + 3), .ref (x + 46), .ref (x + 75), .ref (x + 77), .int (nI pn), .ref (x + 78), .ref (x + 79), .int (ms + 1), .long (rs + ((nI r).toInt64)), .int v_5]) := fset_at hΦ3
  have hI6 : In G x (ca) Φ6 := In.put (k := 74) hI5 hΦ3 (ok13 (k := 74) rfl ⟨pn, ms + 1, rs + ((nI r).toInt64), v_5, rfl, (show pn ≤ 12 by omega)⟩)
  have hcg3 : QbR G x n_2 f_1 v_4 qp Φ6 := (QbR.offw (k := 74) (QbR.offw (k := 74) (QbR.offw (k := 74) hcg2 hΦ1 (by omega)) hΦ2 (by omega)) hΦ3 (by omega))
  exact z_ret_v B dX8_endMessage_58 ⟨⟨n_2, f_1, v_4, rfl, h_9, hcg3, e_1⟩, rfl, hI6, (fun b9 h9 => ((fset_fr hΦ3 (fun h8 => h9 (74) h8 (show 74 = k + 1 ∨ (74 = 46 ∨ 74 = 74) by omega))).trans ((fset_fr hΦ2 (fun h8 => h9 (74) h8 (show 74 = k + 1 ∨ (74 = 46 ∨ 74 = 74) by omega))).trans ((fset_fr hΦ1 (fun h8 => h9 (74) h8 (show 74 = k + 1 ∨ (74 = 46 ∨ 74 = 74) by omega))).trans ((hF3 b9 (fun j9 h8 h7 => h9 j9 h8 (show j9 = k + 1 ∨ (j9 = 46 ∨ j9 = 74) by have h6 : j9 = 46 := h7; omega))).trans ((hF2 b9 (fun j9 h8 h7 => h9 j9 h8 (show j9 = k + 1 ∨ (j9 = 46 ∨ j9 = 74) by have h6 : j9 = k + 1 := h7; omega))).trans ((hF1 b9 (fun j9 h8 h7 => h9 j9 h8 (show j9 = k + 1 ∨ (j9 = 46 ∨ j9 = 74) by have h6 : j9 = k + 1 := h7; omega))).trans rfl)))))))⟩

set_option maxHeartbeats 4000000 in
set_option maxRecDepth 100000 in
theorem s_X8_emptyPendingX (G : EnvG) (l : Launch) (Φ : Hm) (sz x ca : Nat) (pn : Nat) (ms : Int32) (rs : Int64) (sq : Int32) (pl : Nat) (hx : G.2.2.2 ≤ x) (hI : In G x ca Φ) (hc0 : Φ (x + 74) = some (o_ 10 [.ref (x + 3), .ref (x + 46), .ref (x + 75), .ref (x + 77), .int (nI pn), .ref (x + 78), .ref (x + 79), .int ms, .long rs, .int sq])) (hc1 : Φ (x + 75) = some (o_ 7 [.ref (x + 76), .int (nI pl)])) : Ct G l yX8_emptyPending wsX8_emptyPending ({ frames := 0, cells := 0, slots := 0, locals := 0 }) 0 0 [.ref (x + 74)] Φ sz (fun v Φ1 sz1 => (v = none ∧ Φ1 (x + 74) = some (o_ 10 [.ref (x + 3), .ref (x + 46), .ref (x + 75), .ref (x + 77), .int (nI 0), .ref (x + 78), .ref (x + 79), .int ms, .long rs, .int sq]) ∧ Φ1 (x + 75) = some (o_ 7 [.ref (x + 76), .int (nI 0)])) ∧ sz1 = sz ∧ In G x (ca) Φ1 ∧ Fr x (fun j9 => j9 = 74 ∨ j9 = 75) Φ Φ1) := by
  refine Ct.of (cc := cX8_emptyPending) (maxL := 1) (ret := none) (by decide) rfl (Nat.le_of_ble_eq_true rfl) ?_
  intro p9 e9 s9 m9 w9 t9 k9 B
  show Z p9 l e9 _ s9 m9 _ w9 t9 k9 _ G 1 0 [(0, .ref (x + 74))] [] Φ sz 0 0
  refine z_aload_n B dX8_emptyPending_0 rfl 0 rfl ?_
  refine z_get (ref := "FlowExporter$Sender") (C := RX8) (T := TX8) (N := 10) (ci := 10) (v := .ref (x + 75)) B hu_X8_emptyPending_X8 rfl 2 (Nat.le_of_ble_eq_true rfl) hv_X8_emptyPending_14 rfl hc0 rfl dX8_emptyPending_1 ?_
  refine z_iconst (v := 0) B dX8_emptyPending_4 rfl ?_
  refine z_put (ref := "FlowExporter$Message") (C := RX5) (T := TX5) (N := 2) (ci := 7) (v := .int 0) B hu_X8_emptyPending_X5 tyX5 tyX5_ok nmX5 rfl 1 (Nat.le_of_ble_eq_true rfl) hv_X8_emptyPending_61 rfl (Or.inl rfl) hc1 (Nat.le_trans hx (Nat.le_add_right x 75)) rfl rfl (Nat.le_of_ble_eq_true rfl) dX8_emptyPending_5 (fun Φ1 hΦ1 => ?_)
  have h_1 : Φ1 (x + 75) = some (o_ 7 [.ref (x + 76), .int 0]) := fset_at hΦ1
  have hI1 : In G x (ca) Φ1 := In.put (k := 75) hI hΦ1 (ok1 (k := 75) rfl ⟨0, rfl, (show 0 ≤ 348 by omega)⟩)
  refine z_aload_n B dX8_emptyPending_8 rfl 0 rfl ?_
  refine z_iconst (v := 0) B dX8_emptyPending_9 rfl ?_
  have h_2 : Φ1 (x + 74) = some (o_ 10 [.ref (x + 3), .ref (x + 46), .ref (x + 75), .ref (x + 77), .int (nI pn), .ref (x + 78), .ref (x + 79), .int ms, .long rs, .int sq]) := ((fset_fr hΦ1 (ne_off (x := x) (i := 74) (j := 75) rfl)).trans hc0)
  refine z_put (ref := "FlowExporter$Sender") (C := RX8) (T := TX8) (N := 10) (ci := 10) (v := .int 0) B hu_X8_emptyPending_X8 tyX8 tyX8_ok nmX8 rfl 4 (Nat.le_of_ble_eq_true rfl) hv_X8_emptyPending_24 rfl (Or.inl rfl) h_2 (Nat.le_trans hx (Nat.le_add_right x 74)) rfl rfl (Nat.le_of_ble_eq_true rfl) dX8_emptyPending_10 (fun Φ2 hΦ2 => ?_)
  have h_3 : Φ2 (x + 74) = some (o_ 10 [.ref (x + 3), .ref (x + 46), .ref (x + 75), .ref (x + 77), .int 0, .ref (x + 78), .ref (x + 79), .int ms, .long rs, .int sq]) := fset_at hΦ2
  have hI2 : In G x (ca) Φ2 := In.put (k := 74) hI1 hΦ2 (ok13 (k := 74) rfl ⟨0, ms, rs, sq, rfl, (show 0 ≤ 12 by omega)⟩)
  have h_4 : Φ2 (x + 75) = some (o_ 7 [.ref (x + 76), .int 0]) := ((fset_fr hΦ2 (ne_off (x := x) (i := 75) (j := 74) rfl)).trans h_1)
  exact z_ret_v B dX8_emptyPending_13 ⟨⟨rfl, (h_3.trans (congrArg (fun w9 : Nat => some (o_ 10 [.ref (x + 3), .ref (x + 46), .ref (x + 75), .ref (x + 77), .int (nI w9), .ref (x + 78), .ref (x + 79), .int ms, .long rs, .int sq])) (show 0 = 0 by omega))), (h_4.trans (congrArg (fun w9 : Nat => some (o_ 7 [.ref (x + 76), .int (nI w9)])) (show 0 = 0 by omega)))⟩, rfl, hI2, (fun b9 h9 => ((fset_fr hΦ2 (fun h8 => h9 (74) h8 (show 74 = 74 ∨ 74 = 75 by decide))).trans ((fset_fr hΦ1 (fun h8 => h9 (75) h8 (show 75 = 74 ∨ 75 = 75 by decide))).trans rfl)))⟩

set_option maxHeartbeats 4000000 in
set_option maxRecDepth 100000 in
theorem s_X8_forgetTemplatesX (G : EnvG) (l : Launch) (Φ : Hm) (sz x ca : Nat) (fa : Nat → Int32) (hx : G.2.2.2 ≤ x) (hI : In G x ca Φ) (hc0 : Φ (x + 78) = some (ai_ G 4 fa)) : Ct G l yX8_forgetTemplates wsX8_forgetTemplates ({ frames := 1, cells := 0, slots := 0, locals := 23 }) 0 0 [.ref (x + 74)] Φ sz (fun v Φ1 sz1 => (v = none ∧ Φ1 (x + 78) = some (ai_ G 4 (fun _ => 0))) ∧ sz1 = sz ∧ In G x (ca) Φ1 ∧ Fr x (fun j9 => j9 = 78) Φ Φ1) := by
  refine Ct.of (cc := cX8_forgetTemplates) (maxL := 1) (ret := none) (by decide) rfl (Nat.le_of_ble_eq_true rfl) ?_
  intro p9 e9 s9 m9 w9 t9 k9 B
  show Z p9 l e9 _ s9 m9 _ w9 t9 k9 _ G 1 0 [(0, .ref (x + 74))] [] Φ sz 0 0
  refine z_aload_n B dX8_forgetTemplates_0 rfl 0 rfl ?_
  obtain ⟨n_1, v_1, v_2, v_3, h_1, b_1⟩ := in13 (k := 74) hI rfl
  have h_2 : Φ (x + 74) = some (o_ 10 [.ref (x + 3), .ref (x + 46), .ref (x + 75), .ref (x + 77), .int (nI n_1), .ref (x + 78), .ref (x + 79), .int v_1, .long v_2, .int v_3]) := h_1
  refine z_get (ref := "FlowExporter$Sender") (C := RX8) (T := TX8) (N := 10) (ci := 10) (v := .ref (x + 78)) B hu_X8_forgetTemplates_X8 rfl 5 (Nat.le_of_ble_eq_true rfl) hv_X8_forgetTemplates_28 rfl h_2 rfl dX8_forgetTemplates_1 ?_
  refine z_iconst (v := 0) B dX8_forgetTemplates_4 rfl ?_
  refine z_callS (As := [.ref (x + 78), .int 0]) (rest := []) B (c_J7_fill_53178 G l Φ sz (x + 78) 4 fa 0 hc0 (Nat.le_trans hx (Nat.le_add_right x 78)) (by decide)) (va_cwS 2 B.1.2.2.2.2 gX8_forgetTemplates_J7_fill_53178 rfl rfl rfl (by decide +kernel) ⟨Nat.le_of_ble_eq_true rfl, Nat.le_of_ble_eq_true rfl⟩) rfl rfl (Nat.le_of_ble_eq_true rfl) dX8_forgetTemplates_5 ⟨Nat.le_of_ble_eq_true rfl, Nat.le_of_ble_eq_true rfl⟩ (fun r_1 Φ1 sz1 st1 hp1 hs1 => ?_)
  obtain ⟨rfl, hq1, fr1, h_3⟩ := hp1
  subst sz1
  replace hs1 : st1 = [] := hs1
  subst st1
  have hΦ1 : Φ1 = fset Φ (x + 78) (ai_ G 4 (fun _ => 0)) := fset_of fr1 h_3
  have h_4 : Φ1 (x + 78) = some (ai_ G 4 (fun _ => 0)) := fset_at hΦ1
  have hI1 : In G x (ca) Φ1 := In.put (k := 78) hI hΦ1 (ok15 (k := 78) rfl ⟨_, rfl⟩)
  have h_5 : Φ1 (x + 78) = some (ai_ G 4 (fun _ => 0)) := fset_at hΦ1
  have h_6 : Φ1 (x + 78) = some (ai_ G 4 (fun _ => 0)) := fset_at hΦ1
  exact z_ret_v B dX8_forgetTemplates_8 ⟨⟨rfl, h_6⟩, rfl, hI1, (fun b9 h9 => ((fset_fr hΦ1 (fun h8 => h9 (78) h8 (show 78 = 78 by decide))).trans rfl))⟩

theorem fq_723 {x : Nat} : ∀ j9 : Nat, x + 78 = x + j9 → (j9 = 74 ∨ j9 = 75) → False := by
  intro j9 h1 h2
  omega

theorem fq_724 {x : Nat} : ∀ j9 : Nat, x + 74 = x + j9 → (j9 = 78) → False := by
  intro j9 h1 h2
  omega

theorem fq_725 {x : Nat} : ∀ j9 : Nat, x + 75 = x + j9 → (j9 = 78) → False := by
  intro j9 h1 h2
  omega

theorem fq_726 : ∀ j9 : Nat, (j9 = 74 ∨ j9 = 75) → (j9 = 74 ∨ (j9 = 75 ∨ j9 = 78)) := by
  intro j9 h
  omega

theorem fq_727 : ∀ j9 : Nat, (j9 = 78) → (j9 = 74 ∨ (j9 = 75 ∨ j9 = 78)) := by
  intro j9 h
  omega

set_option maxHeartbeats 4000000 in
set_option maxRecDepth 100000 in
theorem s_X8_restartX (G : EnvG) (l : Launch) (Φ : Hm) (sz x ca : Nat) (pn : Nat) (ms : Int32) (rs : Int64) (sq : Int32) (pl : Nat) (fa : Nat → Int32) (hx : G.2.2.2 ≤ x) (hI : In G x ca Φ) (hc0 : Φ (x + 74) = some (o_ 10 [.ref (x + 3), .ref (x + 46), .ref (x + 75), .ref (x + 77), .int (nI pn), .ref (x + 78), .ref (x + 79), .int ms, .long rs, .int sq])) (hc1 : Φ (x + 75) = some (o_ 7 [.ref (x + 76), .int (nI pl)])) (hc2 : Φ (x + 78) = some (ai_ G 4 fa)) : Ct G l yX8_restart wsX8_restart ({ frames := 2, cells := 0, slots := 0, locals := 43 }) 0 0 [.ref (x + 74)] Φ sz (fun v Φ1 sz1 => (v = none ∧ Φ1 (x + 74) = some (o_ 10 [.ref (x + 3), .ref (x + 46), .ref (x + 75), .ref (x + 77), .int (nI 0), .ref (x + 78), .ref (x + 79), .int ms, .long rs, .int 0]) ∧ Φ1 (x + 75) = some (o_ 7 [.ref (x + 76), .int (nI 0)]) ∧ Φ1 (x + 78) = some (ai_ G 4 (fun _ => 0))) ∧ sz1 = sz ∧ In G x (ca) Φ1 ∧ Fr x (fun j9 => j9 = 74 ∨ (j9 = 75 ∨ j9 = 78)) Φ Φ1) := by
  refine Ct.of (cc := cX8_restart) (maxL := 1) (ret := none) (by decide) rfl (Nat.le_of_ble_eq_true rfl) ?_
  intro p9 e9 s9 m9 w9 t9 k9 B
  show Z p9 l e9 _ s9 m9 _ w9 t9 k9 _ G 1 0 [(0, .ref (x + 74))] [] Φ sz 0 0
  refine z_aload_n B dX8_restart_0 rfl 0 rfl ?_
  refine z_callV (As := []) (rest := []) B (s_X8_emptyPendingX G l Φ sz x (ca) pn ms rs sq pl hx hI hc0 hc1) (cwV 0 B.1.2.2.2.2 gX8_restart_X8_emptyPending rfl rfl rfl (by decide +kernel) ⟨Nat.le_of_ble_eq_true rfl, Nat.le_of_ble_eq_true rfl⟩) hc0 rfl rfl rfl rfl (Nat.le_of_ble_eq_true rfl) dX8_restart_1 ⟨Nat.le_of_ble_eq_true rfl, Nat.le_of_ble_eq_true rfl⟩ (fun r_1 Φ1 sz1 st1 hp1 hs1 => ?_)
  obtain ⟨⟨rfl, h_1, h_2⟩, hq1, hI1, hF1⟩ := hp1
  subst sz1
  replace hs1 : st1 = [] := hs1
  subst st1
  replace hI1 : In G x (ca) Φ1 := hI1
  refine z_aload_n B dX8_restart_4 rfl 0 rfl ?_
  refine z_iconst (v := 0) B dX8_restart_5 rfl ?_
  refine z_put (ref := "FlowExporter$Sender") (C := RX8) (T := TX8) (N := 10) (ci := 10) (v := .int 0) B hu_X8_restart_X8 tyX8 tyX8_ok nmX8 rfl 9 (Nat.le_of_ble_eq_true rfl) hv_X8_restart_41 rfl (Or.inl rfl) h_1 (Nat.le_trans hx (Nat.le_add_right x 74)) rfl rfl (Nat.le_of_ble_eq_true rfl) dX8_restart_6 (fun Φ2 hΦ1 => ?_)
  have h_3 : Φ2 (x + 74) = some (o_ 10 [.ref (x + 3), .ref (x + 46), .ref (x + 75), .ref (x + 77), .int (nI 0), .ref (x + 78), .ref (x + 79), .int ms, .long rs, .int 0]) := fset_at hΦ1
  have hI2 : In G x (ca) Φ2 := In.put (k := 74) hI1 hΦ1 (ok13 (k := 74) rfl ⟨0, ms, rs, 0, rfl, (show 0 ≤ 12 by omega)⟩)
  refine z_aload_n B dX8_restart_9 rfl 0 rfl ?_
  have h_4 : Φ2 (x + 78) = some (ai_ G 4 fa) := ((fset_fr hΦ1 (ne_off (x := x) (i := 78) (j := 74) rfl)).trans ((hF1 (x + 78) fq_723).trans hc2))
  refine z_callV (As := []) (rest := []) B (s_X8_forgetTemplatesX G l Φ2 sz x (ca) fa hx hI2 h_4) (cwV 0 B.1.2.2.2.2 gX8_restart_X8_forgetTemplates rfl rfl rfl (by decide +kernel) ⟨Nat.le_of_ble_eq_true rfl, Nat.le_of_ble_eq_true rfl⟩) h_3 rfl rfl rfl rfl (Nat.le_of_ble_eq_true rfl) dX8_restart_10 ⟨Nat.le_of_ble_eq_true rfl, Nat.le_of_ble_eq_true rfl⟩ (fun r_2 Φ3 sz2 st2 hp2 hs2 => ?_)
  obtain ⟨⟨rfl, h_5⟩, hq2, hI3, hF2⟩ := hp2
  subst sz2
  replace hs2 : st2 = [] := hs2
  subst st2
  replace hI3 : In G x (ca) Φ3 := hI3
  have h_6 : Φ3 (x + 74) = some (o_ 10 [.ref (x + 3), .ref (x + 46), .ref (x + 75), .ref (x + 77), .int (nI 0), .ref (x + 78), .ref (x + 79), .int ms, .long rs, .int 0]) := ((hF2 (x + 74) fq_724).trans h_3)
  have h_7 : Φ3 (x + 75) = some (o_ 7 [.ref (x + 76), .int (nI 0)]) := ((hF2 (x + 75) fq_725).trans ((fset_fr hΦ1 (ne_off (x := x) (i := 75) (j := 74) rfl)).trans h_2))
  exact z_ret_v B dX8_restart_13 ⟨⟨rfl, h_6, h_7, h_5⟩, rfl, hI3, (fun b9 h9 => ((hF2 b9 (fun j9 h8 h7 => h9 j9 h8 (fq_727 j9 h7))).trans ((fset_fr hΦ1 (fun h8 => h9 (74) h8 (show 74 = 74 ∨ (74 = 75 ∨ 74 = 78) by decide))).trans ((hF1 b9 (fun j9 h8 h7 => h9 j9 h8 (fq_726 j9 h7))).trans rfl))))⟩

set_option maxHeartbeats 4000000 in
set_option maxRecDepth 100000 in
theorem s_X8_clearX (G : EnvG) (l : Launch) (Φ : Hm) (sz x ca : Nat) (pn : Nat) (ms : Int32) (rs : Int64) (sq : Int32) (pl : Nat) (fa : Nat → Int32) (hx : G.2.2.2 ≤ x) (hI : In G x ca Φ) (hc0 : Φ (x + 74) = some (o_ 10 [.ref (x + 3), .ref (x + 46), .ref (x + 75), .ref (x + 77), .int (nI pn), .ref (x + 78), .ref (x + 79), .int ms, .long rs, .int sq])) (hc1 : Φ (x + 75) = some (o_ 7 [.ref (x + 76), .int (nI pl)])) (hc2 : Φ (x + 78) = some (ai_ G 4 fa)) (hpn : pn ≤ 12) : Ct G l yX8_clear wsX8_clear ({ frames := 3, cells := 0, slots := 0, locals := 63 }) 0 0 [.ref (x + 74)] Φ sz (fun v Φ1 sz1 => (v = none ∧ Φ1 (x + 74) = some (o_ 10 [.ref (x + 3), .ref (x + 46), .ref (x + 75), .ref (x + 77), .int (nI 0), .ref (x + 78), .ref (x + 79), .int 0, .long 0, .int 0]) ∧ Φ1 (x + 75) = some (o_ 7 [.ref (x + 76), .int (nI 0)]) ∧ Φ1 (x + 78) = some (ai_ G 4 (fun _ => 0))) ∧ sz1 = sz ∧ In G x (ca) Φ1 ∧ Fr x (fun j9 => j9 = 74 ∨ (j9 = 75 ∨ j9 = 78)) Φ Φ1) := by
  refine Ct.of (cc := cX8_clear) (maxL := 1) (ret := none) (by decide) rfl (Nat.le_of_ble_eq_true rfl) ?_
  intro p9 e9 s9 m9 w9 t9 k9 B
  show Z p9 l e9 _ s9 m9 _ w9 t9 k9 _ G 1 0 [(0, .ref (x + 74))] [] Φ sz 0 0
  refine z_aload_n B dX8_clear_0 rfl 0 rfl ?_
  refine z_lconst (v := 0) B dX8_clear_1 rfl ?_
  refine z_put (ref := "FlowExporter$Sender") (C := RX8) (T := TX8) (N := 10) (ci := 10) (v := .long 0) B hu_X8_clear_X8 tyX8 tyX8_ok nmX8 rfl 8 (Nat.le_of_ble_eq_true rfl) hv_X8_clear_37 rfl (Or.inl rfl) hc0 (Nat.le_trans hx (Nat.le_add_right x 74)) rfl rfl (Nat.le_of_ble_eq_true rfl) dX8_clear_2 (fun Φ1 hΦ1 => ?_)
  have h_1 : Φ1 (x + 74) = some (o_ 10 [.ref (x + 3), .ref (x + 46), .ref (x + 75), .ref (x + 77), .int (nI pn), .ref (x + 78), .ref (x + 79), .int ms, .long 0, .int sq]) := fset_at hΦ1
  have hI1 : In G x (ca) Φ1 := In.put (k := 74) hI hΦ1 (ok13 (k := 74) rfl ⟨pn, ms, 0, sq, rfl, (show pn ≤ 12 by omega)⟩)
  refine z_aload_n B dX8_clear_5 rfl 0 rfl ?_
  refine z_iconst (v := 0) B dX8_clear_6 rfl ?_
  refine z_put (ref := "FlowExporter$Sender") (C := RX8) (T := TX8) (N := 10) (ci := 10) (v := .int 0) B hu_X8_clear_X8 tyX8 tyX8_ok nmX8 rfl 7 (Nat.le_of_ble_eq_true rfl) hv_X8_clear_34 rfl (Or.inl rfl) h_1 (Nat.le_trans hx (Nat.le_add_right x 74)) rfl rfl (Nat.le_of_ble_eq_true rfl) dX8_clear_7 (fun Φ2 hΦ2 => ?_)
  have h_2 : Φ2 (x + 74) = some (o_ 10 [.ref (x + 3), .ref (x + 46), .ref (x + 75), .ref (x + 77), .int (nI pn), .ref (x + 78), .ref (x + 79), .int 0, .long 0, .int sq]) := fset_at hΦ2
  have hI2 : In G x (ca) Φ2 := In.put (k := 74) hI1 hΦ2 (ok13 (k := 74) rfl ⟨pn, 0, 0, sq, rfl, (show pn ≤ 12 by omega)⟩)
  refine z_aload_n B dX8_clear_10 rfl 0 rfl ?_
  have h_3 : Φ2 (x + 75) = some (o_ 7 [.ref (x + 76), .int (nI pl)]) := ((fset_fr hΦ2 (ne_off (x := x) (i := 75) (j := 74) rfl)).trans ((fset_fr hΦ1 (ne_off (x := x) (i := 75) (j := 74) rfl)).trans hc1))
  have h_4 : Φ2 (x + 78) = some (ai_ G 4 fa) := ((fset_fr hΦ2 (ne_off (x := x) (i := 78) (j := 74) rfl)).trans ((fset_fr hΦ1 (ne_off (x := x) (i := 78) (j := 74) rfl)).trans hc2))
  refine z_callV (As := []) (rest := []) B (s_X8_restartX G l Φ2 sz x (ca) pn 0 0 sq pl fa hx hI2 h_2 h_3 h_4) (cwV 0 B.1.2.2.2.2 gX8_clear_X8_restart rfl rfl rfl (by decide +kernel) ⟨Nat.le_of_ble_eq_true rfl, Nat.le_of_ble_eq_true rfl⟩) h_2 rfl rfl rfl rfl (Nat.le_of_ble_eq_true rfl) dX8_clear_11 ⟨Nat.le_of_ble_eq_true rfl, Nat.le_of_ble_eq_true rfl⟩ (fun r_1 Φ3 sz1 st1 hp1 hs1 => ?_)
  obtain ⟨⟨rfl, h_5, h_6, h_7⟩, hq1, hI3, hF1⟩ := hp1
  subst sz1
  replace hs1 : st1 = [] := hs1
  subst st1
  replace hI3 : In G x (ca) Φ3 := hI3
  exact z_ret_v B dX8_clear_14 ⟨⟨rfl, h_5, h_6, h_7⟩, rfl, hI3, (fun b9 h9 => ((hF1 b9 h9).trans ((fset_fr hΦ2 (fun h8 => h9 (74) h8 (show 74 = 74 ∨ (74 = 75 ∨ 74 = 78) by decide))).trans ((fset_fr hΦ1 (fun h8 => h9 (74) h8 (show 74 = 74 ∨ (74 = 75 ∨ 74 = 78) by decide))).trans rfl))))⟩

theorem fgs_y {c : Cf} {a : Int32} {f g : Nat → Int32} {u k : Nat} (h : (∀ j, j < u → g j = fgW c a f j) ∧ ∀ j, u ≤ j → g j = f j) (hb : bitI a (tfF c u)) (hk : k = u) : (∀ j, j < u + 1 → upd g k 0 j = fgW c a f j) ∧ ∀ j, u + 1 ≤ j → upd g k 0 j = f j := by
  subst hk
  refine ⟨fun j hj => ?_, fun j hj => (upd_ne (by omega)).trans (h.2 j (by omega))⟩
  by_cases e : j = k
  · subst e
    rw [upd_at]
    exact (if_pos hb).symm
  · exact (upd_ne e).trans (h.1 j (by omega))
theorem fgs_n {c : Cf} {a : Int32} {f g : Nat → Int32} {u : Nat} (h : (∀ j, j < u → g j = fgW c a f j) ∧ ∀ j, u ≤ j → g j = f j) (hb : ¬ bitI a (tfF c u)) : (∀ j, j < u + 1 → g j = fgW c a f j) ∧ ∀ j, u + 1 ≤ j → g j = f j := by
  refine ⟨fun j hj => ?_, fun j hj => h.2 j (by omega)⟩
  by_cases e : j = u
  · subst e
    rw [h.2 j (Nat.le_refl j)]
    exact (if_neg hb).symm
  · exact h.1 j (by omega)

set_option maxHeartbeats 4000000 in
set_option maxRecDepth 100000 in
theorem s_X8_forgetTemplatesWithX (G : EnvG) (l : Launch) (Φ : Hm) (sz x ca : Nat) (fa : Nat → Int32) (t : Nat) (s : Nat) (c : Cf) (a : Nat) (hx : G.2.2.2 ≤ x) (hI : In G x ca Φ) (hc0 : Φ (x + 78) = some (ai_ G 4 fa)) (hcf0 : CfA G x t s c Φ) (ha : a < 9) (hg : CfG c) : Ct G l yX8_forgetTemplatesWith wsX8_forgetTemplatesWith ({ frames := 1, cells := 0, slots := 0, locals := 21 }) 0 0 [.ref (x + 74), .int (nI a)] Φ sz (fun v Φ1 sz1 => (∃ (a8 : Nat → Int32), v = none ∧ Φ1 (x + 78) = some (ai_ G 4 a8) ∧ (∀ j9, j9 < 4 → a8 j9 = fgW c (nI a) fa j9)) ∧ sz1 = sz ∧ In G x (ca) Φ1 ∧ Fr x (fun j9 => j9 = 78) Φ Φ1) := by
  refine Ct.of (cc := cX8_forgetTemplatesWith) (maxL := 3) (ret := none) (by decide) rfl (Nat.le_of_ble_eq_true rfl) ?_
  intro p9 e9 s9 m9 w9 t9 k9 B
  show Z p9 l e9 _ s9 m9 _ w9 t9 k9 _ G 3 0 [(0, .ref (x + 74)), (1, .int (nI a))] [] Φ sz 0 0
  refine z_iconst (v := 0) B dX8_forgetTemplatesWith_0 rfl ?_
  refine z_istore_n (lv' := [(2, .int 0), (0, .ref (x + 74)), (1, .int (nI a))]) B dX8_forgetTemplatesWith_1 rfl (Nat.le_of_ble_eq_true rfl) rfl ?_
  refine z_lv [0, 1, 2] rfl ?_
  refine z_loop (α := Nat × (Nat → Int32)) (fun (a9 : Nat × (Nat → Int32)) Φi => In G x (ca) Φi ∧ Fr x (fun j9 => j9 = 78) Φ Φi ∧ (a9.1 ≤ 4) ∧ ((∀ j9, j9 < a9.1 → a9.2 j9 = fgW c (nI a) fa j9) ∧ ∀ j9, a9.1 ≤ j9 → a9.2 j9 = fa j9) ∧ (CfA G x t s c Φi) ∧ (Φi (x + 78) = some (ai_ G 4 a9.2)) ∧ True) (fun a9 => [(2, .int (nI (a9.1))), (0, .ref (x + 74)), (1, .int (nI a))]) (fun a9 => 4 - a9.1) ?_ (0, fa) ⟨hI, fun _ _ => rfl, (show 0 ≤ 4 by omega), ⟨fun j9 h9 => absurd h9 (Nat.not_lt_zero j9), fun _ _ => rfl⟩, hcf0, hc0, trivial⟩
  rintro ⟨i_1, i_2⟩ Φl1 ⟨hI1, hF1, b_1, b_2, b_3, b_4, -⟩ ih1
  replace hI1 : In G x (ca) Φl1 := hI1
  replace b_1 : i_1 ≤ 4 := b_1
  replace b_2 : (∀ j9, j9 < i_1 → i_2 j9 = fgW c (nI a) fa j9) ∧ ∀ j9, i_1 ≤ j9 → i_2 j9 = fa j9 := b_2
  replace b_3 : CfA G x t s c Φl1 := b_3
  replace b_4 : Φl1 (x + 78) = some (ai_ G 4 i_2) := b_4
  show Z p9 l e9 _ s9 m9 _ w9 t9 k9 _ G 3 2 [(2, .int (nI i_1)), (0, .ref (x + 74)), (1, .int (nI a))] [] Φl1 _ _ _
  refine z_iload_n B dX8_forgetTemplatesWith_2 rfl 0 rfl ?_
  refine z_iconst (v := 4) B dX8_forgetTemplatesWith_3 rfl ?_
  refine z_icmp_ge (tgt := 35) B dX8_forgetTemplatesWith_4 rfl (fun c_1 => ?_) (fun c_1 => ?_)
  · have e_1 : 4 ≤ i_1 := (nI_leI (a := 4) (b := i_1) (by omega) (by omega)).mp c_1
    exact z_ret_v B dX8_forgetTemplatesWith_35 ⟨⟨i_2, rfl, b_4, fun j9 h9 => b_2.1 j9 (by omega)⟩, rfl, hI1, (fun b9 h9 => ((hF1 b9 h9).trans rfl))⟩
  · have e_2 : ¬ (4 ≤ i_1) := fun h9 => c_1 ((nI_leI (a := 4) (b := i_1) (by omega) (by omega)).mpr h9)
    refine z_aload_n B dX8_forgetTemplatesWith_7 rfl 1 rfl ?_
    obtain ⟨n_1, v_1, v_2, v_3, h_1, b_5⟩ := in13 (k := 74) hI1 rfl
    have h_2 : Φl1 (x + 74) = some (o_ 10 [.ref (x + 3), .ref (x + 46), .ref (x + 75), .ref (x + 77), .int (nI n_1), .ref (x + 78), .ref (x + 79), .int v_1, .long v_2, .int v_3]) := h_1
    refine z_get (ref := "FlowExporter$Sender") (C := RX8) (T := TX8) (N := 10) (ci := 10) (v := .ref (x + 3)) B hu_X8_forgetTemplatesWith_X8 rfl 0 (Nat.le_of_ble_eq_true rfl) hv_X8_forgetTemplatesWith_44 rfl h_2 rfl dX8_forgetTemplatesWith_8 ?_
    refine z_iload_n B dX8_forgetTemplatesWith_11 rfl 0 rfl ?_
    obtain ⟨v_4, v_5, h_3⟩ := in3 (k := 3) hI1 rfl
    have h_4 : Φl1 (x + 3) = some (o_ 3 [.ref (x + 4), .ref (x + 5), .ref (x + 6), .ref (x + 7), .int v_4, .int v_5]) := h_3
    refine z_callV (As := [.int (nI i_1)]) (rest := []) B (s_X1_template3 G l Φl1 sz x (ca) i_1 hx hI1 (show i_1 < 4 by omega)) (cwV 1 B.1.2.2.2.2 gX8_forgetTemplatesWith_X1_template rfl rfl rfl (by decide +kernel) ⟨Nat.le_of_ble_eq_true rfl, Nat.le_of_ble_eq_true rfl⟩) h_4 rfl rfl rfl rfl (Nat.le_of_ble_eq_true rfl) dX8_forgetTemplatesWith_12 ⟨Nat.le_of_ble_eq_true rfl, Nat.le_of_ble_eq_true rfl⟩ (fun r_1 Φ1 sz1 st1 hp1 hs1 => ?_)
    obtain ⟨rfl, hq1, hI2, hF2⟩ := hp1
    subst sz1
    replace hs1 : st1 = [.ref (x + (8 + 4 * i_1))] := hs1
    subst st1
    replace hI2 : In G x (ca) Φ1 := hI2
    refine z_iload_n B dX8_forgetTemplatesWith_15 rfl 2 rfl ?_
    have hcg1 : CfA G x t s c Φ1 := (CfA.fr b_3 hF2 (fun j9 h7 => (show False from h7).elim))
    obtain ⟨m_1, v_6, b_6, h_5⟩ := CfA.wm (u := i_1) hcg1 hg (show i_1 < 4 by omega)
    refine z_callV (As := [.int (nI a)]) (rest := []) B (s_X10_hasE G l Φ1 sz x (ca) m_1 (tfF c i_1) v_6 (8 + 4 * i_1) a hx hI2 (kd_w (k := 6) rfl (show i_1 < 4 by omega)) h_5 (show a < 9 by omega)) (cwV 1 B.1.2.2.2.2 gX8_forgetTemplatesWith_X10_has rfl rfl rfl (by decide +kernel) ⟨Nat.le_of_ble_eq_true rfl, Nat.le_of_ble_eq_true rfl⟩) h_5 rfl rfl rfl rfl (Nat.le_of_ble_eq_true rfl) dX8_forgetTemplatesWith_16 ⟨Nat.le_of_ble_eq_true rfl, Nat.le_of_ble_eq_true rfl⟩ (fun r_2 Φ2 sz2 st2 hp2 hs2 => ?_)
    obtain ⟨ha1, hq2, hI3, hF3⟩ := hp2
    subst sz2
    replace hI3 : In G x (ca) Φ2 := hI3
    rcases ha1 with ⟨rfl, e_3⟩ | ⟨rfl, e_4⟩
    · replace e_3 : bitI (nI a) (tfF c i_1) := e_3
      replace hs2 : st2 = [.int 1] := hs2
      subst st2
      refine z_if_eq (tgt := 29) B dX8_forgetTemplatesWith_19 rfl (fun h9 => absurd h9 (by decide)) (fun c_2 => ?_)
      refine z_aload_n B dX8_forgetTemplatesWith_22 rfl 1 rfl ?_
      have h_6 : Φ2 (x + 74) = some (o_ 10 [.ref (x + 3), .ref (x + 46), .ref (x + 75), .ref (x + 77), .int (nI n_1), .ref (x + 78), .ref (x + 79), .int v_1, .long v_2, .int v_3]) := ((hF3 (x + 74) (fun j9 h8 h7 => (show False from h7).elim)).trans ((hF2 (x + 74) (fun j9 h8 h7 => (show False from h7).elim)).trans h_2))
      refine z_get (ref := "FlowExporter$Sender") (C := RX8) (T := TX8) (N := 10) (ci := 10) (v := .ref (x + 78)) B hu_X8_forgetTemplatesWith_X8 rfl 5 (Nat.le_of_ble_eq_true rfl) hv_X8_forgetTemplatesWith_28 rfl h_6 rfl dX8_forgetTemplatesWith_23 ?_
      refine z_iload_n B dX8_forgetTemplatesWith_26 rfl 0 rfl ?_
      refine z_iconst (v := 0) B dX8_forgetTemplatesWith_27 rfl ?_
      have h_7 : Φ2 (x + 78) = some (ai_ G 4 i_2) := ((hF3 (x + 78) (fun j9 h8 h7 => (show False from h7).elim)).trans ((hF2 (x + 78) (fun j9 h8 h7 => (show False from h7).elim)).trans b_4))
      refine z_iast B h_7 (Nat.le_trans hx (Nat.le_add_right x 78)) (vp_in_nI (by omega) (by omega)) dX8_forgetTemplatesWith_28 (fun Φ3 hΦ1 => ?_)
      have h_8 : Φ3 (x + 78) = some (ai_ G 4 (upd i_2 (nI i_1).toNatClampNeg 0)) := fset_at hΦ1
      have hI4 : In G x (ca) Φ3 := In.put (k := 78) hI3 hΦ1 (ok15 (k := 78) rfl ⟨_, rfl⟩)
      have h_9 : Φ3 (x + 78) = some (ai_ G 4 (upd i_2 (nI i_1).toNatClampNeg 0)) := fset_at hΦ1
      have h_10 : Φ3 (x + 78) = some (ai_ G 4 (upd i_2 (nI i_1).toNatClampNeg 0)) := fset_at hΦ1
      refine z_iinc (k := 0) (v := nI (i_1 + 1)) (lv' := [(2, .int (nI (i_1 + 1))), (0, .ref (x + 74)), (1, .int (nI a))]) B dX8_forgetTemplatesWith_29 rfl (nI_add i_1 1) (Nat.le_of_ble_eq_true rfl) rfl ?_
      refine z_goto (tgt := 2) B dX8_forgetTemplatesWith_32 rfl ?_
      refine z_lv [0, 1, 2] rfl ?_
      have hcg2 : CfA G x t s c Φ3 := (CfA.off (k := 78) (CfA.fr hcg1 hF3 (fun j9 h7 => (show False from h7).elim)) hΦ1 (by intros; omega))
      exact ih1 (i_1 + 1, (upd i_2 (nI i_1).toNatClampNeg 0)) Φ3 (show 4 - (i_1 + 1) < 4 - i_1 by omega) ⟨hI4, (fun b9 h9 => ((fset_fr hΦ1 (fun h8 => h9 (78) h8 (show 78 = 78 by decide))).trans ((hF3 b9 (fun j9 h8 h7 => (show False from h7).elim)).trans ((hF2 b9 (fun j9 h8 h7 => (show False from h7).elim)).trans ((hF1 b9 h9).trans rfl))))), (show (i_1 + 1) ≤ 4 by omega), (fgs_y b_2 e_3 (nI_clamp (by omega))), hcg2, h_10, trivial⟩
    · replace e_4 : ¬ bitI (nI a) (tfF c i_1) := e_4
      replace hs2 : st2 = [.int 0] := hs2
      subst st2
      refine z_if_eq (tgt := 29) B dX8_forgetTemplatesWith_19 rfl (fun c_3 => ?_) (fun h9 => absurd (by decide) h9)
      refine z_iinc (k := 0) (v := nI (i_1 + 1)) (lv' := [(2, .int (nI (i_1 + 1))), (0, .ref (x + 74)), (1, .int (nI a))]) B dX8_forgetTemplatesWith_29 rfl (nI_add i_1 1) (Nat.le_of_ble_eq_true rfl) rfl ?_
      refine z_goto (tgt := 2) B dX8_forgetTemplatesWith_32 rfl ?_
      refine z_lv [0, 1, 2] rfl ?_
      have hcg3 : CfA G x t s c Φ2 := (CfA.fr hcg1 hF3 (fun j9 h7 => (show False from h7).elim))
      have h_11 : Φ2 (x + 78) = some (ai_ G 4 i_2) := ((hF3 (x + 78) (fun j9 h8 h7 => (show False from h7).elim)).trans ((hF2 (x + 78) (fun j9 h8 h7 => (show False from h7).elim)).trans b_4))
      exact ih1 (i_1 + 1, i_2) Φ2 (show 4 - (i_1 + 1) < 4 - i_1 by omega) ⟨hI3, (fun b9 h9 => ((hF3 b9 (fun j9 h8 h7 => (show False from h7).elim)).trans ((hF2 b9 (fun j9 h8 h7 => (show False from h7).elim)).trans ((hF1 b9 h9).trans rfl)))), (show (i_1 + 1) ≤ 4 by omega), (fgs_n b_2 e_4), hcg3, h_11, trivial⟩

set_option maxHeartbeats 4000000 in
set_option maxRecDepth 100000 in
theorem s_X11_lengthOfX (G : EnvG) (l : Launch) (Φ : Hm) (sz x ca : Nat) (q : Nat) (hx : G.2.2.2 ≤ x) (hI : In G x ca Φ) (hq : q < 9) : Ct G l yX11_lengthOf wsX11_lengthOf ({ frames := 0, cells := 0, slots := 0, locals := 0 }) 0 0 [.int (nI q)] Φ sz (fun v Φ1 sz1 => (v = some (.int (nI (fnT q)))) ∧ sz1 = sz ∧ In G x (ca) Φ1 ∧ Fr x (fun j9 => False) Φ Φ1) := by
  refine Ct.of (cc := cX11_lengthOf) (maxL := 1) (ret := (some .int)) (by decide) rfl (Nat.le_of_ble_eq_true rfl) ?_
  intro p9 e9 s9 m9 w9 t9 k9 B
  show Z p9 l e9 _ s9 m9 _ w9 t9 k9 _ G 1 0 [(0, .int (nI q))] [] Φ sz 0 0
  refine z_iload_n B dX11_lengthOf_0 rfl 0 rfl ?_
  refine z_if_lt (tgt := 18) B dX11_lengthOf_1 rfl (fun c_1 => ?_) (fun c_1 => ?_)
  · have e_1 : q < 0 := (nI_ltI (a := q) (b := 0) (by omega) (by omega)).mp c_1
    refine z_iconst (v := 0) B dX11_lengthOf_18 rfl ?_
    exact z_ret_i B dX11_lengthOf_19 ⟨((show False by omega).elim), rfl, hI, (fun b9 h9 => rfl)⟩
  · have e_2 : ¬ (q < 0) := fun h9 => c_1 ((nI_ltI (a := q) (b := 0) (by omega) (by omega)).mpr h9)
    refine z_iload_n B dX11_lengthOf_4 rfl 0 rfl ?_
    refine z_bipush (v := 9) B dX11_lengthOf_5 rfl ?_
    refine z_icmp_ge (tgt := 18) B dX11_lengthOf_7 rfl (fun c_2 => ?_) (fun c_2 => ?_)
    · have e_3 : 9 ≤ q := (nI_leI (a := 9) (b := q) (by omega) (by omega)).mp c_2
      refine z_iconst (v := 0) B dX11_lengthOf_18 rfl ?_
      exact z_ret_i B dX11_lengthOf_19 ⟨((show False by omega).elim), rfl, hI, (fun b9 h9 => rfl)⟩
    · have e_4 : ¬ (9 ≤ q) := fun h9 => c_2 ((nI_leI (a := 9) (b := q) (by omega) (by omega)).mpr h9)
      refine z_sta B B.2.2.2.2.2.1.1.1 (by decide +kernel) rfl dX11_lengthOf_10 ?_
      refine z_iload_n B dX11_lengthOf_13 rfl 0 rfl ?_
      refine z_sald B B.2.2.2.2.2.1.2.2.2.1.1 (B.2.2.2.2.2.1.2.2.2.2 0 (by decide)) (vp_in_nI (by omega) (by omega)) dX11_lengthOf_14 ?_
      refine z_top (st1 := [.int (nI (fnT q))]) (congrArg (fun w9 : Int32 => ([.int w9] : List Value)) ((congrArg fbT (nI_clamp (by omega))).trans (fbT_fn q (by omega)).1)) ?_
      refine z_goto (tgt := 19) B dX11_lengthOf_15 rfl ?_
      exact z_ret_i B dX11_lengthOf_19 ⟨rfl, rfl, hI, (fun b9 h9 => rfl)⟩

theorem fq_728 : ∀ j9 : Nat, (j9 = 75 ∨ j9 = 75 + 1) → (j9 = 74 ∨ (j9 = 75 ∨ (j9 = 76 ∨ j9 = 77))) := by
  intro j9 h
  omega

theorem fq_729 {x : Nat} : ∀ j9 : Nat, x + 74 = x + j9 → (j9 = 75 ∨ j9 = 75 + 1) → False := by
  intro j9 h1 h2
  omega

theorem fq_730 {x : Nat} : ∀ j9 : Nat, x + 77 = x + j9 → (j9 = 75 ∨ j9 = 75 + 1) → False := by
  intro j9 h1 h2
  omega

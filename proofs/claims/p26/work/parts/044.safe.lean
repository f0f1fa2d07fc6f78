set_option maxHeartbeats 4000000 in
set_option maxRecDepth 100000 in
theorem s_X8_sendPendingX (G : EnvG) (l : Launch) (Φ : Hm) (sz x ca : Nat) (pn : Nat) (ms : Int32) (rs : Int64) (sq : Int32) (fa : Nat → Int32) (fb : Nat → Int32) (P : Nat → Nat) (pl : Nat) (fp : Nat → Int32) (t : Nat) (s : Nat) (c : Cf) (qn : Nat) (qL : Nat → Nat) (qd : Int32) (qp : Nat → Nat) (b : Int32) (hx : G.2.2.2 ≤ x) (hI : In G x ca Φ) (hc0 : Φ (x + 74) = some (o_ 10 [.ref (x + 3), .ref (x + 46), .ref (x + 75), .ref (x + 77), .int (nI pn), .ref (x + 78), .ref (x + 79), .int ms, .long rs, .int sq])) (hc1 : Φ (x + 75) = some (o_ 7 [.ref (x + 76), .int (nI pl)])) (hc2 : Φ (x + 77) = some (ai_ G 12 fp)) (hc3 : Φ (x + 78) = some (ai_ G 4 fa)) (hc4 : Φ (x + 79) = some (ai_ G 4 fb)) (hcf0 : CfA G x t s c Φ) (hcf1 : QbR G x qn qL qd qp Φ) (hpn : pn ≤ 12) (hfp : ∀ j9, j9 < pn → fp j9 = nI (P j9) ∧ P j9 < 4) (hpl : pl = plN c P pn) (hg : CfG c) : Ct G l yX8_sendPending wsX8_sendPending ({ frames := 4, cells := 0, slots := 0, locals := 95 }) 0 0 [.ref (x + 74), .int b] Φ sz (fun v Φ1 sz1 => (∃ (a8 : Nat → Int32) (b8 : Nat → Int32) (ms8 : Int32) (rs8 : Int64) (sq8 : Int32) (n8 : Nat) (L8 : Nat → Nat) (d8 : Int32), v = none ∧ Φ1 (x + 74) = some (o_ 10 [.ref (x + 3), .ref (x + 46), .ref (x + 75), .ref (x + 77), .int (nI 0), .ref (x + 78), .ref (x + 79), .int ms8, .long rs8, .int sq8]) ∧ Φ1 (x + 75) = some (o_ 7 [.ref (x + 76), .int (nI 0)]) ∧ Φ1 (x + 78) = some (ai_ G 4 a8) ∧ Φ1 (x + 79) = some (ai_ G 4 b8) ∧ QbR G x n8 L8 d8 qp Φ1 ∧ (spS c b P pn (fa, fb, ms, rs, sq) (qn, qL, qd) = ((a8, b8, ms8, rs8, sq8), (n8, L8, d8)))) ∧ sz1 = sz ∧ In G x (ca) Φ1 ∧ Fr x (fun j9 => 46 ≤ j9 ∧ j9 < 80) Φ Φ1) := by
  refine Ct.of (cc := cX8_sendPending) (maxL := 11) (ret := none) (by decide) rfl (Nat.le_of_ble_eq_true rfl) ?_
  intro p9 e9 s9 m9 w9 t9 k9 B
  show Z p9 l e9 _ s9 m9 _ w9 t9 k9 _ G 11 0 [(0, .ref (x + 74)), (1, .int b)] [] Φ sz 0 0
  obtain ⟨r7, hr71, hr72, hr73⟩ := hg.2.2.2
  have hpl9 : plN c P pn ≤ 29 * pn := plN_le pn (fun j9 h9 => ((CfA.W hcf0 hg) (P j9) (hfp j9 h9).2).2.1)
  refine z_aload_n B dX8_sendPending_0 rfl 0 rfl ?_
  refine z_get (ref := "FlowExporter$Sender") (C := RX8) (T := TX8) (N := 10) (ci := 10) (v := .int (nI pn)) B hu_X8_sendPending_X8 rfl 4 (Nat.le_of_ble_eq_true rfl) hv_X8_sendPending_24 rfl hc0 rfl dX8_sendPending_1 ?_
  refine z_if_ne (tgt := 8) B dX8_sendPending_4 rfl (fun c_1 => ?_) (fun c_1 => ?_)
  · have e_1 : ¬ (pn = 0) := fun h9 => c_1 ((nI_eq (a := pn) (b := 0) (by omega) (by omega)).mpr h9)
    refine z_aload_n B dX8_sendPending_8 rfl 0 rfl ?_
    refine z_iload_n B dX8_sendPending_9 rfl 1 rfl ?_
    refine z_callV (As := [.int b]) (rest := []) B (s_X8_beginMessageX G l Φ sz x (ca) pn ms rs sq fa fb t s c qn qL qd qp b hx hI hc0 hc3 hc4 hcf0 hcf1 hg (show pn ≤ 12 by omega)) (cwV 1 B.1.2.2.2.2 gX8_sendPending_X8_beginMessage rfl rfl rfl (by decide +kernel) ⟨Nat.le_of_ble_eq_true rfl, Nat.le_of_ble_eq_true rfl⟩) hc0 rfl rfl rfl rfl (Nat.le_of_ble_eq_true rfl) dX8_sendPending_10 ⟨Nat.le_of_ble_eq_true rfl, Nat.le_of_ble_eq_true rfl⟩ (fun r_1 Φ1 sz1 st1 hp1 hs1 => ?_)
    obtain ⟨⟨n_1, f_1, f_2, rfl, h_1, h_2, h_3, h_4, hcg1, e_2, e_3, e_4⟩, hq1, hI1, hF1⟩ := hp1
    subst sz1
    replace hs1 : st1 = [.ref (x + (48 + 2 * qp qn))] := hs1
    subst st1
    replace hI1 : In G x (ca) Φ1 := hI1
    replace e_2 : bgS c b (fa, fb, ms, rs, sq) = (n_1, f_1, f_2, ms, rs, sq) := e_2
    replace e_3 : 16 ≤ n_1 := e_3
    replace e_4 : n_1 ≤ 180 := e_4
    refine z_astore_n (lv' := [(2, .ref (x + (48 + 2 * qp qn))), (0, .ref (x + 74)), (1, .int b)]) B dX8_sendPending_13 rfl (Nat.le_of_ble_eq_true rfl) rfl ?_
    refine z_iconst (v := 0) B dX8_sendPending_14 rfl ?_
    refine z_istore_n (lv' := [(3, .int 0), (2, .ref (x + (48 + 2 * qp qn))), (0, .ref (x + 74)), (1, .int b)]) B dX8_sendPending_15 rfl (Nat.le_of_ble_eq_true rfl) rfl ?_
    refine z_iconst (v := (-1)) B dX8_sendPending_16 rfl ?_
    refine z_istore (lv' := [(4, .int (-1)), (3, .int 0), (2, .ref (x + (48 + 2 * qp qn))), (0, .ref (x + 74)), (1, .int b)]) B dX8_sendPending_17 (Nat.le_of_ble_eq_true rfl) rfl ?_
    refine z_iconst (v := 0) B dX8_sendPending_19 rfl ?_
    refine z_istore (lv' := [(5, .int 0), (4, .int (-1)), (3, .int 0), (2, .ref (x + (48 + 2 * qp qn))), (0, .ref (x + 74)), (1, .int b)]) B dX8_sendPending_20 (Nat.le_of_ble_eq_true rfl) rfl ?_
    refine z_iconst (v := 0) B dX8_sendPending_22 rfl ?_
    refine z_istore (lv' := [(6, .int 0), (5, .int 0), (4, .int (-1)), (3, .int 0), (2, .ref (x + (48 + 2 * qp qn))), (0, .ref (x + 74)), (1, .int b)]) B dX8_sendPending_23 (Nat.le_of_ble_eq_true rfl) rfl ?_
    refine z_iconst (v := 0) B dX8_sendPending_25 rfl ?_
    refine z_istore (lv' := [(7, .int 0), (6, .int 0), (5, .int 0), (4, .int (-1)), (3, .int 0), (2, .ref (x + (48 + 2 * qp qn))), (0, .ref (x + 74)), (1, .int b)]) B dX8_sendPending_26 (Nat.le_of_ble_eq_true rfl) rfl ?_
    refine z_lv [0, 1, 2, 3, 4, 5, 6, 7] rfl ?_
    have hcg2 : CfA G x t s c Φ1 := (CfA.fr hcf0 hF1 (fun j9 h7 => by have h6 : (j9 = 48 + 2 * qp qn ∨ j9 = 48 + 2 * qp qn + 1) ∨ (j9 = 78 ∨ j9 = 79) := h7; intros; omega))
    have h_5 : Φ1 (x + 75) = some (o_ 7 [.ref (x + 76), .int (nI pl)]) := ((hF1 (x + 75) (fun j9 h8 h7 => by have h6 : (j9 = 48 + 2 * qp qn ∨ j9 = 48 + 2 * qp qn + 1) ∨ (j9 = 78 ∨ j9 = 79) := h7; omega)).trans hc1)
    have h_6 : Φ1 (x + 77) = some (ai_ G 12 fp) := ((hF1 (x + 77) (fun j9 h8 h7 => by have h6 : (j9 = 48 + 2 * qp qn ∨ j9 = 48 + 2 * qp qn + 1) ∨ (j9 = 78 ∨ j9 = 79) := h7; omega)).trans hc2)
    refine z_loop (α := Nat × Nat × Int32 × Int32 × Nat × Nat × Nat × (Nat → Int32) × (Nat → Int32) × Int32 × Int64 × Int32 × Nat × (Nat → Nat) × Int32) (fun (a9 : Nat × Nat × Int32 × Int32 × Nat × Nat × Nat × (Nat → Int32) × (Nat → Int32) × Int32 × Int64 × Int32 × Nat × (Nat → Nat) × Int32) Φi => In G x (ca) Φi ∧ Fr x (fun j9 => 46 ≤ j9 ∧ j9 < 80) Φ1 Φi ∧ (a9.1 ≤ pn) ∧ (a9.2.2.2.2.1 ≤ a9.1) ∧ (a9.2.2.2.2.2.1 < 13) ∧ (a9.2.1 = plN c P a9.1) ∧ (a9.2.2.2.2.2.1 = qp a9.2.2.2.2.2.2.2.2.2.2.2.2.1) ∧ (a9.2.2.2.2.2.2.1 ≤ 600) ∧ (16 ≤ a9.2.2.2.2.2.2.1) ∧ (a9.2.2.2.2.2.2.2.2.2.2.2.2.1 ≤ 12) ∧ (rcI c b P (g0N c b (fa, fb, ms, rs, sq) (qn, qL, qd)) a9.1 = (a9.2.2.2.2.2.2.1, a9.2.2.2.1, a9.2.2.2.2.1, (a9.2.2.2.2.2.2.2.1, a9.2.2.2.2.2.2.2.2.1, a9.2.2.2.2.2.2.2.2.2.1, a9.2.2.2.2.2.2.2.2.2.2.1, a9.2.2.2.2.2.2.2.2.2.2.2.1), (a9.2.2.2.2.2.2.2.2.2.2.2.2.1, a9.2.2.2.2.2.2.2.2.2.2.2.2.2.1, a9.2.2.2.2.2.2.2.2.2.2.2.2.2.2))) ∧ (Φi (x + (48 + 2 * a9.2.2.2.2.2.1)) = some (o_ 7 [.ref (x + (48 + 2 * a9.2.2.2.2.2.1 + 1)), .int (nI a9.2.2.2.2.2.2.1)])) ∧ (CfA G x t s c Φi) ∧ (QbR G x a9.2.2.2.2.2.2.2.2.2.2.2.2.1 a9.2.2.2.2.2.2.2.2.2.2.2.2.2.1 a9.2.2.2.2.2.2.2.2.2.2.2.2.2.2 qp Φi) ∧ (Φi (x + 74) = some (o_ 10 [.ref (x + 3), .ref (x + 46), .ref (x + 75), .ref (x + 77), .int (nI pn), .ref (x + 78), .ref (x + 79), .int a9.2.2.2.2.2.2.2.2.2.1, .long a9.2.2.2.2.2.2.2.2.2.2.1, .int a9.2.2.2.2.2.2.2.2.2.2.2.1])) ∧ (Φi (x + 75) = some (o_ 7 [.ref (x + 76), .int (nI pl)])) ∧ (Φi (x + 77) = some (ai_ G 12 fp)) ∧ (Φi (x + 78) = some (ai_ G 4 a9.2.2.2.2.2.2.2.1)) ∧ (Φi (x + 79) = some (ai_ G 4 a9.2.2.2.2.2.2.2.2.1)) ∧ True) (fun a9 => [(7, .int (nI (a9.1))), (6, .int (nI (a9.2.1))), (5, .int a9.2.2.1), (4, .int a9.2.2.2.1), (3, .int (nI (a9.2.2.2.2.1))), (2, .ref (x + (48 + 2 * (a9.2.2.2.2.2.1)))), (0, .ref (x + 74)), (1, .int b)]) (fun a9 => 12 - a9.1) ?_ (0, 0, 0, (-1), 0, qp qn, n_1, f_1, f_2, ms, rs, sq, qn, qL, qd) ⟨hI1, fun _ _ => rfl, (show 0 ≤ pn by omega), (show 0 ≤ 0 by omega), (show (qp qn) < 13 by omega), (show 0 = plN c P 0 by omega), (show (qp qn) = qp qn by omega), (show n_1 ≤ 600 by omega), (show 16 ≤ n_1 by omega), (show qn ≤ 12 by omega), (g0_eq e_2), h_1, hcg2, hcg1, h_4, h_5, h_6, h_2, h_3, trivial⟩
    rintro ⟨i_1, i_2, i_3, i_4, i_5, i_6, i_7, i_8, i_9, i_10, i_11, i_12, i_13, i_14, i_15⟩ Φl1 ⟨hI2, hF2, b_2, b_3, b_4, b_5, b_6, b_7, b_8, b_9, b_10, b_11, b_12, b_13, b_14, b_15, b_16, b_17, b_18, -⟩ ih1
    replace hI2 : In G x (ca) Φl1 := hI2
    replace b_2 : i_1 ≤ pn := b_2
    replace b_3 : i_5 ≤ i_1 := b_3
    replace b_4 : i_6 < 13 := b_4
    replace b_5 : i_2 = plN c P i_1 := b_5
    replace b_6 : i_6 = qp i_13 := b_6
    replace b_7 : i_7 ≤ 600 := b_7
    replace b_8 : 16 ≤ i_7 := b_8
    replace b_9 : i_13 ≤ 12 := b_9
    replace b_10 : rcI c b P (g0N c b (fa, fb, ms, rs, sq) (qn, qL, qd)) i_1 = (i_7, i_4, i_5, (i_8, i_9, i_10, i_11, i_12), (i_13, i_14, i_15)) := b_10
    replace b_11 : Φl1 (x + (48 + 2 * i_6)) = some (o_ 7 [.ref (x + (48 + 2 * i_6 + 1)), .int (nI i_7)]) := b_11
    replace b_12 : CfA G x t s c Φl1 := b_12
    replace b_13 : QbR G x i_13 i_14 i_15 qp Φl1 := b_13
    replace b_14 : Φl1 (x + 74) = some (o_ 10 [.ref (x + 3), .ref (x + 46), .ref (x + 75), .ref (x + 77), .int (nI pn), .ref (x + 78), .ref (x + 79), .int i_10, .long i_11, .int i_12]) := b_14
    replace b_15 : Φl1 (x + 75) = some (o_ 7 [.ref (x + 76), .int (nI pl)]) := b_15
    replace b_16 : Φl1 (x + 77) = some (ai_ G 12 fp) := b_16
    replace b_17 : Φl1 (x + 78) = some (ai_ G 4 i_8) := b_17
    replace b_18 : Φl1 (x + 79) = some (ai_ G 4 i_9) := b_18
    show Z p9 l e9 _ s9 m9 _ w9 t9 k9 _ G 11 28 [(7, .int (nI i_1)), (6, .int (nI i_2)), (5, .int i_3), (4, .int i_4), (3, .int (nI i_5)), (2, .ref (x + (48 + 2 * i_6))), (0, .ref (x + 74)), (1, .int b)] [] Φl1 _ _ _
    refine z_iload B dX8_sendPending_28 0 rfl ?_
    refine z_aload_n B dX8_sendPending_30 rfl 6 rfl ?_
    refine z_get (ref := "FlowExporter$Sender") (C := RX8) (T := TX8) (N := 10) (ci := 10) (v := .int (nI pn)) B hu_X8_sendPending_X8 rfl 4 (Nat.le_of_ble_eq_true rfl) hv_X8_sendPending_24 rfl b_14 rfl dX8_sendPending_31 ?_
    refine z_icmp_ge (tgt := 204) B dX8_sendPending_34 rfl (fun c_2 => ?_) (fun c_2 => ?_)
    · have e_5 : pn ≤ i_1 := (nI_leI (a := pn) (b := i_1) (by omega) (by omega)).mp c_2
      refine z_aload_n B dX8_sendPending_204 rfl 6 rfl ?_
      refine z_aload_n B dX8_sendPending_205 rfl 5 rfl ?_
      refine z_iload_n B dX8_sendPending_206 rfl 4 rfl ?_
      refine z_callV (As := [.ref (x + (48 + 2 * i_6)), .int (nI i_5)]) (rest := []) B (s_X8_endMessageX G l Φl1 sz x (ca) pn i_10 i_11 i_12 i_13 i_14 i_15 qp i_7 (48 + 2 * i_6) i_5 hx hI2 (kd_q (show i_6 < 13 by omega)) b_14 b_11 b_13 (show 48 ≤ (48 + 2 * i_6) by omega) (show (48 + 2 * i_6) < 73 by omega) (show (48 + 2 * i_6) = 48 + 2 * qp i_13 by omega) (show i_7 ≤ 600 by omega) (show pn ≤ 12 by omega)) (cwV 2 B.1.2.2.2.2 gX8_sendPending_X8_endMessage rfl rfl rfl (by decide +kernel) ⟨Nat.le_of_ble_eq_true rfl, Nat.le_of_ble_eq_true rfl⟩) b_14 rfl rfl rfl rfl (Nat.le_of_ble_eq_true rfl) dX8_sendPending_207 ⟨Nat.le_of_ble_eq_true rfl, Nat.le_of_ble_eq_true rfl⟩ (fun r_2 Φ2 sz2 st2 hp2 hs2 => ?_)
      obtain ⟨⟨n_2, f_3, v_1, rfl, h_7, hcg3, e_6⟩, hq2, hI3, hF3⟩ := hp2
      subst sz2
      replace hs2 : st2 = [] := hs2
      subst st2
      replace hI3 : In G x (ca) Φ2 := hI3
      replace e_6 : enQ i_7 (i_13, i_14, i_15) = (n_2, f_3, v_1) := e_6
      refine z_aload_n B dX8_sendPending_210 rfl 6 rfl ?_
      have h_8 : Φ2 (x + 75) = some (o_ 7 [.ref (x + 76), .int (nI pl)]) := ((hF3 (x + 75) (fun j9 h8 h7 => by have h6 : j9 = (48 + 2 * i_6) + 1 ∨ (j9 = 46 ∨ j9 = 74) := h7; omega)).trans b_15)
      refine z_callV (As := []) (rest := []) B (s_X8_emptyPendingX G l Φ2 sz x (ca) pn (i_10 + 1) (i_11 + (nI i_5).toInt64) (i_12 + nI i_5) pl hx hI3 h_7 h_8) (cwV 0 B.1.2.2.2.2 gX8_sendPending_X8_emptyPending rfl rfl rfl (by decide +kernel) ⟨Nat.le_of_ble_eq_true rfl, Nat.le_of_ble_eq_true rfl⟩) h_7 rfl rfl rfl rfl (Nat.le_of_ble_eq_true rfl) dX8_sendPending_211 ⟨Nat.le_of_ble_eq_true rfl, Nat.le_of_ble_eq_true rfl⟩ (fun r_3 Φ3 sz3 st3 hp3 hs3 => ?_)
      obtain ⟨⟨rfl, h_9, h_10⟩, hq3, hI4, hF4⟩ := hp3
      subst sz3
      replace hs3 : st3 = [] := hs3
      subst st3
      replace hI4 : In G x (ca) Φ3 := hI4
      have hk9 : i_1 = pn := by omega
      have hr9 := (congrArg (rcI c b P (g0N c b (fa, fb, ms, rs, sq) (qn, qL, qd))) hk9).symm.trans b_10
      have h_11 : Φ3 (x + 78) = some (ai_ G 4 i_8) := ((hF4 (x + 78) fq_723).trans ((hF3 (x + 78) (fun j9 h8 h7 => by have h6 : j9 = (48 + 2 * i_6) + 1 ∨ (j9 = 46 ∨ j9 = 74) := h7; omega)).trans b_17))
      have h_12 : Φ3 (x + 79) = some (ai_ G 4 i_9) := ((hF4 (x + 79) fq_731).trans ((hF3 (x + 79) (fun j9 h8 h7 => by have h6 : j9 = (48 + 2 * i_6) + 1 ∨ (j9 = 46 ∨ j9 = 74) := h7; omega)).trans b_18))
      have hcg4 : QbR G x n_2 f_3 v_1 qp Φ3 := (QbR.frw hcg3 hF4 (fun j9 h7 => by have h6 : j9 = 74 ∨ j9 = 75 := h7; omega))
      exact z_ret_v B dX8_sendPending_214 ⟨⟨i_8, i_9, i_10 + 1, i_11 + (nI i_5).toInt64, i_12 + nI i_5, n_2, f_3, v_1, rfl, h_9, h_10, h_11, h_12, hcg4, (spS_n (by omega) hr9).trans (congrArg (fun w9 : QN => (enS i_5 (i_8, i_9, i_10, i_11, i_12), w9)) e_6)⟩, rfl, hI4, (fun b9 h9 => ((hF4 b9 (fun j9 h8 h7 => h9 j9 h8 (fq_176 j9 h7))).trans ((hF3 b9 (fun j9 h8 h7 => h9 j9 h8 (show 46 ≤ j9 ∧ j9 < 80 by have h6 : j9 = (48 + 2 * i_6) + 1 ∨ (j9 = 46 ∨ j9 = 74) := h7; omega))).trans ((hF2 b9 h9).trans ((hF1 b9 (fun j9 h8 h7 => h9 j9 h8 (show 46 ≤ j9 ∧ j9 < 80 by have h6 : (j9 = 48 + 2 * qp qn ∨ j9 = 48 + 2 * qp qn + 1) ∨ (j9 = 78 ∨ j9 = 79) := h7; omega))).trans rfl)))))⟩
    · have e_7 : ¬ (pn ≤ i_1) := fun h9 => c_2 ((nI_leI (a := pn) (b := i_1) (by omega) (by omega)).mpr h9)
      refine z_iload B dX8_sendPending_37 0 rfl ?_
      refine z_aload_n B dX8_sendPending_39 rfl 6 rfl ?_
      refine z_get (ref := "FlowExporter$Sender") (C := RX8) (T := TX8) (N := 10) (ci := 10) (v := .ref (x + 77)) B hu_X8_sendPending_X8 rfl 3 (Nat.le_of_ble_eq_true rfl) hv_X8_sendPending_20 rfl b_14 rfl dX8_sendPending_40 ?_
      refine z_alen (t := 0) (v := 12) B rfl b_16 rfl dX8_sendPending_43 ?_
      refine z_icmp_ge (tgt := 204) B dX8_sendPending_44 rfl (fun c_3 => ?_) (fun c_3 => ?_)
      · have e_8 : 12 ≤ i_1 := (nI_leI (a := 12) (b := i_1) (by omega) (by omega)).mp c_3
        refine z_aload_n B dX8_sendPending_204 rfl 6 rfl ?_
        refine z_aload_n B dX8_sendPending_205 rfl 5 rfl ?_
        refine z_iload_n B dX8_sendPending_206 rfl 4 rfl ?_
        refine z_callV (As := [.ref (x + (48 + 2 * i_6)), .int (nI i_5)]) (rest := []) B (s_X8_endMessageX G l Φl1 sz x (ca) pn i_10 i_11 i_12 i_13 i_14 i_15 qp i_7 (48 + 2 * i_6) i_5 hx hI2 (kd_q (show i_6 < 13 by omega)) b_14 b_11 b_13 (show 48 ≤ (48 + 2 * i_6) by omega) (show (48 + 2 * i_6) < 73 by omega) (show (48 + 2 * i_6) = 48 + 2 * qp i_13 by omega) (show i_7 ≤ 600 by omega) (show pn ≤ 12 by omega)) (cwV 2 B.1.2.2.2.2 gX8_sendPending_X8_endMessage rfl rfl rfl (by decide +kernel) ⟨Nat.le_of_ble_eq_true rfl, Nat.le_of_ble_eq_true rfl⟩) b_14 rfl rfl rfl rfl (Nat.le_of_ble_eq_true rfl) dX8_sendPending_207 ⟨Nat.le_of_ble_eq_true rfl, Nat.le_of_ble_eq_true rfl⟩ (fun r_4 Φ4 sz4 st4 hp4 hs4 => ?_)
        obtain ⟨⟨n_3, f_4, v_2, rfl, h_13, hcg5, e_9⟩, hq4, hI5, hF5⟩ := hp4
        subst sz4
        replace hs4 : st4 = [] := hs4
        subst st4
        replace hI5 : In G x (ca) Φ4 := hI5
        replace e_9 : enQ i_7 (i_13, i_14, i_15) = (n_3, f_4, v_2) := e_9
        refine z_aload_n B dX8_sendPending_210 rfl 6 rfl ?_
        have h_14 : Φ4 (x + 75) = some (o_ 7 [.ref (x + 76), .int (nI pl)]) := ((hF5 (x + 75) (fun j9 h8 h7 => by have h6 : j9 = (48 + 2 * i_6) + 1 ∨ (j9 = 46 ∨ j9 = 74) := h7; omega)).trans b_15)
        refine z_callV (As := []) (rest := []) B (s_X8_emptyPendingX G l Φ4 sz x (ca) pn (i_10 + 1) (i_11 + (nI i_5).toInt64) (i_12 + nI i_5) pl hx hI5 h_13 h_14) (cwV 0 B.1.2.2.2.2 gX8_sendPending_X8_emptyPending rfl rfl rfl (by decide +kernel) ⟨Nat.le_of_ble_eq_true rfl, Nat.le_of_ble_eq_true rfl⟩) h_13 rfl rfl rfl rfl (Nat.le_of_ble_eq_true rfl) dX8_sendPending_211 ⟨Nat.le_of_ble_eq_true rfl, Nat.le_of_ble_eq_true rfl⟩ (fun r_5 Φ5 sz5 st5 hp5 hs5 => ?_)
        obtain ⟨⟨rfl, h_15, h_16⟩, hq5, hI6, hF6⟩ := hp5
        subst sz5
        replace hs5 : st5 = [] := hs5
        subst st5
        replace hI6 : In G x (ca) Φ5 := hI6
        have hk9 : i_1 = pn := by omega
        have hr9 := (congrArg (rcI c b P (g0N c b (fa, fb, ms, rs, sq) (qn, qL, qd))) hk9).symm.trans b_10
        have h_17 : Φ5 (x + 78) = some (ai_ G 4 i_8) := ((hF6 (x + 78) fq_723).trans ((hF5 (x + 78) (fun j9 h8 h7 => by have h6 : j9 = (48 + 2 * i_6) + 1 ∨ (j9 = 46 ∨ j9 = 74) := h7; omega)).trans b_17))
        have h_18 : Φ5 (x + 79) = some (ai_ G 4 i_9) := ((hF6 (x + 79) fq_731).trans ((hF5 (x + 79) (fun j9 h8 h7 => by have h6 : j9 = (48 + 2 * i_6) + 1 ∨ (j9 = 46 ∨ j9 = 74) := h7; omega)).trans b_18))
        have hcg6 : QbR G x n_3 f_4 v_2 qp Φ5 := (QbR.frw hcg5 hF6 (fun j9 h7 => by have h6 : j9 = 74 ∨ j9 = 75 := h7; omega))
        exact z_ret_v B dX8_sendPending_214 ⟨⟨i_8, i_9, i_10 + 1, i_11 + (nI i_5).toInt64, i_12 + nI i_5, n_3, f_4, v_2, rfl, h_15, h_16, h_17, h_18, hcg6, (spS_n (by omega) hr9).trans (congrArg (fun w9 : QN => (enS i_5 (i_8, i_9, i_10, i_11, i_12), w9)) e_9)⟩, rfl, hI6, (fun b9 h9 => ((hF6 b9 (fun j9 h8 h7 => h9 j9 h8 (fq_176 j9 h7))).trans ((hF5 b9 (fun j9 h8 h7 => h9 j9 h8 (show 46 ≤ j9 ∧ j9 < 80 by have h6 : j9 = (48 + 2 * i_6) + 1 ∨ (j9 = 46 ∨ j9 = 74) := h7; omega))).trans ((hF2 b9 h9).trans ((hF1 b9 (fun j9 h8 h7 => h9 j9 h8 (show 46 ≤ j9 ∧ j9 < 80 by have h6 : (j9 = 48 + 2 * qp qn ∨ j9 = 48 + 2 * qp qn + 1) ∨ (j9 = 78 ∨ j9 = 79) := h7; omega))).trans rfl)))))⟩
      · have e_10 : ¬ (12 ≤ i_1) := fun h9 => c_3 ((nI_leI (a := 12) (b := i_1) (by omega) (by omega)).mpr h9)
        refine z_aload_n B dX8_sendPending_47 rfl 6 rfl ?_
        refine z_get (ref := "FlowExporter$Sender") (C := RX8) (T := TX8) (N := 10) (ci := 10) (v := .ref (x + 77)) B hu_X8_sendPending_X8 rfl 3 (Nat.le_of_ble_eq_true rfl) hv_X8_sendPending_20 rfl b_14 rfl dX8_sendPending_48 ?_
        refine z_iload B dX8_sendPending_51 0 rfl ?_
        refine z_iald B b_16 (vp_in_nI (by omega) (by omega)) dX8_sendPending_53 ?_
        refine z_top (st1 := [.int (nI (P i_1))]) (congrArg (fun w9 : Int32 => ([.int w9] : List Value)) ((congrArg fp (nI_clamp (by omega))).trans (hfp i_1 (by omega)).1)) ?_
        have hP9 : P i_1 < 4 := (hfp i_1 (by omega)).2
        refine z_istore (lv' := [(8, .int (nI (P i_1))), (7, .int (nI i_1)), (6, .int (nI i_2)), (5, .int i_3), (4, .int i_4), (3, .int (nI i_5)), (2, .ref (x + (48 + 2 * i_6))), (0, .ref (x + 74)), (1, .int b)]) B dX8_sendPending_54 (Nat.le_of_ble_eq_true rfl) rfl ?_
        refine z_aload_n B dX8_sendPending_56 rfl 7 rfl ?_
        refine z_get (ref := "FlowExporter$Sender") (C := RX8) (T := TX8) (N := 10) (ci := 10) (v := .ref (x + 3)) B hu_X8_sendPending_X8 rfl 0 (Nat.le_of_ble_eq_true rfl) hv_X8_sendPending_44 rfl b_14 rfl dX8_sendPending_57 ?_
        refine z_iload B dX8_sendPending_60 0 rfl ?_
        obtain ⟨v_3, v_4, h_19⟩ := in3 (k := 3) hI2 rfl
        have h_20 : Φl1 (x + 3) = some (o_ 3 [.ref (x + 4), .ref (x + 5), .ref (x + 6), .ref (x + 7), .int v_3, .int v_4]) := h_19
        refine z_callV (As := [.int (nI (P i_1))]) (rest := []) B (s_X1_effective3 G l Φl1 sz x (ca) (P i_1) hx hI2 (show (P i_1) < 4 by omega)) (cwV 1 B.1.2.2.2.2 gX8_sendPending_X1_effective rfl rfl rfl (by decide +kernel) ⟨Nat.le_of_ble_eq_true rfl, Nat.le_of_ble_eq_true rfl⟩) h_20 rfl rfl rfl rfl (Nat.le_of_ble_eq_true rfl) dX8_sendPending_62 ⟨Nat.le_of_ble_eq_true rfl, Nat.le_of_ble_eq_true rfl⟩ (fun r_6 Φ6 sz6 st6 hp6 hs6 => ?_)
        obtain ⟨rfl, hq6, hI7, hF7⟩ := hp6
        subst sz6
        replace hs6 : st6 = [.ref (x + (10 + 4 * (P i_1)))] := hs6
        subst st6
        replace hI7 : In G x (ca) Φ6 := hI7
        have hcg7 : CfA G x t s c Φ6 := (CfA.fr b_12 hF7 (fun j9 h7 => (show False from h7).elim))
        obtain ⟨⟨v_5, f_5, h_21, h_22⟩, e_11⟩ := CfA.ec (u := P i_1) hcg7 hg (show P i_1 < 4 by omega)
        have b_19 : esN c (P i_1) ≤ 9 := e_11.1
        have b_20 : rlN c (P i_1) ≤ 29 := e_11.2.1
        refine z_get (ref := "FlowExporter$Template") (C := RX10) (T := TX10) (N := 4) (ci := 12) (v := .int (nI (rlN c (P i_1)))) B hu_X8_sendPending_X10 rfl 3 (Nat.le_of_ble_eq_true rfl) hv_X8_sendPending_114 rfl h_21 rfl dX8_sendPending_65 ?_
        refine z_istore (lv' := [(9, .int (nI (rlN c (P i_1)))), (8, .int (nI (P i_1))), (7, .int (nI i_1)), (6, .int (nI i_2)), (5, .int i_3), (4, .int i_4), (3, .int (nI i_5)), (2, .ref (x + (48 + 2 * i_6))), (0, .ref (x + 74)), (1, .int b)]) B dX8_sendPending_68 (Nat.le_of_ble_eq_true rfl) rfl ?_
        refine z_iload B dX8_sendPending_70 1 rfl ?_
        refine z_iload B dX8_sendPending_72 5 rfl ?_
        refine z_icmp_ne (tgt := 82) B dX8_sendPending_74 rfl (fun c_4 => ?_) (fun c_4 => ?_)
        · refine z_iload B dX8_sendPending_82 0 rfl ?_
          refine z_iconst (v := 4) B dX8_sendPending_84 rfl ?_
          refine z_iadd B dX8_sendPending_85 ?_
          refine z_top (st1 := [.int (nI (rlN c (P i_1) + 4))]) (congrArg (fun w9 : Int32 => ([.int w9] : List Value)) (nI_add (rlN c (P i_1)) 4)) ?_
          refine z_istore (lv' := [(10, .int (nI (rlN c (P i_1) + 4))), (9, .int (nI (rlN c (P i_1)))), (8, .int (nI (P i_1))), (7, .int (nI i_1)), (6, .int (nI i_2)), (5, .int i_3), (4, .int i_4), (3, .int (nI i_5)), (2, .ref (x + (48 + 2 * i_6))), (0, .ref (x + 74)), (1, .int b)]) B dX8_sendPending_86 (Nat.le_of_ble_eq_true rfl) rfl ?_
          refine z_aload_n B dX8_sendPending_88 rfl 8 rfl ?_
          have h_23 : Φ6 (x + (48 + 2 * i_6)) = some (o_ 7 [.ref (x + (48 + 2 * i_6 + 1)), .int (nI i_7)]) := ((hF7 (x + (48 + 2 * i_6)) (fun j9 h8 h7 => (show False from h7).elim)).trans b_11)
          refine z_get (ref := "FlowExporter$Message") (C := RX5) (T := TX5) (N := 2) (ci := 7) (v := .int (nI i_7)) B hu_X8_sendPending_X5 rfl 1 (Nat.le_of_ble_eq_true rfl) hv_X8_sendPending_61 rfl h_23 rfl dX8_sendPending_89 ?_
          refine z_iload B dX8_sendPending_92 0 rfl ?_
          refine z_iadd B dX8_sendPending_94 ?_
          refine z_top (st1 := [.int (nI (i_7 + rlN c (P i_1) + 4))]) (congrArg (fun w9 : Int32 => ([.int w9] : List Value)) (nI_add i_7 (rlN c (P i_1) + 4))) ?_
          refine z_aload_n B dX8_sendPending_95 rfl 9 rfl ?_
          have h_24 : Φ6 (x + 74) = some (o_ 10 [.ref (x + 3), .ref (x + 46), .ref (x + 75), .ref (x + 77), .int (nI pn), .ref (x + 78), .ref (x + 79), .int i_10, .long i_11, .int i_12]) := ((hF7 (x + 74) (fun j9 h8 h7 => (show False from h7).elim)).trans b_14)
          refine z_get (ref := "FlowExporter$Sender") (C := RX8) (T := TX8) (N := 10) (ci := 10) (v := .ref (x + 3)) B hu_X8_sendPending_X8 rfl 0 (Nat.le_of_ble_eq_true rfl) hv_X8_sendPending_44 rfl h_24 rfl dX8_sendPending_96 ?_
          refine z_bipush (v := 7) B dX8_sendPending_99 rfl ?_
          have h_25 : Φ6 (x + 3) = some (o_ 3 [.ref (x + 4), .ref (x + 5), .ref (x + 6), .ref (x + 7), .int v_3, .int v_4]) := ((hF7 (x + 3) (fun j9 h8 h7 => (show False from h7).elim)).trans h_20)
          refine z_callV (As := [.int 7]) (rest := [.int (nI (i_7 + rlN c (P i_1) + 4))]) B (s_X1_getX G l Φ6 sz x (ca) t s c 7 hx hI7 hcg7 (show 7 < 9 by omega)) (cwV 1 B.1.2.2.2.2 gX8_sendPending_X1_get rfl rfl rfl (by decide +kernel) ⟨Nat.le_of_ble_eq_true rfl, Nat.le_of_ble_eq_true rfl⟩) h_25 rfl rfl rfl rfl (Nat.le_of_ble_eq_true rfl) dX8_sendPending_101 ⟨Nat.le_of_ble_eq_true rfl, Nat.le_of_ble_eq_true rfl⟩ (fun r_7 Φ7 sz7 st7 hp7 hs7 => ?_)
          obtain ⟨rfl, hq7, hI8, hF8⟩ := hp7
          subst sz7
          replace hs7 : st7 = [.int (c 7), .int (nI (i_7 + rlN c (P i_1) + 4))] := hs7
          subst st7
          replace hI8 : In G x (ca) Φ7 := hI8
          refine z_icmp_le (tgt := 124) B dX8_sendPending_104 rfl (fun c_5 => ?_) (fun c_5 => ?_)
          · have hm9 : rlN c (P i_1) + 4 = moN c (P i_1) i_4 := (moN_n (fun h9 => c_4 h9.symm)).symm
            have ho9 := ovN_i (z := (i_5, (i_8, i_9, i_10, i_11, i_12), (i_13, i_14, i_15))) hr73 hr72 (congrArg (fun w9 : Nat => i_7 + w9) hm9) (by omega)
            have hf9 := ho9.mp c_5
            have hl9 : i_7 + (rlN c (P i_1) + 4) ≤ 600 := by
              have h9 := c_5
              rw [hr73] at h9
              have h8 := (nI_leI (a := i_7 + (rlN c (P i_1) + 4)) (b := r7) (by omega) (by omega)).mp h9
              omega
            refine z_iload B dX8_sendPending_124 2 rfl ?_
            refine z_iload B dX8_sendPending_126 6 rfl ?_
            refine z_icmp_eq (tgt := 159) B dX8_sendPending_128 rfl (fun h9 => absurd h9 c_4) (fun c_6 => ?_)
            refine z_iload B dX8_sendPending_131 2 rfl ?_
            refine z_istore (lv' := [(4, .int (nI (P i_1))), (10, .int (nI (rlN c (P i_1) + 4))), (9, .int (nI (rlN c (P i_1)))), (8, .int (nI (P i_1))), (7, .int (nI i_1)), (6, .int (nI i_2)), (5, .int i_3), (3, .int (nI i_5)), (2, .ref (x + (48 + 2 * i_6))), (0, .ref (x + 74)), (1, .int b)]) B dX8_sendPending_133 (Nat.le_of_ble_eq_true rfl) rfl ?_
            refine z_aload_n B dX8_sendPending_135 rfl 8 rfl ?_
            have h_26 : Φ7 (x + (48 + 2 * i_6)) = some (o_ 7 [.ref (x + (48 + 2 * i_6 + 1)), .int (nI i_7)]) := ((hF8 (x + (48 + 2 * i_6)) (fun j9 h8 h7 => (show False from h7).elim)).trans h_23)
            refine z_get (ref := "FlowExporter$Message") (C := RX5) (T := TX5) (N := 2) (ci := 7) (v := .int (nI i_7)) B hu_X8_sendPending_X5 rfl 1 (Nat.le_of_ble_eq_true rfl) hv_X8_sendPending_61 rfl h_26 rfl dX8_sendPending_136 ?_
            refine z_istore (lv' := [(5, .int (nI i_7)), (4, .int (nI (P i_1))), (10, .int (nI (rlN c (P i_1) + 4))), (9, .int (nI (rlN c (P i_1)))), (8, .int (nI (P i_1))), (7, .int (nI i_1)), (6, .int (nI i_2)), (3, .int (nI i_5)), (2, .ref (x + (48 + 2 * i_6))), (0, .ref (x + 74)), (1, .int b)]) B dX8_sendPending_139 (Nat.le_of_ble_eq_true rfl) rfl ?_
            refine z_aload_n B dX8_sendPending_141 rfl 8 rfl ?_
            refine z_sipush (v := 256) B dX8_sendPending_142 rfl ?_
            refine z_iload B dX8_sendPending_145 4 rfl ?_
            refine z_iadd B dX8_sendPending_147 ?_
            refine z_top (st1 := [.int (nI (256 + P i_1)), .ref (x + (48 + 2 * i_6))]) (congrArg (fun w9 : Int32 => ([.int w9, .ref (x + (48 + 2 * i_6))] : List Value)) (nI_add 256 (P i_1))) ?_
            refine z_i2l (v := (nI (256 + P i_1)).toInt64) B dX8_sendPending_148 rfl ?_
            refine z_fl (fun v_6 => ?_)
            refine z_iconst (v := 2) B dX8_sendPending_149 rfl ?_
            refine z_callV (As := [.long v_6, .int 2]) (rest := []) B (s_X5_putL G l Φ7 sz x (ca) i_7 (48 + 2 * i_6) v_6 2 hx hI8 (kd_q (show i_6 < 13 by omega)) h_26 (show 2 ≤ 8 by omega) (by have h9 := cap_q (k := 48 + 2 * i_6) (by omega) (by omega); omega)) (cwV 2 B.1.2.2.2.2 gX8_sendPending_X5_put rfl rfl rfl (by decide +kernel) ⟨Nat.le_of_ble_eq_true rfl, Nat.le_of_ble_eq_true rfl⟩) h_26 rfl rfl rfl rfl (Nat.le_of_ble_eq_true rfl) dX8_sendPending_150 ⟨Nat.le_of_ble_eq_true rfl, Nat.le_of_ble_eq_true rfl⟩ (fun r_8 Φ8 sz8 st8 hp8 hs8 => ?_)
            obtain ⟨⟨rfl, h_27⟩, hq8, hI9, hF9⟩ := hp8
            subst sz8
            replace hs8 : st8 = [] := hs8
            subst st8
            replace hI9 : In G x (ca) Φ8 := hI9
            refine z_aload_n B dX8_sendPending_153 rfl 8 rfl ?_
            refine z_lconst (v := 0) B dX8_sendPending_154 rfl ?_
            refine z_iconst (v := 2) B dX8_sendPending_155 rfl ?_
            refine z_callV (As := [.long 0, .int 2]) (rest := []) B (s_X5_putL G l Φ8 sz x (ca) (i_7 + 2) (48 + 2 * i_6) 0 2 hx hI9 (kd_q (show i_6 < 13 by omega)) h_27 (show 2 ≤ 8 by omega) (by have h9 := cap_q (k := 48 + 2 * i_6) (by omega) (by omega); omega)) (cwV 2 B.1.2.2.2.2 gX8_sendPending_X5_put rfl rfl rfl (by decide +kernel) ⟨Nat.le_of_ble_eq_true rfl, Nat.le_of_ble_eq_true rfl⟩) h_27 rfl rfl rfl rfl (Nat.le_of_ble_eq_true rfl) dX8_sendPending_156 ⟨Nat.le_of_ble_eq_true rfl, Nat.le_of_ble_eq_true rfl⟩ (fun r_9 Φ9 sz9 st9 hp9 hs9 => ?_)
            obtain ⟨⟨rfl, h_28⟩, hq9, hI10, hF10⟩ := hp9
            subst sz9
            replace hs9 : st9 = [] := hs9
            subst st9
            replace hI10 : In G x (ca) Φ9 := hI10
            refine z_aload_n B dX8_sendPending_159 rfl 8 rfl ?_
            refine z_aload_n B dX8_sendPending_160 rfl 9 rfl ?_
            have h_29 : Φ9 (x + 74) = some (o_ 10 [.ref (x + 3), .ref (x + 46), .ref (x + 75), .ref (x + 77), .int (nI pn), .ref (x + 78), .ref (x + 79), .int i_10, .long i_11, .int i_12]) := ((hF10 (x + 74) (fun j9 h8 h7 => by have h6 : j9 = (48 + 2 * i_6) ∨ j9 = (48 + 2 * i_6) + 1 := h7; omega)).trans ((hF9 (x + 74) (fun j9 h8 h7 => by have h6 : j9 = (48 + 2 * i_6) ∨ j9 = (48 + 2 * i_6) + 1 := h7; omega)).trans ((hF8 (x + 74) (fun j9 h8 h7 => (show False from h7).elim)).trans h_24)))
            refine z_get (ref := "FlowExporter$Sender") (C := RX8) (T := TX8) (N := 10) (ci := 10) (v := .ref (x + 75)) B hu_X8_sendPending_X8 rfl 2 (Nat.le_of_ble_eq_true rfl) hv_X8_sendPending_14 rfl h_29 rfl dX8_sendPending_161 ?_
            refine z_iload B dX8_sendPending_164 6 rfl ?_
            refine z_iload B dX8_sendPending_166 3 rfl ?_
            have hp9 := plN_mono (c := c) (P := P) (i := i_1 + 1) pn (by omega)
            have hp8 : plN c P (i_1 + 1) = plN c P i_1 + rlN c (P i_1) := rfl
            have h_30 : Φ9 (x + 75) = some (o_ 7 [.ref (x + 76), .int (nI pl)]) := ((hF10 (x + 75) (fun j9 h8 h7 => by have h6 : j9 = (48 + 2 * i_6) ∨ j9 = (48 + 2 * i_6) + 1 := h7; omega)).trans ((hF9 (x + 75) (fun j9 h8 h7 => by have h6 : j9 = (48 + 2 * i_6) ∨ j9 = (48 + 2 * i_6) + 1 := h7; omega)).trans ((hF8 (x + 75) (fun j9 h8 h7 => (show False from h7).elim)).trans ((hF7 (x + 75) (fun j9 h8 h7 => (show False from h7).elim)).trans b_15))))
            refine z_callV (As := [.ref (x + 75), .int (nI i_2), .int (nI (rlN c (P i_1)))]) (rest := []) B (s_X5_putFromL G l Φ9 sz x (ca) ((i_7 + 2) + 2) pl (48 + 2 * i_6) 75 i_2 (rlN c (P i_1)) hx hI10 (kd_q (show i_6 < 13 by omega)) rfl h_28 h_30 (by have h9 := cap_q (k := 48 + 2 * i_6) (by omega) (by omega); omega) (show i_2 + (rlN c (P i_1)) ≤ pl by omega) (show pl ≤ cap 75 by omega)) (cwV 3 B.1.2.2.2.2 gX8_sendPending_X5_putFrom rfl rfl rfl (by decide +kernel) ⟨Nat.le_of_ble_eq_true rfl, Nat.le_of_ble_eq_true rfl⟩) h_28 rfl rfl rfl rfl (Nat.le_of_ble_eq_true rfl) dX8_sendPending_168 ⟨Nat.le_of_ble_eq_true rfl, Nat.le_of_ble_eq_true rfl⟩ (fun r_10 Φ10 sz10 st10 hp10 hs10 => ?_)
            obtain ⟨⟨rfl, h_31⟩, hq10, hI11, hF11⟩ := hp10
            subst sz10
            replace hs10 : st10 = [] := hs10
            subst st10
            replace hI11 : In G x (ca) Φ10 := hI11
            refine z_aload_n B dX8_sendPending_171 rfl 8 rfl ?_
            refine z_iload B dX8_sendPending_172 0 rfl ?_
            refine z_iconst (v := 2) B dX8_sendPending_174 rfl ?_
            refine z_iadd B dX8_sendPending_175 ?_
            refine z_top (st1 := [.int (nI (i_7 + 2)), .ref (x + (48 + 2 * i_6))]) (congrArg (fun w9 : Int32 => ([.int w9, .ref (x + (48 + 2 * i_6))] : List Value)) (nI_add i_7 2)) ?_
            refine z_aload_n B dX8_sendPending_176 rfl 8 rfl ?_
            refine z_get (ref := "FlowExporter$Message") (C := RX5) (T := TX5) (N := 2) (ci := 7) (v := .int (nI (((i_7 + 2) + 2) + (rlN c (P i_1))))) B hu_X8_sendPending_X5 rfl 1 (Nat.le_of_ble_eq_true rfl) hv_X8_sendPending_61 rfl h_31 rfl dX8_sendPending_177 ?_
            refine z_iload B dX8_sendPending_180 0 rfl ?_
            refine z_isub B dX8_sendPending_182 ?_
            refine z_fi (fun v_7 => ?_)
            refine z_i2l (v := v_7.toInt64) B dX8_sendPending_183 rfl ?_
            refine z_fl (fun v_8 => ?_)
            refine z_iconst (v := 2) B dX8_sendPending_184 rfl ?_
            refine z_callV (As := [.int (nI (i_7 + 2)), .long v_8, .int 2]) (rest := []) B (s_X5_putAt G l Φ10 sz x (ca) (48 + 2 * i_6) (nI (i_7 + 2)) v_8 2 hx hI11 (kd_q (show i_6 < 13 by omega)) (show 2 ≤ 8 by omega)) (cwV 3 B.1.2.2.2.2 gX8_sendPending_X5_putAt rfl rfl rfl (by decide +kernel) ⟨Nat.le_of_ble_eq_true rfl, Nat.le_of_ble_eq_true rfl⟩) h_31 rfl rfl rfl rfl (Nat.le_of_ble_eq_true rfl) dX8_sendPending_185 ⟨Nat.le_of_ble_eq_true rfl, Nat.le_of_ble_eq_true rfl⟩ (fun r_11 Φ11 sz11 st11 hp11 hs11 => ?_)
            obtain ⟨rfl, hq11, hI12, hF12⟩ := hp11
            subst sz11
            replace hs11 : st11 = [] := hs11
            subst st11
            replace hI12 : In G x (ca) Φ11 := hI12
            refine z_iload B dX8_sendPending_188 6 rfl ?_
            refine z_iload B dX8_sendPending_190 3 rfl ?_
            refine z_iadd B dX8_sendPending_192 ?_
            refine z_top (st1 := [.int (nI (i_2 + rlN c (P i_1)))]) (congrArg (fun w9 : Int32 => ([.int w9] : List Value)) (nI_add i_2 (rlN c (P i_1)))) ?_
            refine z_istore (lv' := [(6, .int (nI (i_2 + rlN c (P i_1)))), (5, .int (nI i_7)), (4, .int (nI (P i_1))), (10, .int (nI (rlN c (P i_1) + 4))), (9, .int (nI (rlN c (P i_1)))), (8, .int (nI (P i_1))), (7, .int (nI i_1)), (3, .int (nI i_5)), (2, .ref (x + (48 + 2 * i_6))), (0, .ref (x + 74)), (1, .int b)]) B dX8_sendPending_193 (Nat.le_of_ble_eq_true rfl) rfl ?_
            refine z_iinc (k := 7) (v := nI (i_5 + 1)) (lv' := [(3, .int (nI (i_5 + 1))), (6, .int (nI (i_2 + rlN c (P i_1)))), (5, .int (nI i_7)), (4, .int (nI (P i_1))), (10, .int (nI (rlN c (P i_1) + 4))), (9, .int (nI (rlN c (P i_1)))), (8, .int (nI (P i_1))), (7, .int (nI i_1)), (2, .ref (x + (48 + 2 * i_6))), (0, .ref (x + 74)), (1, .int b)]) B dX8_sendPending_195 rfl (nI_add i_5 1) (Nat.le_of_ble_eq_true rfl) rfl ?_
            refine z_iinc (k := 7) (v := nI (i_1 + 1)) (lv' := [(7, .int (nI (i_1 + 1))), (3, .int (nI (i_5 + 1))), (6, .int (nI (i_2 + rlN c (P i_1)))), (5, .int (nI i_7)), (4, .int (nI (P i_1))), (10, .int (nI (rlN c (P i_1) + 4))), (9, .int (nI (rlN c (P i_1)))), (8, .int (nI (P i_1))), (2, .ref (x + (48 + 2 * i_6))), (0, .ref (x + 74)), (1, .int b)]) B dX8_sendPending_198 rfl (nI_add i_1 1) (Nat.le_of_ble_eq_true rfl) rfl ?_
            refine z_goto (tgt := 28) B dX8_sendPending_201 rfl ?_
            have hcg8 : QbR G x i_13 i_14 i_15 qp Φ11 := (QbR.frw (QbR.frw (QbR.frw (QbR.frw (QbR.frw (QbR.frw b_13 hF7 (fun j9 h7 => (show False from h7).elim)) hF8 (fun j9 h7 => (show False from h7).elim)) hF9 (fun j9 h7 => by have h6 : j9 = (48 + 2 * i_6) ∨ j9 = (48 + 2 * i_6) + 1 := h7; omega)) hF10 (fun j9 h7 => by have h6 : j9 = (48 + 2 * i_6) ∨ j9 = (48 + 2 * i_6) + 1 := h7; omega)) hF11 (fun j9 h7 => by have h6 : j9 = (48 + 2 * i_6) ∨ j9 = (48 + 2 * i_6) + 1 := h7; omega)) hF12 (fun j9 h7 => by have h6 : j9 = (48 + 2 * i_6) + 1 := h7; omega))
            refine z_lv [0, 2, 3, 4, 1, 8, 9, 10] rfl ?_
            have h_32 : Φ11 (x + (48 + 2 * i_6)) = some (o_ 7 [.ref (x + (48 + 2 * i_6 + 1)), .int (nI (((i_7 + 2) + 2) + (rlN c (P i_1))))]) := ((hF12 (x + (48 + 2 * i_6)) (fun j9 h8 h7 => by have h6 : j9 = (48 + 2 * i_6) + 1 := h7; omega)).trans h_31)
            have hcg9 : CfA G x t s c Φ11 := (CfA.fr (CfA.fr (CfA.fr (CfA.fr (CfA.fr hcg7 hF8 (fun j9 h7 => (show False from h7).elim)) hF9 (fun j9 h7 => by have h6 : j9 = (48 + 2 * i_6) ∨ j9 = (48 + 2 * i_6) + 1 := h7; intros; omega)) hF10 (fun j9 h7 => by have h6 : j9 = (48 + 2 * i_6) ∨ j9 = (48 + 2 * i_6) + 1 := h7; intros; omega)) hF11 (fun j9 h7 => by have h6 : j9 = (48 + 2 * i_6) ∨ j9 = (48 + 2 * i_6) + 1 := h7; intros; omega)) hF12 (fun j9 h7 => by have h6 : j9 = (48 + 2 * i_6) + 1 := h7; intros; omega))
            have h_33 : Φ11 (x + 74) = some (o_ 10 [.ref (x + 3), .ref (x + 46), .ref (x + 75), .ref (x + 77), .int (nI pn), .ref (x + 78), .ref (x + 79), .int i_10, .long i_11, .int i_12]) := ((hF12 (x + 74) (fun j9 h8 h7 => by have h6 : j9 = (48 + 2 * i_6) + 1 := h7; omega)).trans ((hF11 (x + 74) (fun j9 h8 h7 => by have h6 : j9 = (48 + 2 * i_6) ∨ j9 = (48 + 2 * i_6) + 1 := h7; omega)).trans h_29))
            have h_34 : Φ11 (x + 75) = some (o_ 7 [.ref (x + 76), .int (nI pl)]) := ((hF12 (x + 75) (fun j9 h8 h7 => by have h6 : j9 = (48 + 2 * i_6) + 1 := h7; omega)).trans ((hF11 (x + 75) (fun j9 h8 h7 => by have h6 : j9 = (48 + 2 * i_6) ∨ j9 = (48 + 2 * i_6) + 1 := h7; omega)).trans h_30))
            have h_35 : Φ11 (x + 77) = some (ai_ G 12 fp) := ((hF12 (x + 77) (fun j9 h8 h7 => by have h6 : j9 = (48 + 2 * i_6) + 1 := h7; omega)).trans ((hF11 (x + 77) (fun j9 h8 h7 => by have h6 : j9 = (48 + 2 * i_6) ∨ j9 = (48 + 2 * i_6) + 1 := h7; omega)).trans ((hF10 (x + 77) (fun j9 h8 h7 => by have h6 : j9 = (48 + 2 * i_6) ∨ j9 = (48 + 2 * i_6) + 1 := h7; omega)).trans ((hF9 (x + 77) (fun j9 h8 h7 => by have h6 : j9 = (48 + 2 * i_6) ∨ j9 = (48 + 2 * i_6) + 1 := h7; omega)).trans ((hF8 (x + 77) (fun j9 h8 h7 => (show False from h7).elim)).trans ((hF7 (x + 77) (fun j9 h8 h7 => (show False from h7).elim)).trans b_16))))))
            have h_36 : Φ11 (x + 78) = some (ai_ G 4 i_8) := ((hF12 (x + 78) (fun j9 h8 h7 => by have h6 : j9 = (48 + 2 * i_6) + 1 := h7; omega)).trans ((hF11 (x + 78) (fun j9 h8 h7 => by have h6 : j9 = (48 + 2 * i_6) ∨ j9 = (48 + 2 * i_6) + 1 := h7; omega)).trans ((hF10 (x + 78) (fun j9 h8 h7 => by have h6 : j9 = (48 + 2 * i_6) ∨ j9 = (48 + 2 * i_6) + 1 := h7; omega)).trans ((hF9 (x + 78) (fun j9 h8 h7 => by have h6 : j9 = (48 + 2 * i_6) ∨ j9 = (48 + 2 * i_6) + 1 := h7; omega)).trans ((hF8 (x + 78) (fun j9 h8 h7 => (show False from h7).elim)).trans ((hF7 (x + 78) (fun j9 h8 h7 => (show False from h7).elim)).trans b_17))))))
            have h_37 : Φ11 (x + 79) = some (ai_ G 4 i_9) := ((hF12 (x + 79) (fun j9 h8 h7 => by have h6 : j9 = (48 + 2 * i_6) + 1 := h7; omega)).trans ((hF11 (x + 79) (fun j9 h8 h7 => by have h6 : j9 = (48 + 2 * i_6) ∨ j9 = (48 + 2 * i_6) + 1 := h7; omega)).trans ((hF10 (x + 79) (fun j9 h8 h7 => by have h6 : j9 = (48 + 2 * i_6) ∨ j9 = (48 + 2 * i_6) + 1 := h7; omega)).trans ((hF9 (x + 79) (fun j9 h8 h7 => by have h6 : j9 = (48 + 2 * i_6) ∨ j9 = (48 + 2 * i_6) + 1 := h7; omega)).trans ((hF8 (x + 79) (fun j9 h8 h7 => (show False from h7).elim)).trans ((hF7 (x + 79) (fun j9 h8 h7 => (show False from h7).elim)).trans b_18))))))
            exact ih1 (i_1 + 1, i_2 + rlN c (P i_1), nI i_7, nI (P i_1), i_5 + 1, i_6, ((i_7 + 2) + 2) + (rlN c (P i_1)), i_8, i_9, i_10, i_11, i_12, i_13, i_14, i_15) Φ11 (show 12 - (i_1 + 1) < 12 - i_1 by omega) ⟨hI12, (fun b9 h9 => ((hF12 b9 (fun j9 h8 h7 => h9 j9 h8 (show 46 ≤ j9 ∧ j9 < 80 by have h6 : j9 = (48 + 2 * i_6) + 1 := h7; omega))).trans ((hF11 b9 (fun j9 h8 h7 => h9 j9 h8 (show 46 ≤ j9 ∧ j9 < 80 by have h6 : j9 = (48 + 2 * i_6) ∨ j9 = (48 + 2 * i_6) + 1 := h7; omega))).trans ((hF10 b9 (fun j9 h8 h7 => h9 j9 h8 (show 46 ≤ j9 ∧ j9 < 80 by have h6 : j9 = (48 + 2 * i_6) ∨ j9 = (48 + 2 * i_6) + 1 := h7; omega))).trans ((hF9 b9 (fun j9 h8 h7 => h9 j9 h8 (show 46 ≤ j9 ∧ j9 < 80 by have h6 : j9 = (48 + 2 * i_6) ∨ j9 = (48 + 2 * i_6) + 1 := h7; omega))).trans ((hF8 b9 (fun j9 h8 h7 => (show False from h7).elim)).trans ((hF7 b9 (fun j9 h8 h7 => (show False from h7).elim)).trans ((hF2 b9 h9).trans rfl)))))))), (show (i_1 + 1) ≤ pn by omega), (show (i_5 + 1) ≤ (i_1 + 1) by omega), (show i_6 < 13 by omega), (show (i_2 + rlN c (P i_1)) = plN c P (i_1 + 1) by omega), (show i_6 = qp i_13 by omega), (show (((i_7 + 2) + 2) + (rlN c (P i_1))) ≤ 600 by omega), (show 16 ≤ (((i_7 + 2) + 2) + (rlN c (P i_1))) by omega), (show i_13 ≤ 12 by omega), (rcs_f b_10 hf9 (by rw [← hm9]; omega) rfl), h_32, hcg9, hcg8, h_33, h_34, h_35, h_36, h_37, trivial⟩
          · have hm9 : rlN c (P i_1) + 4 = moN c (P i_1) i_4 := (moN_n (fun h9 => c_4 h9.symm)).symm
            have ho9 := ovN_i (z := (i_5, (i_8, i_9, i_10, i_11, i_12), (i_13, i_14, i_15))) hr73 hr72 (congrArg (fun w9 : Nat => i_7 + w9) hm9) (by omega)
            have hf9 := Classical.byContradiction (fun q9 => c_5 (ho9.mpr q9))
            refine z_aload_n B dX8_sendPending_107 rfl 9 rfl ?_
            refine z_aload_n B dX8_sendPending_108 rfl 8 rfl ?_
            refine z_iload_n B dX8_sendPending_109 rfl 7 rfl ?_
            have h_38 : Φ7 (x + 74) = some (o_ 10 [.ref (x + 3), .ref (x + 46), .ref (x + 75), .ref (x + 77), .int (nI pn), .ref (x + 78), .ref (x + 79), .int i_10, .long i_11, .int i_12]) := ((hF8 (x + 74) (fun j9 h8 h7 => (show False from h7).elim)).trans h_24)
            have h_39 : Φ7 (x + (48 + 2 * i_6)) = some (o_ 7 [.ref (x + (48 + 2 * i_6 + 1)), .int (nI i_7)]) := ((hF8 (x + (48 + 2 * i_6)) (fun j9 h8 h7 => (show False from h7).elim)).trans h_23)
            have hcg10 : QbR G x i_13 i_14 i_15 qp Φ7 := (QbR.frw (QbR.frw b_13 hF7 (fun j9 h7 => (show False from h7).elim)) hF8 (fun j9 h7 => (show False from h7).elim))
            refine z_callV (As := [.ref (x + (48 + 2 * i_6)), .int (nI i_5)]) (rest := []) B (s_X8_endMessageX G l Φ7 sz x (ca) pn i_10 i_11 i_12 i_13 i_14 i_15 qp i_7 (48 + 2 * i_6) i_5 hx hI8 (kd_q (show i_6 < 13 by omega)) h_38 h_39 hcg10 (show 48 ≤ (48 + 2 * i_6) by omega) (show (48 + 2 * i_6) < 73 by omega) (show (48 + 2 * i_6) = 48 + 2 * qp i_13 by omega) (show i_7 ≤ 600 by omega) (show pn ≤ 12 by omega)) (cwV 2 B.1.2.2.2.2 gX8_sendPending_X8_endMessage rfl rfl rfl (by decide +kernel) ⟨Nat.le_of_ble_eq_true rfl, Nat.le_of_ble_eq_true rfl⟩) h_38 rfl rfl rfl rfl (Nat.le_of_ble_eq_true rfl) dX8_sendPending_110 ⟨Nat.le_of_ble_eq_true rfl, Nat.le_of_ble_eq_true rfl⟩ (fun r_12 Φ12 sz12 st12 hp12 hs12 => ?_)
            obtain ⟨⟨n_4, f_6, v_9, rfl, h_40, hcg11, e_12⟩, hq12, hI13, hF13⟩ := hp12
            subst sz12
            replace hs12 : st12 = [] := hs12
            subst st12
            replace hI13 : In G x (ca) Φ12 := hI13
            replace e_12 : enQ i_7 (i_13, i_14, i_15) = (n_4, f_6, v_9) := e_12
            refine z_aload_n B dX8_sendPending_113 rfl 9 rfl ?_
            refine z_iload_n B dX8_sendPending_114 rfl 10 rfl ?_
            have h_41 : Φ12 (x + 78) = some (ai_ G 4 i_8) := ((hF13 (x + 78) (fun j9 h8 h7 => by have h6 : j9 = (48 + 2 * i_6) + 1 ∨ (j9 = 46 ∨ j9 = 74) := h7; omega)).trans ((hF8 (x + 78) (fun j9 h8 h7 => (show False from h7).elim)).trans ((hF7 (x + 78) (fun j9 h8 h7 => (show False from h7).elim)).trans b_17)))
            have h_42 : Φ12 (x + 79) = some (ai_ G 4 i_9) := ((hF13 (x + 79) (fun j9 h8 h7 => by have h6 : j9 = (48 + 2 * i_6) + 1 ∨ (j9 = 46 ∨ j9 = 74) := h7; omega)).trans ((hF8 (x + 79) (fun j9 h8 h7 => (show False from h7).elim)).trans ((hF7 (x + 79) (fun j9 h8 h7 => (show False from h7).elim)).trans b_18)))
            have hcg12 : CfA G x t s c Φ12 := (CfA.fr (CfA.fr hcg7 hF8 (fun j9 h7 => (show False from h7).elim)) hF13 (fun j9 h7 => by have h6 : j9 = (48 + 2 * i_6) + 1 ∨ (j9 = 46 ∨ j9 = 74) := h7; intros; omega))
            refine z_callV (As := [.int b]) (rest := []) B (s_X8_beginMessageX G l Φ12 sz x (ca) pn (i_10 + 1) (i_11 + (nI i_5).toInt64) (i_12 + nI i_5) i_8 i_9 t s c n_4 f_6 v_9 qp b hx hI13 h_40 h_41 h_42 hcg12 hcg11 hg (show pn ≤ 12 by omega)) (cwV 1 B.1.2.2.2.2 gX8_sendPending_X8_beginMessage rfl rfl rfl (by decide +kernel) ⟨Nat.le_of_ble_eq_true rfl, Nat.le_of_ble_eq_true rfl⟩) h_40 rfl rfl rfl rfl (Nat.le_of_ble_eq_true rfl) dX8_sendPending_115 ⟨Nat.le_of_ble_eq_true rfl, Nat.le_of_ble_eq_true rfl⟩ (fun r_13 Φ13 sz13 st13 hp13 hs13 => ?_)
            obtain ⟨⟨n_5, f_7, f_8, rfl, h_43, h_44, h_45, h_46, hcg13, e_13, e_14, e_15⟩, hq13, hI14, hF14⟩ := hp13
            subst sz13
            replace hs13 : st13 = [.ref (x + (48 + 2 * qp n_4))] := hs13
            subst st13
            replace hI14 : In G x (ca) Φ13 := hI14
            replace e_13 : bgS c b (i_8, i_9, i_10 + 1, i_11 + (nI i_5).toInt64, i_12 + nI i_5) = (n_5, f_7, f_8, i_10 + 1, i_11 + (nI i_5).toInt64, i_12 + nI i_5) := e_13
            replace e_14 : 16 ≤ n_5 := e_14
            replace e_15 : n_5 ≤ 180 := e_15
            refine z_astore_n (lv' := [(2, .ref (x + (48 + 2 * qp n_4))), (10, .int (nI (rlN c (P i_1) + 4))), (9, .int (nI (rlN c (P i_1)))), (8, .int (nI (P i_1))), (7, .int (nI i_1)), (6, .int (nI i_2)), (5, .int i_3), (4, .int i_4), (3, .int (nI i_5)), (0, .ref (x + 74)), (1, .int b)]) B dX8_sendPending_118 rfl (Nat.le_of_ble_eq_true rfl) rfl ?_
            refine z_iconst (v := 0) B dX8_sendPending_119 rfl ?_
            refine z_istore_n (lv' := [(3, .int 0), (2, .ref (x + (48 + 2 * qp n_4))), (10, .int (nI (rlN c (P i_1) + 4))), (9, .int (nI (rlN c (P i_1)))), (8, .int (nI (P i_1))), (7, .int (nI i_1)), (6, .int (nI i_2)), (5, .int i_3), (4, .int i_4), (0, .ref (x + 74)), (1, .int b)]) B dX8_sendPending_120 rfl (Nat.le_of_ble_eq_true rfl) rfl ?_
            refine z_iconst (v := (-1)) B dX8_sendPending_121 rfl ?_
            refine z_istore (lv' := [(4, .int (-1)), (3, .int 0), (2, .ref (x + (48 + 2 * qp n_4))), (10, .int (nI (rlN c (P i_1) + 4))), (9, .int (nI (rlN c (P i_1)))), (8, .int (nI (P i_1))), (7, .int (nI i_1)), (6, .int (nI i_2)), (5, .int i_3), (0, .ref (x + 74)), (1, .int b)]) B dX8_sendPending_122 (Nat.le_of_ble_eq_true rfl) rfl ?_
            refine z_iload B dX8_sendPending_124 5 rfl ?_
            refine z_iload B dX8_sendPending_126 0 rfl ?_
            refine z_icmp_eq (tgt := 159) B dX8_sendPending_128 rfl (fun h9 => absurd h9 (nI_nm1x (n := P i_1) (by omega))) (fun c_7 => ?_)
            refine z_iload B dX8_sendPending_131 5 rfl ?_
            refine z_istore (lv' := [(4, .int (nI (P i_1))), (3, .int 0), (2, .ref (x + (48 + 2 * qp n_4))), (10, .int (nI (rlN c (P i_1) + 4))), (9, .int (nI (rlN c (P i_1)))), (8, .int (nI (P i_1))), (7, .int (nI i_1)), (6, .int (nI i_2)), (5, .int i_3), (0, .ref (x + 74)), (1, .int b)]) B dX8_sendPending_133 (Nat.le_of_ble_eq_true rfl) rfl ?_
            refine z_aload_n B dX8_sendPending_135 rfl 2 rfl ?_
            refine z_get (ref := "FlowExporter$Message") (C := RX5) (T := TX5) (N := 2) (ci := 7) (v := .int (nI n_5)) B hu_X8_sendPending_X5 rfl 1 (Nat.le_of_ble_eq_true rfl) hv_X8_sendPending_61 rfl h_43 rfl dX8_sendPending_136 ?_
            refine z_istore (lv' := [(5, .int (nI n_5)), (4, .int (nI (P i_1))), (3, .int 0), (2, .ref (x + (48 + 2 * qp n_4))), (10, .int (nI (rlN c (P i_1) + 4))), (9, .int (nI (rlN c (P i_1)))), (8, .int (nI (P i_1))), (7, .int (nI i_1)), (6, .int (nI i_2)), (0, .ref (x + 74)), (1, .int b)]) B dX8_sendPending_139 (Nat.le_of_ble_eq_true rfl) rfl ?_
            refine z_aload_n B dX8_sendPending_141 rfl 3 rfl ?_
            refine z_sipush (v := 256) B dX8_sendPending_142 rfl ?_
            refine z_iload B dX8_sendPending_145 6 rfl ?_
            refine z_iadd B dX8_sendPending_147 ?_
            refine z_top (st1 := [.int (nI (256 + P i_1)), .ref (x + (48 + 2 * qp n_4))]) (congrArg (fun w9 : Int32 => ([.int w9, .ref (x + (48 + 2 * qp n_4))] : List Value)) (nI_add 256 (P i_1))) ?_
            refine z_i2l (v := (nI (256 + P i_1)).toInt64) B dX8_sendPending_148 rfl ?_
            refine z_fl (fun v_10 => ?_)
            refine z_iconst (v := 2) B dX8_sendPending_149 rfl ?_
            refine z_callV (As := [.long v_10, .int 2]) (rest := []) B (s_X5_putL G l Φ13 sz x (ca) n_5 (48 + 2 * qp n_4) v_10 2 hx hI14 (kd_q (QbR.lt hcg11 (show n_4 < 13 by omega))) h_43 (show 2 ≤ 8 by omega) (by have h9 := cap_q (k := 48 + 2 * qp n_4) (by omega) (by omega); omega)) (cwV 2 B.1.2.2.2.2 gX8_sendPending_X5_put rfl rfl rfl (by decide +kernel) ⟨Nat.le_of_ble_eq_true rfl, Nat.le_of_ble_eq_true rfl⟩) h_43 rfl rfl rfl rfl (Nat.le_of_ble_eq_true rfl) dX8_sendPending_150 ⟨Nat.le_of_ble_eq_true rfl, Nat.le_of_ble_eq_true rfl⟩ (fun r_14 Φ14 sz14 st14 hp14 hs14 => ?_)
            obtain ⟨⟨rfl, h_47⟩, hq14, hI15, hF15⟩ := hp14
            subst sz14
            replace hs14 : st14 = [] := hs14
            subst st14
            replace hI15 : In G x (ca) Φ14 := hI15
            refine z_aload_n B dX8_sendPending_153 rfl 3 rfl ?_
            refine z_lconst (v := 0) B dX8_sendPending_154 rfl ?_
            refine z_iconst (v := 2) B dX8_sendPending_155 rfl ?_
            refine z_callV (As := [.long 0, .int 2]) (rest := []) B (s_X5_putL G l Φ14 sz x (ca) (n_5 + 2) (48 + 2 * qp n_4) 0 2 hx hI15 (kd_q (QbR.lt hcg11 (show n_4 < 13 by omega))) h_47 (show 2 ≤ 8 by omega) (by have h9 := cap_q (k := 48 + 2 * qp n_4) (by omega) (by omega); omega)) (cwV 2 B.1.2.2.2.2 gX8_sendPending_X5_put rfl rfl rfl (by decide +kernel) ⟨Nat.le_of_ble_eq_true rfl, Nat.le_of_ble_eq_true rfl⟩) h_47 rfl rfl rfl rfl (Nat.le_of_ble_eq_true rfl) dX8_sendPending_156 ⟨Nat.le_of_ble_eq_true rfl, Nat.le_of_ble_eq_true rfl⟩ (fun r_15 Φ15 sz15 st15 hp15 hs15 => ?_)
            obtain ⟨⟨rfl, h_48⟩, hq15, hI16, hF16⟩ := hp15
            subst sz15
            replace hs15 : st15 = [] := hs15
            subst st15
            replace hI16 : In G x (ca) Φ15 := hI16
            refine z_aload_n B dX8_sendPending_159 rfl 3 rfl ?_
            refine z_aload_n B dX8_sendPending_160 rfl 9 rfl ?_
            have h_49 : Φ15 (x + 74) = some (o_ 10 [.ref (x + 3), .ref (x + 46), .ref (x + 75), .ref (x + 77), .int (nI pn), .ref (x + 78), .ref (x + 79), .int (i_10 + 1), .long (i_11 + (nI i_5).toInt64), .int (i_12 + nI i_5)]) := ((hF16 (x + 74) (fun j9 h8 h7 => by have h6 : j9 = (48 + 2 * qp n_4) ∨ j9 = (48 + 2 * qp n_4) + 1 := h7; omega)).trans ((hF15 (x + 74) (fun j9 h8 h7 => by have h6 : j9 = (48 + 2 * qp n_4) ∨ j9 = (48 + 2 * qp n_4) + 1 := h7; omega)).trans h_46))
            refine z_get (ref := "FlowExporter$Sender") (C := RX8) (T := TX8) (N := 10) (ci := 10) (v := .ref (x + 75)) B hu_X8_sendPending_X8 rfl 2 (Nat.le_of_ble_eq_true rfl) hv_X8_sendPending_14 rfl h_49 rfl dX8_sendPending_161 ?_
            refine z_iload B dX8_sendPending_164 8 rfl ?_
            refine z_iload B dX8_sendPending_166 5 rfl ?_
            have hp9 := plN_mono (c := c) (P := P) (i := i_1 + 1) pn (by omega)
            have hp8 : plN c P (i_1 + 1) = plN c P i_1 + rlN c (P i_1) := rfl
            have h_50 : Φ15 (x + 75) = some (o_ 7 [.ref (x + 76), .int (nI pl)]) := ((hF16 (x + 75) (fun j9 h8 h7 => by have h6 : j9 = (48 + 2 * qp n_4) ∨ j9 = (48 + 2 * qp n_4) + 1 := h7; omega)).trans ((hF15 (x + 75) (fun j9 h8 h7 => by have h6 : j9 = (48 + 2 * qp n_4) ∨ j9 = (48 + 2 * qp n_4) + 1 := h7; omega)).trans ((hF14 (x + 75) (fun j9 h8 h7 => by have h6 : (j9 = 48 + 2 * qp n_4 ∨ j9 = 48 + 2 * qp n_4 + 1) ∨ (j9 = 78 ∨ j9 = 79) := h7; omega)).trans ((hF13 (x + 75) (fun j9 h8 h7 => by have h6 : j9 = (48 + 2 * i_6) + 1 ∨ (j9 = 46 ∨ j9 = 74) := h7; omega)).trans ((hF8 (x + 75) (fun j9 h8 h7 => (show False from h7).elim)).trans ((hF7 (x + 75) (fun j9 h8 h7 => (show False from h7).elim)).trans b_15))))))
            refine z_callV (As := [.ref (x + 75), .int (nI i_2), .int (nI (rlN c (P i_1)))]) (rest := []) B (s_X5_putFromL G l Φ15 sz x (ca) ((n_5 + 2) + 2) pl (48 + 2 * qp n_4) 75 i_2 (rlN c (P i_1)) hx hI16 (kd_q (QbR.lt hcg11 (show n_4 < 13 by omega))) rfl h_48 h_50 (by have h9 := cap_q (k := 48 + 2 * qp n_4) (by omega) (by omega); omega) (show i_2 + (rlN c (P i_1)) ≤ pl by omega) (show pl ≤ cap 75 by omega)) (cwV 3 B.1.2.2.2.2 gX8_sendPending_X5_putFrom rfl rfl rfl (by decide +kernel) ⟨Nat.le_of_ble_eq_true rfl, Nat.le_of_ble_eq_true rfl⟩) h_48 rfl rfl rfl rfl (Nat.le_of_ble_eq_true rfl) dX8_sendPending_168 ⟨Nat.le_of_ble_eq_true rfl, Nat.le_of_ble_eq_true rfl⟩ (fun r_16 Φ16 sz16 st16 hp16 hs16 => ?_)
            obtain ⟨⟨rfl, h_51⟩, hq16, hI17, hF17⟩ := hp16
            subst sz16
            replace hs16 : st16 = [] := hs16
            subst st16
            replace hI17 : In G x (ca) Φ16 := hI17
            refine z_aload_n B dX8_sendPending_171 rfl 3 rfl ?_
            refine z_iload B dX8_sendPending_172 0 rfl ?_
            refine z_iconst (v := 2) B dX8_sendPending_174 rfl ?_
            refine z_iadd B dX8_sendPending_175 ?_
            refine z_top (st1 := [.int (nI (n_5 + 2)), .ref (x + (48 + 2 * qp n_4))]) (congrArg (fun w9 : Int32 => ([.int w9, .ref (x + (48 + 2 * qp n_4))] : List Value)) (nI_add n_5 2)) ?_
            refine z_aload_n B dX8_sendPending_176 rfl 3 rfl ?_
            refine z_get (ref := "FlowExporter$Message") (C := RX5) (T := TX5) (N := 2) (ci := 7) (v := .int (nI (((n_5 + 2) + 2) + (rlN c (P i_1))))) B hu_X8_sendPending_X5 rfl 1 (Nat.le_of_ble_eq_true rfl) hv_X8_sendPending_61 rfl h_51 rfl dX8_sendPending_177 ?_
            refine z_iload B dX8_sendPending_180 0 rfl ?_
            refine z_isub B dX8_sendPending_182 ?_
            refine z_fi (fun v_11 => ?_)
            refine z_i2l (v := v_11.toInt64) B dX8_sendPending_183 rfl ?_
            refine z_fl (fun v_12 => ?_)
            refine z_iconst (v := 2) B dX8_sendPending_184 rfl ?_
            refine z_callV (As := [.int (nI (n_5 + 2)), .long v_12, .int 2]) (rest := []) B (s_X5_putAt G l Φ16 sz x (ca) (48 + 2 * qp n_4) (nI (n_5 + 2)) v_12 2 hx hI17 (kd_q (QbR.lt hcg11 (show n_4 < 13 by omega))) (show 2 ≤ 8 by omega)) (cwV 3 B.1.2.2.2.2 gX8_sendPending_X5_putAt rfl rfl rfl (by decide +kernel) ⟨Nat.le_of_ble_eq_true rfl, Nat.le_of_ble_eq_true rfl⟩) h_51 rfl rfl rfl rfl (Nat.le_of_ble_eq_true rfl) dX8_sendPending_185 ⟨Nat.le_of_ble_eq_true rfl, Nat.le_of_ble_eq_true rfl⟩ (fun r_17 Φ17 sz17 st17 hp17 hs17 => ?_)
            obtain ⟨rfl, hq17, hI18, hF18⟩ := hp17
            subst sz17
            replace hs17 : st17 = [] := hs17
            subst st17
            replace hI18 : In G x (ca) Φ17 := hI18
            refine z_iload B dX8_sendPending_188 8 rfl ?_
            refine z_iload B dX8_sendPending_190 5 rfl ?_
            refine z_iadd B dX8_sendPending_192 ?_
            refine z_top (st1 := [.int (nI (i_2 + rlN c (P i_1)))]) (congrArg (fun w9 : Int32 => ([.int w9] : List Value)) (nI_add i_2 (rlN c (P i_1)))) ?_
            refine z_istore (lv' := [(6, .int (nI (i_2 + rlN c (P i_1)))), (5, .int (nI n_5)), (4, .int (nI (P i_1))), (3, .int 0), (2, .ref (x + (48 + 2 * qp n_4))), (10, .int (nI (rlN c (P i_1) + 4))), (9, .int (nI (rlN c (P i_1)))), (8, .int (nI (P i_1))), (7, .int (nI i_1)), (0, .ref (x + 74)), (1, .int b)]) B dX8_sendPending_193 (Nat.le_of_ble_eq_true rfl) rfl ?_
            refine z_iinc (k := 3) (v := 1) (lv' := [(3, .int 1), (6, .int (nI (i_2 + rlN c (P i_1)))), (5, .int (nI n_5)), (4, .int (nI (P i_1))), (2, .ref (x + (48 + 2 * qp n_4))), (10, .int (nI (rlN c (P i_1) + 4))), (9, .int (nI (rlN c (P i_1)))), (8, .int (nI (P i_1))), (7, .int (nI i_1)), (0, .ref (x + 74)), (1, .int b)]) B dX8_sendPending_195 rfl rfl (Nat.le_of_ble_eq_true rfl) rfl ?_
            refine z_iinc (k := 8) (v := nI (i_1 + 1)) (lv' := [(7, .int (nI (i_1 + 1))), (3, .int 1), (6, .int (nI (i_2 + rlN c (P i_1)))), (5, .int (nI n_5)), (4, .int (nI (P i_1))), (2, .ref (x + (48 + 2 * qp n_4))), (10, .int (nI (rlN c (P i_1) + 4))), (9, .int (nI (rlN c (P i_1)))), (8, .int (nI (P i_1))), (0, .ref (x + 74)), (1, .int b)]) B dX8_sendPending_198 rfl (nI_add i_1 1) (Nat.le_of_ble_eq_true rfl) rfl ?_
            refine z_goto (tgt := 28) B dX8_sendPending_201 rfl ?_
            have hcg14 : QbR G x n_4 f_6 v_9 qp Φ17 := (QbR.frw (QbR.frw (QbR.frw (QbR.frw hcg13 hF15 (fun j9 h7 => by have h6 : j9 = (48 + 2 * qp n_4) ∨ j9 = (48 + 2 * qp n_4) + 1 := h7; omega)) hF16 (fun j9 h7 => by have h6 : j9 = (48 + 2 * qp n_4) ∨ j9 = (48 + 2 * qp n_4) + 1 := h7; omega)) hF17 (fun j9 h7 => by have h6 : j9 = (48 + 2 * qp n_4) ∨ j9 = (48 + 2 * qp n_4) + 1 := h7; omega)) hF18 (fun j9 h7 => by have h6 : j9 = (48 + 2 * qp n_4) + 1 := h7; omega))
            refine z_lv [0, 2, 3, 4, 1, 5, 9, 10] rfl ?_
            have h_52 : Φ17 (x + (48 + 2 * qp n_4)) = some (o_ 7 [.ref (x + (48 + 2 * qp n_4 + 1)), .int (nI (((n_5 + 2) + 2) + (rlN c (P i_1))))]) := ((hF18 (x + (48 + 2 * qp n_4)) (fun j9 h8 h7 => by have h6 : j9 = (48 + 2 * qp n_4) + 1 := h7; omega)).trans h_51)
            have hcg15 : CfA G x t s c Φ17 := (CfA.fr (CfA.fr (CfA.fr (CfA.fr (CfA.fr hcg12 hF14 (fun j9 h7 => by have h6 : (j9 = 48 + 2 * qp n_4 ∨ j9 = 48 + 2 * qp n_4 + 1) ∨ (j9 = 78 ∨ j9 = 79) := h7; intros; omega)) hF15 (fun j9 h7 => by have h6 : j9 = (48 + 2 * qp n_4) ∨ j9 = (48 + 2 * qp n_4) + 1 := h7; intros; omega)) hF16 (fun j9 h7 => by have h6 : j9 = (48 + 2 * qp n_4) ∨ j9 = (48 + 2 * qp n_4) + 1 := h7; intros; omega)) hF17 (fun j9 h7 => by have h6 : j9 = (48 + 2 * qp n_4) ∨ j9 = (48 + 2 * qp n_4) + 1 := h7; intros; omega)) hF18 (fun j9 h7 => by have h6 : j9 = (48 + 2 * qp n_4) + 1 := h7; intros; omega))
            have h_53 : Φ17 (x + 74) = some (o_ 10 [.ref (x + 3), .ref (x + 46), .ref (x + 75), .ref (x + 77), .int (nI pn), .ref (x + 78), .ref (x + 79), .int (i_10 + 1), .long (i_11 + (nI i_5).toInt64), .int (i_12 + nI i_5)]) := ((hF18 (x + 74) (fun j9 h8 h7 => by have h6 : j9 = (48 + 2 * qp n_4) + 1 := h7; omega)).trans ((hF17 (x + 74) (fun j9 h8 h7 => by have h6 : j9 = (48 + 2 * qp n_4) ∨ j9 = (48 + 2 * qp n_4) + 1 := h7; omega)).trans h_49))
            have h_54 : Φ17 (x + 75) = some (o_ 7 [.ref (x + 76), .int (nI pl)]) := ((hF18 (x + 75) (fun j9 h8 h7 => by have h6 : j9 = (48 + 2 * qp n_4) + 1 := h7; omega)).trans ((hF17 (x + 75) (fun j9 h8 h7 => by have h6 : j9 = (48 + 2 * qp n_4) ∨ j9 = (48 + 2 * qp n_4) + 1 := h7; omega)).trans h_50))
            have h_55 : Φ17 (x + 77) = some (ai_ G 12 fp) := ((hF18 (x + 77) (fun j9 h8 h7 => by have h6 : j9 = (48 + 2 * qp n_4) + 1 := h7; omega)).trans ((hF17 (x + 77) (fun j9 h8 h7 => by have h6 : j9 = (48 + 2 * qp n_4) ∨ j9 = (48 + 2 * qp n_4) + 1 := h7; omega)).trans ((hF16 (x + 77) (fun j9 h8 h7 => by have h6 : j9 = (48 + 2 * qp n_4) ∨ j9 = (48 + 2 * qp n_4) + 1 := h7; omega)).trans ((hF15 (x + 77) (fun j9 h8 h7 => by have h6 : j9 = (48 + 2 * qp n_4) ∨ j9 = (48 + 2 * qp n_4) + 1 := h7; omega)).trans ((hF14 (x + 77) (fun j9 h8 h7 => by have h6 : (j9 = 48 + 2 * qp n_4 ∨ j9 = 48 + 2 * qp n_4 + 1) ∨ (j9 = 78 ∨ j9 = 79) := h7; omega)).trans ((hF13 (x + 77) (fun j9 h8 h7 => by have h6 : j9 = (48 + 2 * i_6) + 1 ∨ (j9 = 46 ∨ j9 = 74) := h7; omega)).trans ((hF8 (x + 77) (fun j9 h8 h7 => (show False from h7).elim)).trans ((hF7 (x + 77) (fun j9 h8 h7 => (show False from h7).elim)).trans b_16))))))))
            have h_56 : Φ17 (x + 78) = some (ai_ G 4 f_7) := ((hF18 (x + 78) (fun j9 h8 h7 => by have h6 : j9 = (48 + 2 * qp n_4) + 1 := h7; omega)).trans ((hF17 (x + 78) (fun j9 h8 h7 => by have h6 : j9 = (48 + 2 * qp n_4) ∨ j9 = (48 + 2 * qp n_4) + 1 := h7; omega)).trans ((hF16 (x + 78) (fun j9 h8 h7 => by have h6 : j9 = (48 + 2 * qp n_4) ∨ j9 = (48 + 2 * qp n_4) + 1 := h7; omega)).trans ((hF15 (x + 78) (fun j9 h8 h7 => by have h6 : j9 = (48 + 2 * qp n_4) ∨ j9 = (48 + 2 * qp n_4) + 1 := h7; omega)).trans h_44))))
            have h_57 : Φ17 (x + 79) = some (ai_ G 4 f_8) := ((hF18 (x + 79) (fun j9 h8 h7 => by have h6 : j9 = (48 + 2 * qp n_4) + 1 := h7; omega)).trans ((hF17 (x + 79) (fun j9 h8 h7 => by have h6 : j9 = (48 + 2 * qp n_4) ∨ j9 = (48 + 2 * qp n_4) + 1 := h7; omega)).trans ((hF16 (x + 79) (fun j9 h8 h7 => by have h6 : j9 = (48 + 2 * qp n_4) ∨ j9 = (48 + 2 * qp n_4) + 1 := h7; omega)).trans ((hF15 (x + 79) (fun j9 h8 h7 => by have h6 : j9 = (48 + 2 * qp n_4) ∨ j9 = (48 + 2 * qp n_4) + 1 := h7; omega)).trans h_45))))
            exact ih1 (i_1 + 1, i_2 + rlN c (P i_1), nI n_5, nI (P i_1), 1, qp n_4, ((n_5 + 2) + 2) + (rlN c (P i_1)), f_7, f_8, i_10 + 1, i_11 + (nI i_5).toInt64, i_12 + nI i_5, n_4, f_6, v_9) Φ17 (show 12 - (i_1 + 1) < 12 - i_1 by omega) ⟨hI18, (fun b9 h9 => ((hF18 b9 (fun j9 h8 h7 => h9 j9 h8 (show 46 ≤ j9 ∧ j9 < 80 by have h6 : j9 = (48 + 2 * qp n_4) + 1 := h7; omega))).trans ((hF17 b9 (fun j9 h8 h7 => h9 j9 h8 (show 46 ≤ j9 ∧ j9 < 80 by have h6 : j9 = (48 + 2 * qp n_4) ∨ j9 = (48 + 2 * qp n_4) + 1 := h7; omega))).trans ((hF16 b9 (fun j9 h8 h7 => h9 j9 h8 (show 46 ≤ j9 ∧ j9 < 80 by have h6 : j9 = (48 + 2 * qp n_4) ∨ j9 = (48 + 2 * qp n_4) + 1 := h7; omega))).trans ((hF15 b9 (fun j9 h8 h7 => h9 j9 h8 (show 46 ≤ j9 ∧ j9 < 80 by have h6 : j9 = (48 + 2 * qp n_4) ∨ j9 = (48 + 2 * qp n_4) + 1 := h7; omega))).trans ((hF14 b9 (fun j9 h8 h7 => h9 j9 h8 (show 46 ≤ j9 ∧ j9 < 80 by have h6 : (j9 = 48 + 2 * qp n_4 ∨ j9 = 48 + 2 * qp n_4 + 1) ∨ (j9 = 78 ∨ j9 = 79) := h7; omega))).trans ((hF13 b9 (fun j9 h8 h7 => h9 j9 h8 (show 46 ≤ j9 ∧ j9 < 80 by have h6 : j9 = (48 + 2 * i_6) + 1 ∨ (j9 = 46 ∨ j9 = 74) := h7; omega))).trans ((hF8 b9 (fun j9 h8 h7 => (show False from h7).elim)).trans ((hF7 b9 (fun j9 h8 h7 => (show False from h7).elim)).trans ((hF2 b9 h9).trans rfl)))))))))), (show (i_1 + 1) ≤ pn by omega), (show 1 ≤ (i_1 + 1) by omega), (show (qp n_4) < 13 by omega), (show (i_2 + rlN c (P i_1)) = plN c P (i_1 + 1) by omega), (show (qp n_4) = qp n_4 by omega), (show (((n_5 + 2) + 2) + (rlN c (P i_1))) ≤ 600 by omega), (show 16 ≤ (((n_5 + 2) + 2) + (rlN c (P i_1))) by omega), (show n_4 ≤ 12 by omega), (rcs_o b_10 hf9 hP9 e_13 e_12 (by omega) rfl), h_52, hcg15, hcg14, h_53, h_54, h_55, h_56, h_57, trivial⟩
        · refine z_iload B dX8_sendPending_77 0 rfl ?_
          refine z_goto (tgt := 86) B dX8_sendPending_79 rfl ?_
          refine z_istore (lv' := [(10, .int (nI (rlN c (P i_1)))), (9, .int (nI (rlN c (P i_1)))), (8, .int (nI (P i_1))), (7, .int (nI i_1)), (6, .int (nI i_2)), (5, .int i_3), (4, .int i_4), (3, .int (nI i_5)), (2, .ref (x + (48 + 2 * i_6))), (0, .ref (x + 74)), (1, .int b)]) B dX8_sendPending_86 (Nat.le_of_ble_eq_true rfl) rfl ?_
          refine z_aload_n B dX8_sendPending_88 rfl 8 rfl ?_
          have h_58 : Φ6 (x + (48 + 2 * i_6)) = some (o_ 7 [.ref (x + (48 + 2 * i_6 + 1)), .int (nI i_7)]) := ((hF7 (x + (48 + 2 * i_6)) (fun j9 h8 h7 => (show False from h7).elim)).trans b_11)
          refine z_get (ref := "FlowExporter$Message") (C := RX5) (T := TX5) (N := 2) (ci := 7) (v := .int (nI i_7)) B hu_X8_sendPending_X5 rfl 1 (Nat.le_of_ble_eq_true rfl) hv_X8_sendPending_61 rfl h_58 rfl dX8_sendPending_89 ?_
          refine z_iload B dX8_sendPending_92 0 rfl ?_
          refine z_iadd B dX8_sendPending_94 ?_
          refine z_top (st1 := [.int (nI (i_7 + rlN c (P i_1)))]) (congrArg (fun w9 : Int32 => ([.int w9] : List Value)) (nI_add i_7 (rlN c (P i_1)))) ?_
          refine z_aload_n B dX8_sendPending_95 rfl 9 rfl ?_
          have h_59 : Φ6 (x + 74) = some (o_ 10 [.ref (x + 3), .ref (x + 46), .ref (x + 75), .ref (x + 77), .int (nI pn), .ref (x + 78), .ref (x + 79), .int i_10, .long i_11, .int i_12]) := ((hF7 (x + 74) (fun j9 h8 h7 => (show False from h7).elim)).trans b_14)
          refine z_get (ref := "FlowExporter$Sender") (C := RX8) (T := TX8) (N := 10) (ci := 10) (v := .ref (x + 3)) B hu_X8_sendPending_X8 rfl 0 (Nat.le_of_ble_eq_true rfl) hv_X8_sendPending_44 rfl h_59 rfl dX8_sendPending_96 ?_
          refine z_bipush (v := 7) B dX8_sendPending_99 rfl ?_
          have h_60 : Φ6 (x + 3) = some (o_ 3 [.ref (x + 4), .ref (x + 5), .ref (x + 6), .ref (x + 7), .int v_3, .int v_4]) := ((hF7 (x + 3) (fun j9 h8 h7 => (show False from h7).elim)).trans h_20)
          refine z_callV (As := [.int 7]) (rest := [.int (nI (i_7 + rlN c (P i_1)))]) B (s_X1_getX G l Φ6 sz x (ca) t s c 7 hx hI7 hcg7 (show 7 < 9 by omega)) (cwV 1 B.1.2.2.2.2 gX8_sendPending_X1_get rfl rfl rfl (by decide +kernel) ⟨Nat.le_of_ble_eq_true rfl, Nat.le_of_ble_eq_true rfl⟩) h_60 rfl rfl rfl rfl (Nat.le_of_ble_eq_true rfl) dX8_sendPending_101 ⟨Nat.le_of_ble_eq_true rfl, Nat.le_of_ble_eq_true rfl⟩ (fun r_18 Φ18 sz18 st18 hp18 hs18 => ?_)
          obtain ⟨rfl, hq18, hI19, hF19⟩ := hp18
          subst sz18
          replace hs18 : st18 = [.int (c 7), .int (nI (i_7 + rlN c (P i_1)))] := hs18
          subst st18
          replace hI19 : In G x (ca) Φ18 := hI19
          refine z_icmp_le (tgt := 124) B dX8_sendPending_104 rfl (fun c_8 => ?_) (fun c_8 => ?_)
          · have hm9 : rlN c (P i_1) = moN c (P i_1) i_4 := (moN_y c_4.symm).symm
            have ho9 := ovN_i (z := (i_5, (i_8, i_9, i_10, i_11, i_12), (i_13, i_14, i_15))) hr73 hr72 (congrArg (fun w9 : Nat => i_7 + w9) hm9) (by omega)
            have hf9 := ho9.mp c_8
            have hl9 : i_7 + (rlN c (P i_1)) ≤ 600 := by
              have h9 := c_8
              rw [hr73] at h9
              have h8 := (nI_leI (a := i_7 + (rlN c (P i_1))) (b := r7) (by omega) (by omega)).mp h9
              omega
            refine z_iload B dX8_sendPending_124 2 rfl ?_
            refine z_iload B dX8_sendPending_126 6 rfl ?_
            refine z_icmp_eq (tgt := 159) B dX8_sendPending_128 rfl (fun c_9 => ?_) (fun h9 => absurd c_4 h9)
            refine z_aload_n B dX8_sendPending_159 rfl 8 rfl ?_
            refine z_aload_n B dX8_sendPending_160 rfl 9 rfl ?_
            have h_61 : Φ18 (x + 74) = some (o_ 10 [.ref (x + 3), .ref (x + 46), .ref (x + 75), .ref (x + 77), .int (nI pn), .ref (x + 78), .ref (x + 79), .int i_10, .long i_11, .int i_12]) := ((hF19 (x + 74) (fun j9 h8 h7 => (show False from h7).elim)).trans h_59)
            refine z_get (ref := "FlowExporter$Sender") (C := RX8) (T := TX8) (N := 10) (ci := 10) (v := .ref (x + 75)) B hu_X8_sendPending_X8 rfl 2 (Nat.le_of_ble_eq_true rfl) hv_X8_sendPending_14 rfl h_61 rfl dX8_sendPending_161 ?_
            refine z_iload B dX8_sendPending_164 4 rfl ?_
            refine z_iload B dX8_sendPending_166 1 rfl ?_
            have hp9 := plN_mono (c := c) (P := P) (i := i_1 + 1) pn (by omega)
            have hp8 : plN c P (i_1 + 1) = plN c P i_1 + rlN c (P i_1) := rfl
            have h_62 : Φ18 (x + (48 + 2 * i_6)) = some (o_ 7 [.ref (x + (48 + 2 * i_6 + 1)), .int (nI i_7)]) := ((hF19 (x + (48 + 2 * i_6)) (fun j9 h8 h7 => (show False from h7).elim)).trans h_58)
            have h_63 : Φ18 (x + 75) = some (o_ 7 [.ref (x + 76), .int (nI pl)]) := ((hF19 (x + 75) (fun j9 h8 h7 => (show False from h7).elim)).trans ((hF7 (x + 75) (fun j9 h8 h7 => (show False from h7).elim)).trans b_15))
            refine z_callV (As := [.ref (x + 75), .int (nI i_2), .int (nI (rlN c (P i_1)))]) (rest := []) B (s_X5_putFromL G l Φ18 sz x (ca) i_7 pl (48 + 2 * i_6) 75 i_2 (rlN c (P i_1)) hx hI19 (kd_q (show i_6 < 13 by omega)) rfl h_62 h_63 (by have h9 := cap_q (k := 48 + 2 * i_6) (by omega) (by omega); omega) (show i_2 + (rlN c (P i_1)) ≤ pl by omega) (show pl ≤ cap 75 by omega)) (cwV 3 B.1.2.2.2.2 gX8_sendPending_X5_putFrom rfl rfl rfl (by decide +kernel) ⟨Nat.le_of_ble_eq_true rfl, Nat.le_of_ble_eq_true rfl⟩) h_62 rfl rfl rfl rfl (Nat.le_of_ble_eq_true rfl) dX8_sendPending_168 ⟨Nat.le_of_ble_eq_true rfl, Nat.le_of_ble_eq_true rfl⟩ (fun r_19 Φ19 sz19 st19 hp19 hs19 => ?_)
            obtain ⟨⟨rfl, h_64⟩, hq19, hI20, hF20⟩ := hp19
            subst sz19
            replace hs19 : st19 = [] := hs19
            subst st19
            replace hI20 : In G x (ca) Φ19 := hI20
            refine z_aload_n B dX8_sendPending_171 rfl 8 rfl ?_
            refine z_iload B dX8_sendPending_172 5 rfl ?_
            refine z_iconst (v := 2) B dX8_sendPending_174 rfl ?_
            refine z_iadd B dX8_sendPending_175 ?_
            refine z_fi (fun v_13 => ?_)
            refine z_aload_n B dX8_sendPending_176 rfl 8 rfl ?_
            refine z_get (ref := "FlowExporter$Message") (C := RX5) (T := TX5) (N := 2) (ci := 7) (v := .int (nI (i_7 + (rlN c (P i_1))))) B hu_X8_sendPending_X5 rfl 1 (Nat.le_of_ble_eq_true rfl) hv_X8_sendPending_61 rfl h_64 rfl dX8_sendPending_177 ?_
            refine z_iload B dX8_sendPending_180 5 rfl ?_
            refine z_isub B dX8_sendPending_182 ?_
            refine z_fi (fun v_14 => ?_)
            refine z_i2l (v := v_14.toInt64) B dX8_sendPending_183 rfl ?_
            refine z_fl (fun v_15 => ?_)
            refine z_iconst (v := 2) B dX8_sendPending_184 rfl ?_
            refine z_callV (As := [.int v_13, .long v_15, .int 2]) (rest := []) B (s_X5_putAt G l Φ19 sz x (ca) (48 + 2 * i_6) v_13 v_15 2 hx hI20 (kd_q (show i_6 < 13 by omega)) (show 2 ≤ 8 by omega)) (cwV 3 B.1.2.2.2.2 gX8_sendPending_X5_putAt rfl rfl rfl (by decide +kernel) ⟨Nat.le_of_ble_eq_true rfl, Nat.le_of_ble_eq_true rfl⟩) h_64 rfl rfl rfl rfl (Nat.le_of_ble_eq_true rfl) dX8_sendPending_185 ⟨Nat.le_of_ble_eq_true rfl, Nat.le_of_ble_eq_true rfl⟩ (fun r_20 Φ20 sz20 st20 hp20 hs20 => ?_)
            obtain ⟨rfl, hq20, hI21, hF21⟩ := hp20
            subst sz20
            replace hs20 : st20 = [] := hs20
            subst st20
            replace hI21 : In G x (ca) Φ20 := hI21
            refine z_iload B dX8_sendPending_188 4 rfl ?_
            refine z_iload B dX8_sendPending_190 1 rfl ?_
            refine z_iadd B dX8_sendPending_192 ?_
            refine z_top (st1 := [.int (nI (i_2 + rlN c (P i_1)))]) (congrArg (fun w9 : Int32 => ([.int w9] : List Value)) (nI_add i_2 (rlN c (P i_1)))) ?_
            refine z_istore (lv' := [(6, .int (nI (i_2 + rlN c (P i_1)))), (10, .int (nI (rlN c (P i_1)))), (9, .int (nI (rlN c (P i_1)))), (8, .int (nI (P i_1))), (7, .int (nI i_1)), (5, .int i_3), (4, .int i_4), (3, .int (nI i_5)), (2, .ref (x + (48 + 2 * i_6))), (0, .ref (x + 74)), (1, .int b)]) B dX8_sendPending_193 (Nat.le_of_ble_eq_true rfl) rfl ?_
            refine z_iinc (k := 7) (v := nI (i_5 + 1)) (lv' := [(3, .int (nI (i_5 + 1))), (6, .int (nI (i_2 + rlN c (P i_1)))), (10, .int (nI (rlN c (P i_1)))), (9, .int (nI (rlN c (P i_1)))), (8, .int (nI (P i_1))), (7, .int (nI i_1)), (5, .int i_3), (4, .int i_4), (2, .ref (x + (48 + 2 * i_6))), (0, .ref (x + 74)), (1, .int b)]) B dX8_sendPending_195 rfl (nI_add i_5 1) (Nat.le_of_ble_eq_true rfl) rfl ?_
            refine z_iinc (k := 5) (v := nI (i_1 + 1)) (lv' := [(7, .int (nI (i_1 + 1))), (3, .int (nI (i_5 + 1))), (6, .int (nI (i_2 + rlN c (P i_1)))), (10, .int (nI (rlN c (P i_1)))), (9, .int (nI (rlN c (P i_1)))), (8, .int (nI (P i_1))), (5, .int i_3), (4, .int i_4), (2, .ref (x + (48 + 2 * i_6))), (0, .ref (x + 74)), (1, .int b)]) B dX8_sendPending_198 rfl (nI_add i_1 1) (Nat.le_of_ble_eq_true rfl) rfl ?_
            refine z_goto (tgt := 28) B dX8_sendPending_201 rfl ?_
            have hcg16 : QbR G x i_13 i_14 i_15 qp Φ20 := (QbR.frw (QbR.frw (QbR.frw (QbR.frw b_13 hF7 (fun j9 h7 => (show False from h7).elim)) hF19 (fun j9 h7 => (show False from h7).elim)) hF20 (fun j9 h7 => by have h6 : j9 = (48 + 2 * i_6) ∨ j9 = (48 + 2 * i_6) + 1 := h7; omega)) hF21 (fun j9 h7 => by have h6 : j9 = (48 + 2 * i_6) + 1 := h7; omega))
            refine z_lv [0, 2, 6, 7, 1, 8, 9, 10] rfl ?_
            have h_65 : Φ20 (x + (48 + 2 * i_6)) = some (o_ 7 [.ref (x + (48 + 2 * i_6 + 1)), .int (nI (i_7 + (rlN c (P i_1))))]) := ((hF21 (x + (48 + 2 * i_6)) (fun j9 h8 h7 => by have h6 : j9 = (48 + 2 * i_6) + 1 := h7; omega)).trans h_64)
            have hcg17 : CfA G x t s c Φ20 := (CfA.fr (CfA.fr (CfA.fr hcg7 hF19 (fun j9 h7 => (show False from h7).elim)) hF20 (fun j9 h7 => by have h6 : j9 = (48 + 2 * i_6) ∨ j9 = (48 + 2 * i_6) + 1 := h7; intros; omega)) hF21 (fun j9 h7 => by have h6 : j9 = (48 + 2 * i_6) + 1 := h7; intros; omega))
            have h_66 : Φ20 (x + 74) = some (o_ 10 [.ref (x + 3), .ref (x + 46), .ref (x + 75), .ref (x + 77), .int (nI pn), .ref (x + 78), .ref (x + 79), .int i_10, .long i_11, .int i_12]) := ((hF21 (x + 74) (fun j9 h8 h7 => by have h6 : j9 = (48 + 2 * i_6) + 1 := h7; omega)).trans ((hF20 (x + 74) (fun j9 h8 h7 => by have h6 : j9 = (48 + 2 * i_6) ∨ j9 = (48 + 2 * i_6) + 1 := h7; omega)).trans h_61))
            have h_67 : Φ20 (x + 75) = some (o_ 7 [.ref (x + 76), .int (nI pl)]) := ((hF21 (x + 75) (fun j9 h8 h7 => by have h6 : j9 = (48 + 2 * i_6) + 1 := h7; omega)).trans ((hF20 (x + 75) (fun j9 h8 h7 => by have h6 : j9 = (48 + 2 * i_6) ∨ j9 = (48 + 2 * i_6) + 1 := h7; omega)).trans h_63))
            have h_68 : Φ20 (x + 77) = some (ai_ G 12 fp) := ((hF21 (x + 77) (fun j9 h8 h7 => by have h6 : j9 = (48 + 2 * i_6) + 1 := h7; omega)).trans ((hF20 (x + 77) (fun j9 h8 h7 => by have h6 : j9 = (48 + 2 * i_6) ∨ j9 = (48 + 2 * i_6) + 1 := h7; omega)).trans ((hF19 (x + 77) (fun j9 h8 h7 => (show False from h7).elim)).trans ((hF7 (x + 77) (fun j9 h8 h7 => (show False from h7).elim)).trans b_16))))
            have h_69 : Φ20 (x + 78) = some (ai_ G 4 i_8) := ((hF21 (x + 78) (fun j9 h8 h7 => by have h6 : j9 = (48 + 2 * i_6) + 1 := h7; omega)).trans ((hF20 (x + 78) (fun j9 h8 h7 => by have h6 : j9 = (48 + 2 * i_6) ∨ j9 = (48 + 2 * i_6) + 1 := h7; omega)).trans ((hF19 (x + 78) (fun j9 h8 h7 => (show False from h7).elim)).trans ((hF7 (x + 78) (fun j9 h8 h7 => (show False from h7).elim)).trans b_17))))
            have h_70 : Φ20 (x + 79) = some (ai_ G 4 i_9) := ((hF21 (x + 79) (fun j9 h8 h7 => by have h6 : j9 = (48 + 2 * i_6) + 1 := h7; omega)).trans ((hF20 (x + 79) (fun j9 h8 h7 => by have h6 : j9 = (48 + 2 * i_6) ∨ j9 = (48 + 2 * i_6) + 1 := h7; omega)).trans ((hF19 (x + 79) (fun j9 h8 h7 => (show False from h7).elim)).trans ((hF7 (x + 79) (fun j9 h8 h7 => (show False from h7).elim)).trans b_18))))
            exact ih1 (i_1 + 1, i_2 + rlN c (P i_1), i_3, i_4, i_5 + 1, i_6, i_7 + (rlN c (P i_1)), i_8, i_9, i_10, i_11, i_12, i_13, i_14, i_15) Φ20 (show 12 - (i_1 + 1) < 12 - i_1 by omega) ⟨hI21, (fun b9 h9 => ((hF21 b9 (fun j9 h8 h7 => h9 j9 h8 (show 46 ≤ j9 ∧ j9 < 80 by have h6 : j9 = (48 + 2 * i_6) + 1 := h7; omega))).trans ((hF20 b9 (fun j9 h8 h7 => h9 j9 h8 (show 46 ≤ j9 ∧ j9 < 80 by have h6 : j9 = (48 + 2 * i_6) ∨ j9 = (48 + 2 * i_6) + 1 := h7; omega))).trans ((hF19 b9 (fun j9 h8 h7 => (show False from h7).elim)).trans ((hF7 b9 (fun j9 h8 h7 => (show False from h7).elim)).trans ((hF2 b9 h9).trans rfl)))))), (show (i_1 + 1) ≤ pn by omega), (show (i_5 + 1) ≤ (i_1 + 1) by omega), (show i_6 < 13 by omega), (show (i_2 + rlN c (P i_1)) = plN c P (i_1 + 1) by omega), (show i_6 = qp i_13 by omega), (show (i_7 + (rlN c (P i_1))) ≤ 600 by omega), (show 16 ≤ (i_7 + (rlN c (P i_1))) by omega), (show i_13 ≤ 12 by omega), (rcs_f b_10 hf9 (by rw [← hm9]; omega) c_4.symm), h_65, hcg17, hcg16, h_66, h_67, h_68, h_69, h_70, trivial⟩
          · have hm9 : rlN c (P i_1) = moN c (P i_1) i_4 := (moN_y c_4.symm).symm
            have ho9 := ovN_i (z := (i_5, (i_8, i_9, i_10, i_11, i_12), (i_13, i_14, i_15))) hr73 hr72 (congrArg (fun w9 : Nat => i_7 + w9) hm9) (by omega)
            have hf9 := Classical.byContradiction (fun q9 => c_8 (ho9.mpr q9))
            refine z_aload_n B dX8_sendPending_107 rfl 9 rfl ?_
            refine z_aload_n B dX8_sendPending_108 rfl 8 rfl ?_
            refine z_iload_n B dX8_sendPending_109 rfl 7 rfl ?_
            have h_71 : Φ18 (x + 74) = some (o_ 10 [.ref (x + 3), .ref (x + 46), .ref (x + 75), .ref (x + 77), .int (nI pn), .ref (x + 78), .ref (x + 79), .int i_10, .long i_11, .int i_12]) := ((hF19 (x + 74) (fun j9 h8 h7 => (show False from h7).elim)).trans h_59)
            have h_72 : Φ18 (x + (48 + 2 * i_6)) = some (o_ 7 [.ref (x + (48 + 2 * i_6 + 1)), .int (nI i_7)]) := ((hF19 (x + (48 + 2 * i_6)) (fun j9 h8 h7 => (show False from h7).elim)).trans h_58)
            have hcg18 : QbR G x i_13 i_14 i_15 qp Φ18 := (QbR.frw (QbR.frw b_13 hF7 (fun j9 h7 => (show False from h7).elim)) hF19 (fun j9 h7 => (show False from h7).elim))
            refine z_callV (As := [.ref (x + (48 + 2 * i_6)), .int (nI i_5)]) (rest := []) B (s_X8_endMessageX G l Φ18 sz x (ca) pn i_10 i_11 i_12 i_13 i_14 i_15 qp i_7 (48 + 2 * i_6) i_5 hx hI19 (kd_q (show i_6 < 13 by omega)) h_71 h_72 hcg18 (show 48 ≤ (48 + 2 * i_6) by omega) (show (48 + 2 * i_6) < 73 by omega) (show (48 + 2 * i_6) = 48 + 2 * qp i_13 by omega) (show i_7 ≤ 600 by omega) (show pn ≤ 12 by omega)) (cwV 2 B.1.2.2.2.2 gX8_sendPending_X8_endMessage rfl rfl rfl (by decide +kernel) ⟨Nat.le_of_ble_eq_true rfl, Nat.le_of_ble_eq_true rfl⟩) h_71 rfl rfl rfl rfl (Nat.le_of_ble_eq_true rfl) dX8_sendPending_110 ⟨Nat.le_of_ble_eq_true rfl, Nat.le_of_ble_eq_true rfl⟩ (fun r_21 Φ21 sz21 st21 hp21 hs21 => ?_)
            obtain ⟨⟨n_6, f_9, v_16, rfl, h_73, hcg19, e_16⟩, hq21, hI22, hF22⟩ := hp21
            subst sz21
            replace hs21 : st21 = [] := hs21
            subst st21
            replace hI22 : In G x (ca) Φ21 := hI22
            replace e_16 : enQ i_7 (i_13, i_14, i_15) = (n_6, f_9, v_16) := e_16
            refine z_aload_n B dX8_sendPending_113 rfl 9 rfl ?_
            refine z_iload_n B dX8_sendPending_114 rfl 10 rfl ?_
            have h_74 : Φ21 (x + 78) = some (ai_ G 4 i_8) := ((hF22 (x + 78) (fun j9 h8 h7 => by have h6 : j9 = (48 + 2 * i_6) + 1 ∨ (j9 = 46 ∨ j9 = 74) := h7; omega)).trans ((hF19 (x + 78) (fun j9 h8 h7 => (show False from h7).elim)).trans ((hF7 (x + 78) (fun j9 h8 h7 => (show False from h7).elim)).trans b_17)))
            have h_75 : Φ21 (x + 79) = some (ai_ G 4 i_9) := ((hF22 (x + 79) (fun j9 h8 h7 => by have h6 : j9 = (48 + 2 * i_6) + 1 ∨ (j9 = 46 ∨ j9 = 74) := h7; omega)).trans ((hF19 (x + 79) (fun j9 h8 h7 => (show False from h7).elim)).trans ((hF7 (x + 79) (fun j9 h8 h7 => (show False from h7).elim)).trans b_18)))
            have hcg20 : CfA G x t s c Φ21 := (CfA.fr (CfA.fr hcg7 hF19 (fun j9 h7 => (show False from h7).elim)) hF22 (fun j9 h7 => by have h6 : j9 = (48 + 2 * i_6) + 1 ∨ (j9 = 46 ∨ j9 = 74) := h7; intros; omega))
            refine z_callV (As := [.int b]) (rest := []) B (s_X8_beginMessageX G l Φ21 sz x (ca) pn (i_10 + 1) (i_11 + (nI i_5).toInt64) (i_12 + nI i_5) i_8 i_9 t s c n_6 f_9 v_16 qp b hx hI22 h_73 h_74 h_75 hcg20 hcg19 hg (show pn ≤ 12 by omega)) (cwV 1 B.1.2.2.2.2 gX8_sendPending_X8_beginMessage rfl rfl rfl (by decide +kernel) ⟨Nat.le_of_ble_eq_true rfl, Nat.le_of_ble_eq_true rfl⟩) h_73 rfl rfl rfl rfl (Nat.le_of_ble_eq_true rfl) dX8_sendPending_115 ⟨Nat.le_of_ble_eq_true rfl, Nat.le_of_ble_eq_true rfl⟩ (fun r_22 Φ22 sz22 st22 hp22 hs22 => ?_)
            obtain ⟨⟨n_7, f_10, f_11, rfl, h_76, h_77, h_78, h_79, hcg21, e_17, e_18, e_19⟩, hq22, hI23, hF23⟩ := hp22
            subst sz22
            replace hs22 : st22 = [.ref (x + (48 + 2 * qp n_6))] := hs22
            subst st22
            replace hI23 : In G x (ca) Φ22 := hI23
            replace e_17 : bgS c b (i_8, i_9, i_10 + 1, i_11 + (nI i_5).toInt64, i_12 + nI i_5) = (n_7, f_10, f_11, i_10 + 1, i_11 + (nI i_5).toInt64, i_12 + nI i_5) := e_17
            replace e_18 : 16 ≤ n_7 := e_18
            replace e_19 : n_7 ≤ 180 := e_19
            refine z_astore_n (lv' := [(2, .ref (x + (48 + 2 * qp n_6))), (10, .int (nI (rlN c (P i_1)))), (9, .int (nI (rlN c (P i_1)))), (8, .int (nI (P i_1))), (7, .int (nI i_1)), (6, .int (nI i_2)), (5, .int i_3), (4, .int i_4), (3, .int (nI i_5)), (0, .ref (x + 74)), (1, .int b)]) B dX8_sendPending_118 rfl (Nat.le_of_ble_eq_true rfl) rfl ?_
            refine z_iconst (v := 0) B dX8_sendPending_119 rfl ?_
            refine z_istore_n (lv' := [(3, .int 0), (2, .ref (x + (48 + 2 * qp n_6))), (10, .int (nI (rlN c (P i_1)))), (9, .int (nI (rlN c (P i_1)))), (8, .int (nI (P i_1))), (7, .int (nI i_1)), (6, .int (nI i_2)), (5, .int i_3), (4, .int i_4), (0, .ref (x + 74)), (1, .int b)]) B dX8_sendPending_120 rfl (Nat.le_of_ble_eq_true rfl) rfl ?_
            refine z_iconst (v := (-1)) B dX8_sendPending_121 rfl ?_
            refine z_istore (lv' := [(4, .int (-1)), (3, .int 0), (2, .ref (x + (48 + 2 * qp n_6))), (10, .int (nI (rlN c (P i_1)))), (9, .int (nI (rlN c (P i_1)))), (8, .int (nI (P i_1))), (7, .int (nI i_1)), (6, .int (nI i_2)), (5, .int i_3), (0, .ref (x + 74)), (1, .int b)]) B dX8_sendPending_122 (Nat.le_of_ble_eq_true rfl) rfl ?_
            refine z_iload B dX8_sendPending_124 5 rfl ?_
            refine z_iload B dX8_sendPending_126 0 rfl ?_
            refine z_icmp_eq (tgt := 159) B dX8_sendPending_128 rfl (fun h9 => absurd h9 (nI_nm1x (n := P i_1) (by omega))) (fun c_10 => ?_)
            refine z_iload B dX8_sendPending_131 5 rfl ?_
            refine z_istore (lv' := [(4, .int (nI (P i_1))), (3, .int 0), (2, .ref (x + (48 + 2 * qp n_6))), (10, .int (nI (rlN c (P i_1)))), (9, .int (nI (rlN c (P i_1)))), (8, .int (nI (P i_1))), (7, .int (nI i_1)), (6, .int (nI i_2)), (5, .int i_3), (0, .ref (x + 74)), (1, .int b)]) B dX8_sendPending_133 (Nat.le_of_ble_eq_true rfl) rfl ?_
            refine z_aload_n B dX8_sendPending_135 rfl 2 rfl ?_
            refine z_get (ref := "FlowExporter$Message") (C := RX5) (T := TX5) (N := 2) (ci := 7) (v := .int (nI n_7)) B hu_X8_sendPending_X5 rfl 1 (Nat.le_of_ble_eq_true rfl) hv_X8_sendPending_61 rfl h_76 rfl dX8_sendPending_136 ?_
            refine z_istore (lv' := [(5, .int (nI n_7)), (4, .int (nI (P i_1))), (3, .int 0), (2, .ref (x + (48 + 2 * qp n_6))), (10, .int (nI (rlN c (P i_1)))), (9, .int (nI (rlN c (P i_1)))), (8, .int (nI (P i_1))), (7, .int (nI i_1)), (6, .int (nI i_2)), (0, .ref (x + 74)), (1, .int b)]) B dX8_sendPending_139 (Nat.le_of_ble_eq_true rfl) rfl ?_
            refine z_aload_n B dX8_sendPending_141 rfl 3 rfl ?_
            refine z_sipush (v := 256) B dX8_sendPending_142 rfl ?_
            refine z_iload B dX8_sendPending_145 6 rfl ?_
            refine z_iadd B dX8_sendPending_147 ?_
            refine z_top (st1 := [.int (nI (256 + P i_1)), .ref (x + (48 + 2 * qp n_6))]) (congrArg (fun w9 : Int32 => ([.int w9, .ref (x + (48 + 2 * qp n_6))] : List Value)) (nI_add 256 (P i_1))) ?_
            refine z_i2l (v := (nI (256 + P i_1)).toInt64) B dX8_sendPending_148 rfl ?_
            refine z_fl (fun v_17 => ?_)
            refine z_iconst (v := 2) B dX8_sendPending_149 rfl ?_
            refine z_callV (As := [.long v_17, .int 2]) (rest := []) B (s_X5_putL G l Φ22 sz x (ca) n_7 (48 + 2 * qp n_6) v_17 2 hx hI23 (kd_q (QbR.lt hcg19 (show n_6 < 13 by omega))) h_76 (show 2 ≤ 8 by omega) (by have h9 := cap_q (k := 48 + 2 * qp n_6) (by omega) (by omega); omega)) (cwV 2 B.1.2.2.2.2 gX8_sendPending_X5_put rfl rfl rfl (by decide +kernel) ⟨Nat.le_of_ble_eq_true rfl, Nat.le_of_ble_eq_true rfl⟩) h_76 rfl rfl rfl rfl (Nat.le_of_ble_eq_true rfl) dX8_sendPending_150 ⟨Nat.le_of_ble_eq_true rfl, Nat.le_of_ble_eq_true rfl⟩ (fun r_23 Φ23 sz23 st23 hp23 hs23 => ?_)
            obtain ⟨⟨rfl, h_80⟩, hq23, hI24, hF24⟩ := hp23
            subst sz23
            replace hs23 : st23 = [] := hs23
            subst st23
            replace hI24 : In G x (ca) Φ23 := hI24
            refine z_aload_n B dX8_sendPending_153 rfl 3 rfl ?_
            refine z_lconst (v := 0) B dX8_sendPending_154 rfl ?_
            refine z_iconst (v := 2) B dX8_sendPending_155 rfl ?_
            refine z_callV (As := [.long 0, .int 2]) (rest := []) B (s_X5_putL G l Φ23 sz x (ca) (n_7 + 2) (48 + 2 * qp n_6) 0 2 hx hI24 (kd_q (QbR.lt hcg19 (show n_6 < 13 by omega))) h_80 (show 2 ≤ 8 by omega) (by have h9 := cap_q (k := 48 + 2 * qp n_6) (by omega) (by omega); omega)) (cwV 2 B.1.2.2.2.2 gX8_sendPending_X5_put rfl rfl rfl (by decide +kernel) ⟨Nat.le_of_ble_eq_true rfl, Nat.le_of_ble_eq_true rfl⟩) h_80 rfl rfl rfl rfl (Nat.le_of_ble_eq_true rfl) dX8_sendPending_156 ⟨Nat.le_of_ble_eq_true rfl, Nat.le_of_ble_eq_true rfl⟩ (fun r_24 Φ24 sz24 st24 hp24 hs24 => ?_)
            obtain ⟨⟨rfl, h_81⟩, hq24, hI25, hF25⟩ := hp24
            subst sz24
            replace hs24 : st24 = [] := hs24
            subst st24
            replace hI25 : In G x (ca) Φ24 := hI25
            refine z_aload_n B dX8_sendPending_159 rfl 3 rfl ?_
            refine z_aload_n B dX8_sendPending_160 rfl 9 rfl ?_
            have h_82 : Φ24 (x + 74) = some (o_ 10 [.ref (x + 3), .ref (x + 46), .ref (x + 75), .ref (x + 77), .int (nI pn), .ref (x + 78), .ref (x + 79), .int (i_10 + 1), .long (i_11 + (nI i_5).toInt64), .int (i_12 + nI i_5)]) := ((hF25 (x + 74) (fun j9 h8 h7 => by have h6 : j9 = (48 + 2 * qp n_6) ∨ j9 = (48 + 2 * qp n_6) + 1 := h7; omega)).trans ((hF24 (x + 74) (fun j9 h8 h7 => by have h6 : j9 = (48 + 2 * qp n_6) ∨ j9 = (48 + 2 * qp n_6) + 1 := h7; omega)).trans h_79))
            refine z_get (ref := "FlowExporter$Sender") (C := RX8) (T := TX8) (N := 10) (ci := 10) (v := .ref (x + 75)) B hu_X8_sendPending_X8 rfl 2 (Nat.le_of_ble_eq_true rfl) hv_X8_sendPending_14 rfl h_82 rfl dX8_sendPending_161 ?_
            refine z_iload B dX8_sendPending_164 8 rfl ?_
            refine z_iload B dX8_sendPending_166 5 rfl ?_
            have hp9 := plN_mono (c := c) (P := P) (i := i_1 + 1) pn (by omega)
            have hp8 : plN c P (i_1 + 1) = plN c P i_1 + rlN c (P i_1) := rfl
            have h_83 : Φ24 (x + 75) = some (o_ 7 [.ref (x + 76), .int (nI pl)]) := ((hF25 (x + 75) (fun j9 h8 h7 => by have h6 : j9 = (48 + 2 * qp n_6) ∨ j9 = (48 + 2 * qp n_6) + 1 := h7; omega)).trans ((hF24 (x + 75) (fun j9 h8 h7 => by have h6 : j9 = (48 + 2 * qp n_6) ∨ j9 = (48 + 2 * qp n_6) + 1 := h7; omega)).trans ((hF23 (x + 75) (fun j9 h8 h7 => by have h6 : (j9 = 48 + 2 * qp n_6 ∨ j9 = 48 + 2 * qp n_6 + 1) ∨ (j9 = 78 ∨ j9 = 79) := h7; omega)).trans ((hF22 (x + 75) (fun j9 h8 h7 => by have h6 : j9 = (48 + 2 * i_6) + 1 ∨ (j9 = 46 ∨ j9 = 74) := h7; omega)).trans ((hF19 (x + 75) (fun j9 h8 h7 => (show False from h7).elim)).trans ((hF7 (x + 75) (fun j9 h8 h7 => (show False from h7).elim)).trans b_15))))))
            refine z_callV (As := [.ref (x + 75), .int (nI i_2), .int (nI (rlN c (P i_1)))]) (rest := []) B (s_X5_putFromL G l Φ24 sz x (ca) ((n_7 + 2) + 2) pl (48 + 2 * qp n_6) 75 i_2 (rlN c (P i_1)) hx hI25 (kd_q (QbR.lt hcg19 (show n_6 < 13 by omega))) rfl h_81 h_83 (by have h9 := cap_q (k := 48 + 2 * qp n_6) (by omega) (by omega); omega) (show i_2 + (rlN c (P i_1)) ≤ pl by omega) (show pl ≤ cap 75 by omega)) (cwV 3 B.1.2.2.2.2 gX8_sendPending_X5_putFrom rfl rfl rfl (by decide +kernel) ⟨Nat.le_of_ble_eq_true rfl, Nat.le_of_ble_eq_true rfl⟩) h_81 rfl rfl rfl rfl (Nat.le_of_ble_eq_true rfl) dX8_sendPending_168 ⟨Nat.le_of_ble_eq_true rfl, Nat.le_of_ble_eq_true rfl⟩ (fun r_25 Φ25 sz25 st25 hp25 hs25 => ?_)
            obtain ⟨⟨rfl, h_84⟩, hq25, hI26, hF26⟩ := hp25
            subst sz25
            replace hs25 : st25 = [] := hs25
            subst st25
            replace hI26 : In G x (ca) Φ25 := hI26
            refine z_aload_n B dX8_sendPending_171 rfl 3 rfl ?_
            refine z_iload B dX8_sendPending_172 0 rfl ?_
            refine z_iconst (v := 2) B dX8_sendPending_174 rfl ?_
            refine z_iadd B dX8_sendPending_175 ?_
            refine z_top (st1 := [.int (nI (n_7 + 2)), .ref (x + (48 + 2 * qp n_6))]) (congrArg (fun w9 : Int32 => ([.int w9, .ref (x + (48 + 2 * qp n_6))] : List Value)) (nI_add n_7 2)) ?_
            refine z_aload_n B dX8_sendPending_176 rfl 3 rfl ?_
            refine z_get (ref := "FlowExporter$Message") (C := RX5) (T := TX5) (N := 2) (ci := 7) (v := .int (nI (((n_7 + 2) + 2) + (rlN c (P i_1))))) B hu_X8_sendPending_X5 rfl 1 (Nat.le_of_ble_eq_true rfl) hv_X8_sendPending_61 rfl h_84 rfl dX8_sendPending_177 ?_
            refine z_iload B dX8_sendPending_180 0 rfl ?_
            refine z_isub B dX8_sendPending_182 ?_
            refine z_fi (fun v_18 => ?_)
            refine z_i2l (v := v_18.toInt64) B dX8_sendPending_183 rfl ?_
            refine z_fl (fun v_19 => ?_)
            refine z_iconst (v := 2) B dX8_sendPending_184 rfl ?_
            refine z_callV (As := [.int (nI (n_7 + 2)), .long v_19, .int 2]) (rest := []) B (s_X5_putAt G l Φ25 sz x (ca) (48 + 2 * qp n_6) (nI (n_7 + 2)) v_19 2 hx hI26 (kd_q (QbR.lt hcg19 (show n_6 < 13 by omega))) (show 2 ≤ 8 by omega)) (cwV 3 B.1.2.2.2.2 gX8_sendPending_X5_putAt rfl rfl rfl (by decide +kernel) ⟨Nat.le_of_ble_eq_true rfl, Nat.le_of_ble_eq_true rfl⟩) h_84 rfl rfl rfl rfl (Nat.le_of_ble_eq_true rfl) dX8_sendPending_185 ⟨Nat.le_of_ble_eq_true rfl, Nat.le_of_ble_eq_true rfl⟩ (fun r_26 Φ26 sz26 st26 hp26 hs26 => ?_)
            obtain ⟨rfl, hq26, hI27, hF27⟩ := hp26
            subst sz26
            replace hs26 : st26 = [] := hs26
            subst st26
            replace hI27 : In G x (ca) Φ26 := hI27
            refine z_iload B dX8_sendPending_188 8 rfl ?_
            refine z_iload B dX8_sendPending_190 5 rfl ?_
            refine z_iadd B dX8_sendPending_192 ?_
            refine z_top (st1 := [.int (nI (i_2 + rlN c (P i_1)))]) (congrArg (fun w9 : Int32 => ([.int w9] : List Value)) (nI_add i_2 (rlN c (P i_1)))) ?_
            refine z_istore (lv' := [(6, .int (nI (i_2 + rlN c (P i_1)))), (5, .int (nI n_7)), (4, .int (nI (P i_1))), (3, .int 0), (2, .ref (x + (48 + 2 * qp n_6))), (10, .int (nI (rlN c (P i_1)))), (9, .int (nI (rlN c (P i_1)))), (8, .int (nI (P i_1))), (7, .int (nI i_1)), (0, .ref (x + 74)), (1, .int b)]) B dX8_sendPending_193 (Nat.le_of_ble_eq_true rfl) rfl ?_
            refine z_iinc (k := 3) (v := 1) (lv' := [(3, .int 1), (6, .int (nI (i_2 + rlN c (P i_1)))), (5, .int (nI n_7)), (4, .int (nI (P i_1))), (2, .ref (x + (48 + 2 * qp n_6))), (10, .int (nI (rlN c (P i_1)))), (9, .int (nI (rlN c (P i_1)))), (8, .int (nI (P i_1))), (7, .int (nI i_1)), (0, .ref (x + 74)), (1, .int b)]) B dX8_sendPending_195 rfl rfl (Nat.le_of_ble_eq_true rfl) rfl ?_
            refine z_iinc (k := 8) (v := nI (i_1 + 1)) (lv' := [(7, .int (nI (i_1 + 1))), (3, .int 1), (6, .int (nI (i_2 + rlN c (P i_1)))), (5, .int (nI n_7)), (4, .int (nI (P i_1))), (2, .ref (x + (48 + 2 * qp n_6))), (10, .int (nI (rlN c (P i_1)))), (9, .int (nI (rlN c (P i_1)))), (8, .int (nI (P i_1))), (0, .ref (x + 74)), (1, .int b)]) B dX8_sendPending_198 rfl (nI_add i_1 1) (Nat.le_of_ble_eq_true rfl) rfl ?_
            refine z_goto (tgt := 28) B dX8_sendPending_201 rfl ?_
            have hcg22 : QbR G x n_6 f_9 v_16 qp Φ26 := (QbR.frw (QbR.frw (QbR.frw (QbR.frw hcg21 hF24 (fun j9 h7 => by have h6 : j9 = (48 + 2 * qp n_6) ∨ j9 = (48 + 2 * qp n_6) + 1 := h7; omega)) hF25 (fun j9 h7 => by have h6 : j9 = (48 + 2 * qp n_6) ∨ j9 = (48 + 2 * qp n_6) + 1 := h7; omega)) hF26 (fun j9 h7 => by have h6 : j9 = (48 + 2 * qp n_6) ∨ j9 = (48 + 2 * qp n_6) + 1 := h7; omega)) hF27 (fun j9 h7 => by have h6 : j9 = (48 + 2 * qp n_6) + 1 := h7; omega))
            refine z_lv [0, 2, 3, 4, 1, 5, 9, 10] rfl ?_
            have h_85 : Φ26 (x + (48 + 2 * qp n_6)) = some (o_ 7 [.ref (x + (48 + 2 * qp n_6 + 1)), .int (nI (((n_7 + 2) + 2) + (rlN c (P i_1))))]) := ((hF27 (x + (48 + 2 * qp n_6)) (fun j9 h8 h7 => by have h6 : j9 = (48 + 2 * qp n_6) + 1 := h7; omega)).trans h_84)
            have hcg23 : CfA G x t s c Φ26 := (CfA.fr (CfA.fr (CfA.fr (CfA.fr (CfA.fr hcg20 hF23 (fun j9 h7 => by have h6 : (j9 = 48 + 2 * qp n_6 ∨ j9 = 48 + 2 * qp n_6 + 1) ∨ (j9 = 78 ∨ j9 = 79) := h7; intros; omega)) hF24 (fun j9 h7 => by have h6 : j9 = (48 + 2 * qp n_6) ∨ j9 = (48 + 2 * qp n_6) + 1 := h7; intros; omega)) hF25 (fun j9 h7 => by have h6 : j9 = (48 + 2 * qp n_6) ∨ j9 = (48 + 2 * qp n_6) + 1 := h7; intros; omega)) hF26 (fun j9 h7 => by have h6 : j9 = (48 + 2 * qp n_6) ∨ j9 = (48 + 2 * qp n_6) + 1 := h7; intros; omega)) hF27 (fun j9 h7 => by have h6 : j9 = (48 + 2 * qp n_6) + 1 := h7; intros; omega))
            have h_86 : Φ26 (x + 74) = some (o_ 10 [.ref (x + 3), .ref (x + 46), .ref (x + 75), .ref (x + 77), .int (nI pn), .ref (x + 78), .ref (x + 79), .int (i_10 + 1), .long (i_11 + (nI i_5).toInt64), .int (i_12 + nI i_5)]) := ((hF27 (x + 74) (fun j9 h8 h7 => by have h6 : j9 = (48 + 2 * qp n_6) + 1 := h7; omega)).trans ((hF26 (x + 74) (fun j9 h8 h7 => by have h6 : j9 = (48 + 2 * qp n_6) ∨ j9 = (48 + 2 * qp n_6) + 1 := h7; omega)).trans h_82))
            have h_87 : Φ26 (x + 75) = some (o_ 7 [.ref (x + 76), .int (nI pl)]) := ((hF27 (x + 75) (fun j9 h8 h7 => by have h6 : j9 = (48 + 2 * qp n_6) + 1 := h7; omega)).trans ((hF26 (x + 75) (fun j9 h8 h7 => by have h6 : j9 = (48 + 2 * qp n_6) ∨ j9 = (48 + 2 * qp n_6) + 1 := h7; omega)).trans h_83))
            have h_88 : Φ26 (x + 77) = some (ai_ G 12 fp) := ((hF27 (x + 77) (fun j9 h8 h7 => by have h6 : j9 = (48 + 2 * qp n_6) + 1 := h7; omega)).trans ((hF26 (x + 77) (fun j9 h8 h7 => by have h6 : j9 = (48 + 2 * qp n_6) ∨ j9 = (48 + 2 * qp n_6) + 1 := h7; omega)).trans ((hF25 (x + 77) (fun j9 h8 h7 => by have h6 : j9 = (48 + 2 * qp n_6) ∨ j9 = (48 + 2 * qp n_6) + 1 := h7; omega)).trans ((hF24 (x + 77) (fun j9 h8 h7 => by have h6 : j9 = (48 + 2 * qp n_6) ∨ j9 = (48 + 2 * qp n_6) + 1 := h7; omega)).trans ((hF23 (x + 77) (fun j9 h8 h7 => by have h6 : (j9 = 48 + 2 * qp n_6 ∨ j9 = 48 + 2 * qp n_6 + 1) ∨ (j9 = 78 ∨ j9 = 79) := h7; omega)).trans ((hF22 (x + 77) (fun j9 h8 h7 => by have h6 : j9 = (48 + 2 * i_6) + 1 ∨ (j9 = 46 ∨ j9 = 74) := h7; omega)).trans ((hF19 (x + 77) (fun j9 h8 h7 => (show False from h7).elim)).trans ((hF7 (x + 77) (fun j9 h8 h7 => (show False from h7).elim)).trans b_16))))))))
            have h_89 : Φ26 (x + 78) = some (ai_ G 4 f_10) := ((hF27 (x + 78) (fun j9 h8 h7 => by have h6 : j9 = (48 + 2 * qp n_6) + 1 := h7; omega)).trans ((hF26 (x + 78) (fun j9 h8 h7 => by have h6 : j9 = (48 + 2 * qp n_6) ∨ j9 = (48 + 2 * qp n_6) + 1 := h7; omega)).trans ((hF25 (x + 78) (fun j9 h8 h7 => by have h6 : j9 = (48 + 2 * qp n_6) ∨ j9 = (48 + 2 * qp n_6) + 1 := h7; omega)).trans ((hF24 (x + 78) (fun j9 h8 h7 => by have h6 : j9 = (48 + 2 * qp n_6) ∨ j9 = (48 + 2 * qp n_6) + 1 := h7; omega)).trans h_77))))
            have h_90 : Φ26 (x + 79) = some (ai_ G 4 f_11) := ((hF27 (x + 79) (fun j9 h8 h7 => by have h6 : j9 = (48 + 2 * qp n_6) + 1 := h7; omega)).trans ((hF26 (x + 79) (fun j9 h8 h7 => by have h6 : j9 = (48 + 2 * qp n_6) ∨ j9 = (48 + 2 * qp n_6) + 1 := h7; omega)).trans ((hF25 (x + 79) (fun j9 h8 h7 => by have h6 : j9 = (48 + 2 * qp n_6) ∨ j9 = (48 + 2 * qp n_6) + 1 := h7; omega)).trans ((hF24 (x + 79) (fun j9 h8 h7 => by have h6 : j9 = (48 + 2 * qp n_6) ∨ j9 = (48 + 2 * qp n_6) + 1 := h7; omega)).trans h_78))))
            exact ih1 (i_1 + 1, i_2 + rlN c (P i_1), nI n_7, nI (P i_1), 1, qp n_6, ((n_7 + 2) + 2) + (rlN c (P i_1)), f_10, f_11, i_10 + 1, i_11 + (nI i_5).toInt64, i_12 + nI i_5, n_6, f_9, v_16) Φ26 (show 12 - (i_1 + 1) < 12 - i_1 by omega) ⟨hI27, (fun b9 h9 => ((hF27 b9 (fun j9 h8 h7 => h9 j9 h8 (show 46 ≤ j9 ∧ j9 < 80 by have h6 : j9 = (48 + 2 * qp n_6) + 1 := h7; omega))).trans ((hF26 b9 (fun j9 h8 h7 => h9 j9 h8 (show 46 ≤ j9 ∧ j9 < 80 by have h6 : j9 = (48 + 2 * qp n_6) ∨ j9 = (48 + 2 * qp n_6) + 1 := h7; omega))).trans ((hF25 b9 (fun j9 h8 h7 => h9 j9 h8 (show 46 ≤ j9 ∧ j9 < 80 by have h6 : j9 = (48 + 2 * qp n_6) ∨ j9 = (48 + 2 * qp n_6) + 1 := h7; omega))).trans ((hF24 b9 (fun j9 h8 h7 => h9 j9 h8 (show 46 ≤ j9 ∧ j9 < 80 by have h6 : j9 = (48 + 2 * qp n_6) ∨ j9 = (48 + 2 * qp n_6) + 1 := h7; omega))).trans ((hF23 b9 (fun j9 h8 h7 => h9 j9 h8 (show 46 ≤ j9 ∧ j9 < 80 by have h6 : (j9 = 48 + 2 * qp n_6 ∨ j9 = 48 + 2 * qp n_6 + 1) ∨ (j9 = 78 ∨ j9 = 79) := h7; omega))).trans ((hF22 b9 (fun j9 h8 h7 => h9 j9 h8 (show 46 ≤ j9 ∧ j9 < 80 by have h6 : j9 = (48 + 2 * i_6) + 1 ∨ (j9 = 46 ∨ j9 = 74) := h7; omega))).trans ((hF19 b9 (fun j9 h8 h7 => (show False from h7).elim)).trans ((hF7 b9 (fun j9 h8 h7 => (show False from h7).elim)).trans ((hF2 b9 h9).trans rfl)))))))))), (show (i_1 + 1) ≤ pn by omega), (show 1 ≤ (i_1 + 1) by omega), (show (qp n_6) < 13 by omega), (show (i_2 + rlN c (P i_1)) = plN c P (i_1 + 1) by omega), (show (qp n_6) = qp n_6 by omega), (show (((n_7 + 2) + 2) + (rlN c (P i_1))) ≤ 600 by omega), (show 16 ≤ (((n_7 + 2) + 2) + (rlN c (P i_1))) by omega), (show n_6 ≤ 12 by omega), (rcs_o b_10 hf9 hP9 e_17 e_16 (by omega) rfl), h_85, hcg23, hcg22, h_86, h_87, h_88, h_89, h_90, trivial⟩
  · have e_20 : pn = 0 := (nI_eq (a := pn) (b := 0) (by omega) (by omega)).mp c_1
    have hn0 : pn = 0 := by omega
    have hp0 : pl = 0 := hpl.trans (congrArg (plN c P) hn0)
    exact z_ret_v B dX8_sendPending_7 ⟨⟨fa, fb, ms, rs, sq, qn, qL, qd, rfl, (hc0.trans (congrArg (fun w9 : Nat => some (o_ 10 [.ref (x + 3), .ref (x + 46), .ref (x + 75), .ref (x + 77), .int (nI w9), .ref (x + 78), .ref (x + 79), .int ms, .long rs, .int sq])) (show pn = 0 by omega))), (hc1.trans (congrArg (fun w9 : Nat => some (o_ 7 [.ref (x + 76), .int (nI w9)])) (show pl = 0 by omega))), hc3, hc4, hcf1, spS_0 hn0⟩, rfl, hI, (fun b9 h9 => rfl)⟩

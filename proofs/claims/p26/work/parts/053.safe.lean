set_option maxHeartbeats 4000000 in
set_option maxRecDepth 100000 in
theorem s_X7_takeOutX (G : EnvG) (l : Launch) (Φ : Hm) (sz x ca : Nat) (qn : Nat) (qL : Nat → Nat) (qd : Int32) (qp : Nat → Nat) (i : Nat) (hx : G.2.2.2 ≤ x) (hI : In G x ca Φ) (hcf0 : QbR G x qn qL qd qp Φ) (hi : i < qn) (hqn : qn ≤ 12) : Ct G l yX7_takeOut wsX7_takeOut ({ frames := 1, cells := 0, slots := 0, locals := 21 }) 0 0 [.ref (x + 46), .int (nI i)] Φ sz (fun v Φ1 sz1 => (v = some (.ref (x + (48 + 2 * qp i))) ∧ QbR G x (qn - 1) (rmL qL i) qd (shP qp qn i) Φ1) ∧ sz1 = sz ∧ In G x (ca) Φ1 ∧ Fr x (fun j9 => j9 = 46 ∨ j9 = 47) Φ Φ1) := by
  refine Ct.of (cc := cX7_takeOut) (maxL := 4) (ret := (some (.object "FlowExporter$Message"))) (by decide) rfl (Nat.le_of_ble_eq_true rfl) ?_
  intro p9 e9 s9 m9 w9 t9 k9 B
  show Z p9 l e9 _ s9 m9 _ w9 t9 k9 _ G 4 0 [(0, .ref (x + 46)), (1, .int (nI i))] [] Φ sz 0 0
  have h_1 : Φ (x + 46) = some (o_ 9 [.ref (x + 47), .int (nI qn), .int qd]) := hcf0.1
  have b_1 : qn ≤ 12 := QbR.le hcf0
  refine z_aload_n B dX7_takeOut_0 rfl 0 rfl ?_
  refine z_iload_n B dX7_takeOut_1 rfl 1 rfl ?_
  refine z_callV (As := [.int (nI i)]) (rest := []) B (s_X7_messageAtX G l Φ sz x (ca) qn qL qd qp i hx hI hcf0 (show i < 13 by omega)) (cwV 1 B.1.2.2.2.2 gX7_takeOut_X7_messageAt rfl rfl rfl (by decide +kernel) ⟨Nat.le_of_ble_eq_true rfl, Nat.le_of_ble_eq_true rfl⟩) h_1 rfl rfl rfl rfl (Nat.le_of_ble_eq_true rfl) dX7_takeOut_2 ⟨Nat.le_of_ble_eq_true rfl, Nat.le_of_ble_eq_true rfl⟩ (fun r_1 Φ1 sz1 st1 hp1 hs1 => ?_)
  obtain ⟨rfl, hq1, hI1, hF1⟩ := hp1
  subst sz1
  replace hs1 : st1 = [.ref (x + (48 + 2 * qp i))] := hs1
  subst st1
  replace hI1 : In G x (ca) Φ1 := hI1
  refine z_astore_n (lv' := [(2, .ref (x + (48 + 2 * qp i))), (0, .ref (x + 46)), (1, .int (nI i))]) B dX7_takeOut_5 rfl (Nat.le_of_ble_eq_true rfl) rfl ?_
  refine z_iload_n B dX7_takeOut_6 rfl 2 rfl ?_
  refine z_if_lt (tgt := 18) B dX7_takeOut_7 rfl (fun c_1 => ?_) (fun c_1 => ?_)
  · have e_1 : i < 0 := (nI_ltI (a := i) (b := 0) (by omega) (by omega)).mp c_1
    refine z_aload_n B dX7_takeOut_18 rfl 0 rfl ?_
    exact z_ret_a B dX7_takeOut_19 ⟨((show False by omega).elim), rfl, hI1, (fun b9 h9 => ((hF1 b9 (fun j9 h8 h7 => (show False from h7).elim)).trans rfl))⟩
  · have e_2 : ¬ (i < 0) := fun h9 => c_1 ((nI_ltI (a := i) (b := 0) (by omega) (by omega)).mpr h9)
    refine z_iload_n B dX7_takeOut_10 rfl 2 rfl ?_
    refine z_aload_n B dX7_takeOut_11 rfl 1 rfl ?_
    have h_2 : Φ1 (x + 46) = some (o_ 9 [.ref (x + 47), .int (nI qn), .int qd]) := ((hF1 (x + 46) (fun j9 h8 h7 => (show False from h7).elim)).trans h_1)
    refine z_get (ref := "FlowExporter$Queue") (C := RX7) (T := TX7) (N := 3) (ci := 9) (v := .int (nI qn)) B hu_X7_takeOut_X7 rfl 1 (Nat.le_of_ble_eq_true rfl) hv_X7_takeOut_17 rfl h_2 rfl dX7_takeOut_12 ?_
    refine z_icmp_lt (tgt := 20) B dX7_takeOut_15 rfl (fun c_2 => ?_) (fun c_2 => ?_)
    · have e_3 : i < qn := (nI_ltI (a := i) (b := qn) (by omega) (by omega)).mp c_2
      refine z_iload_n B dX7_takeOut_20 rfl 2 rfl ?_
      refine z_istore_n (lv' := [(3, .int (nI i)), (2, .ref (x + (48 + 2 * qp i))), (0, .ref (x + 46)), (1, .int (nI i))]) B dX7_takeOut_21 rfl (Nat.le_of_ble_eq_true rfl) rfl ?_
      refine z_lv [0, 1, 2, 3] rfl ?_
      obtain ⟨f_1, h_3, r_2⟩ := in12 (k := 47) hI1 rfl
      have h_4 : Φ1 (x + 47) = some (aq_ G 6 13 f_1) := h_3
      refine z_loop (α := Nat) (fun (a9 : Nat) Φi => In G x (ca) Φi ∧ Fr x (fun j9 => j9 = 47) Φ1 Φi ∧ (i ≤ a9 ∧ a9 < qn) ∧ (∃ f9 : Nat → Option Nat, Φi (x + 47) = some (aq_ G 6 13 f9) ∧ (∀ j9, j9 < 13 → ∃ m9, m9 < 13 ∧ f9 j9 = some (x + (48 + 2 * m9))) ∧ RmQ qp i a9 f9 x) ∧ True) (fun a9 => [(3, .int (nI a9)), (2, .ref (x + (48 + 2 * qp i))), (0, .ref (x + 46)), (1, .int (nI i))]) (fun a9 => qn - a9) ?_ (i) ⟨hI1, fun _ _ => rfl, (show i ≤ i ∧ i < qn by omega), ⟨f_1, h_4, r_2, RmQ.z (fun j9 h9 => QbR.row hcf0 h_4 h9)⟩, trivial⟩
      rintro i_1 Φl1 ⟨hI2, hF2, b_2, b_3, -⟩ ih1
      replace hI2 : In G x (ca) Φl1 := hI2
      replace b_2 : i ≤ i_1 ∧ i_1 < qn := b_2
      replace b_3 : ∃ f9 : Nat → Option Nat, Φl1 (x + 47) = some (aq_ G 6 13 f9) ∧ (∀ j9, j9 < 13 → ∃ m9, m9 < 13 ∧ f9 j9 = some (x + (48 + 2 * m9))) ∧ RmQ qp i i_1 f9 x := b_3
      show Z p9 l e9 _ s9 m9 _ w9 t9 k9 _ G 4 22 [(3, .int (nI i_1)), (2, .ref (x + (48 + 2 * qp i))), (0, .ref (x + 46)), (1, .int (nI i))] [] Φl1 _ _ _
      obtain ⟨f_2, h_5, r_3, hR1⟩ := b_3
      refine z_iload_n B dX7_takeOut_22 rfl 0 rfl ?_
      refine z_aload_n B dX7_takeOut_23 rfl 2 rfl ?_
      have h_6 : Φl1 (x + 46) = some (o_ 9 [.ref (x + 47), .int (nI qn), .int qd]) := ((hF2 (x + 46) fq_99).trans h_2)
      refine z_get (ref := "FlowExporter$Queue") (C := RX7) (T := TX7) (N := 3) (ci := 9) (v := .int (nI qn)) B hu_X7_takeOut_X7 rfl 1 (Nat.le_of_ble_eq_true rfl) hv_X7_takeOut_17 rfl h_6 rfl dX7_takeOut_24 ?_
      refine z_iconst (v := 1) B dX7_takeOut_27 rfl ?_
      refine z_isub B dX7_takeOut_28 ?_
      refine z_top (st1 := [.int (nI (qn - 1)), .int (nI i_1)]) (congrArg (fun w9 : Int32 => ([.int w9, .int (nI i_1)] : List Value)) (nI_sub (show 1 ≤ qn by omega))) ?_
      refine z_icmp_ge (tgt := 52) B dX7_takeOut_29 rfl (fun c_3 => ?_) (fun c_3 => ?_)
      · have e_4 : qn - 1 ≤ i_1 := (nI_leI (a := qn - 1) (b := i_1) (by omega) (by omega)).mp c_3
        refine z_aload_n B dX7_takeOut_52 rfl 2 rfl ?_
        refine z_dup B dX7_takeOut_53 rfl ?_
        refine z_get (ref := "FlowExporter$Queue") (C := RX7) (T := TX7) (N := 3) (ci := 9) (v := .int (nI qn)) B hu_X7_takeOut_X7 rfl 1 (Nat.le_of_ble_eq_true rfl) hv_X7_takeOut_17 rfl h_6 rfl dX7_takeOut_54 ?_
        refine z_iconst (v := 1) B dX7_takeOut_57 rfl ?_
        refine z_isub B dX7_takeOut_58 ?_
        refine z_top (st1 := [.int (nI (qn - 1)), .ref (x + 46)]) (congrArg (fun w9 : Int32 => ([.int w9, .ref (x + 46)] : List Value)) (nI_sub (show 1 ≤ qn by omega))) ?_
        refine z_put (ref := "FlowExporter$Queue") (C := RX7) (T := TX7) (N := 3) (ci := 9) (v := .int (nI (qn - 1))) B hu_X7_takeOut_X7 tyX7 tyX7_ok nmX7 rfl 1 (Nat.le_of_ble_eq_true rfl) hv_X7_takeOut_17 rfl (Or.inl rfl) h_6 (Nat.le_trans hx (Nat.le_add_right x 46)) rfl rfl (Nat.le_of_ble_eq_true rfl) dX7_takeOut_59 (fun Φ2 hΦ1 => ?_)
        have h_7 : Φ2 (x + 46) = some (o_ 9 [.ref (x + 47), .int (nI (qn - 1)), .int qd]) := fset_at hΦ1
        have hI3 : In G x (ca) Φ2 := In.put (k := 46) hI2 hΦ1 (ok11 (k := 46) rfl ⟨qn - 1, qd, rfl, (show qn - 1 ≤ 12 by omega)⟩)
        refine z_aload_n B dX7_takeOut_62 rfl 2 rfl ?_
        refine z_get (ref := "FlowExporter$Queue") (C := RX7) (T := TX7) (N := 3) (ci := 9) (v := .ref (x + 47)) B hu_X7_takeOut_X7 rfl 0 (Nat.le_of_ble_eq_true rfl) hv_X7_takeOut_11 rfl h_7 rfl dX7_takeOut_63 ?_
        refine z_aload_n B dX7_takeOut_66 rfl 2 rfl ?_
        refine z_get (ref := "FlowExporter$Queue") (C := RX7) (T := TX7) (N := 3) (ci := 9) (v := .int (nI (qn - 1))) B hu_X7_takeOut_X7 rfl 1 (Nat.le_of_ble_eq_true rfl) hv_X7_takeOut_17 rfl h_7 rfl dX7_takeOut_67 ?_
        refine z_aload_n B dX7_takeOut_70 rfl 1 rfl ?_
        obtain ⟨n_1, h_8, b_4⟩ := in1 (k := 48 + 2 * qp i) hI3 (kd_q (QbR.lt hcf0 (show i < 13 by omega)))
        replace b_4 : n_1 ≤ cap (48 + 2 * qp i) := b_4
        have b_5 := cap_le (48 + 2 * qp i)
        have h_9 : Φ2 (x + (48 + 2 * qp i)) = some (o_ 7 [.ref (x + (48 + 2 * qp i + 1)), .int (nI n_1)]) := h_8
        have h_10 : Φ2 (x + 47) = some (aq_ G 6 13 f_2) := ((fset_fr hΦ1 (ne_off (x := x) (i := 47) (j := 46) rfl)).trans h_5)
        refine z_aast B rfl h_10 (Nat.le_trans hx (Nat.le_add_right x 47)) h_9 rfl (vp_in_nI (by omega) (by omega)) dX7_takeOut_71 (fun Φ3 hΦ2 => ?_)
        have h_11 : Φ3 (x + 47) = some (aq_ G 6 13 (va_up f_2 (nI (qn - 1)).toNatClampNeg (some (x + (48 + 2 * qp i))))) := fset_at hΦ2
        have hI4 : In G x (ca) Φ3 := In.put (k := 47) hI3 hΦ2 (ok12 (k := 47) rfl ⟨_, rfl, row_up r_3 ⟨qp i, (show qp i < 13 from QbR.lt hcf0 (by omega)), rfl⟩⟩)
        have h_12 : Φ3 (x + 47) = some (aq_ G 6 13 (va_up f_2 (nI (qn - 1)).toNatClampNeg (some (x + (48 + 2 * qp i))))) := fset_at hΦ2
        have r_4 : ∀ j9, j9 < 13 → ∃ m9, m9 < 13 ∧ (va_up f_2 (nI (qn - 1)).toNatClampNeg (some (x + (48 + 2 * qp i)))) j9 = some (x + (48 + 2 * m9)) := row_up r_3 ⟨qp i, (show qp i < 13 from QbR.lt hcf0 (by omega)), rfl⟩
        refine z_aload_n B dX7_takeOut_72 rfl 1 rfl ?_
        have h_13 : Φ3 (x + 46) = some (o_ 9 [.ref (x + 47), .int (nI (qn - 1)), .int qd]) := ((fset_fr hΦ2 (ne_off (x := x) (i := 46) (j := 47) rfl)).trans h_7)
        exact z_ret_a B dX7_takeOut_73 ⟨⟨rfl, QbR.rem hcf0 (by omega) (h_13.trans (congrArg (fun w9 : Nat => some (o_ 9 [.ref (x + 47), .int (nI w9), .int qd])) (show qn - 1 = qn - 1 by omega))) h_12 (RmQ.e hR1 (show i_1 = qn - 1 by omega) (nI_clamp (by omega)) (by omega)) (fun j9 h9 => ((fset_fr hΦ2 (by omega)).trans ((fset_fr hΦ1 (by omega)).trans ((hF2 (x + (48 + 2 * j9)) (fun j8 h8 h7 => by have h6 : j8 = 47 := h7; omega)).trans ((hF1 (x + (48 + 2 * j9)) (fun j8 h8 h7 => (show False from h7).elim)).trans rfl)))))⟩, rfl, hI4, (fun b9 h9 => ((fset_fr hΦ2 (fun h8 => h9 (47) h8 (show 47 = 46 ∨ 47 = 47 by decide))).trans ((fset_fr hΦ1 (fun h8 => h9 (46) h8 (show 46 = 46 ∨ 46 = 47 by decide))).trans ((hF2 b9 (fun j9 h8 h7 => h9 j9 h8 (fq_101 j9 h7))).trans ((hF1 b9 (fun j9 h8 h7 => (show False from h7).elim)).trans rfl)))))⟩
      · have e_5 : ¬ (qn - 1 ≤ i_1) := fun h9 => c_3 ((nI_leI (a := qn - 1) (b := i_1) (by omega) (by omega)).mpr h9)
        refine z_aload_n B dX7_takeOut_32 rfl 2 rfl ?_
        refine z_get (ref := "FlowExporter$Queue") (C := RX7) (T := TX7) (N := 3) (ci := 9) (v := .ref (x + 47)) B hu_X7_takeOut_X7 rfl 0 (Nat.le_of_ble_eq_true rfl) hv_X7_takeOut_11 rfl h_6 rfl dX7_takeOut_33 ?_
        refine z_iload_n B dX7_takeOut_36 rfl 0 rfl ?_
        refine z_aload_n B dX7_takeOut_37 rfl 2 rfl ?_
        refine z_get (ref := "FlowExporter$Queue") (C := RX7) (T := TX7) (N := 3) (ci := 9) (v := .ref (x + 47)) B hu_X7_takeOut_X7 rfl 0 (Nat.le_of_ble_eq_true rfl) hv_X7_takeOut_11 rfl h_6 rfl dX7_takeOut_38 ?_
        refine z_iload_n B dX7_takeOut_41 rfl 0 rfl ?_
        refine z_iconst (v := 1) B dX7_takeOut_42 rfl ?_
        refine z_iadd B dX7_takeOut_43 ?_
        refine z_top (st1 := [.int (nI (i_1 + 1)), .ref (x + 47), .int (nI i_1), .ref (x + 47)]) (congrArg (fun w9 : Int32 => ([.int w9, .ref (x + 47), .int (nI i_1), .ref (x + 47)] : List Value)) (nI_add i_1 1)) ?_
        refine z_aald (b := x + (48 + 2 * qp (i_1 + 1))) B rfl h_5 (vp_in_nI (by omega) (by omega)) ((congrArg f_2 (nI_clamp (by omega))).trans (RmQ.nx hR1 (by omega))) dX7_takeOut_44 ?_
        obtain ⟨n_2, h_14, b_6⟩ := in1 (k := 48 + 2 * qp (i_1 + 1)) hI2 (kd_q (QbR.lt hcf0 (show i_1 + 1 < 13 by omega)))
        replace b_6 : n_2 ≤ cap (48 + 2 * qp (i_1 + 1)) := b_6
        have b_7 := cap_le (48 + 2 * qp (i_1 + 1))
        have h_15 : Φl1 (x + (48 + 2 * qp (i_1 + 1))) = some (o_ 7 [.ref (x + (48 + 2 * qp (i_1 + 1) + 1)), .int (nI n_2)]) := h_14
        refine z_aast B rfl h_5 (Nat.le_trans hx (Nat.le_add_right x 47)) h_15 rfl (vp_in_nI (by omega) (by omega)) dX7_takeOut_45 (fun Φ4 hΦ3 => ?_)
        have h_16 : Φ4 (x + 47) = some (aq_ G 6 13 (va_up f_2 (nI i_1).toNatClampNeg (some (x + (48 + 2 * qp (i_1 + 1)))))) := fset_at hΦ3
        have hI5 : In G x (ca) Φ4 := In.put (k := 47) hI2 hΦ3 (ok12 (k := 47) rfl ⟨_, rfl, row_up r_3 ⟨qp (i_1 + 1), (show qp (i_1 + 1) < 13 from QbR.lt hcf0 (by omega)), rfl⟩⟩)
        have h_17 : Φ4 (x + 47) = some (aq_ G 6 13 (va_up f_2 (nI i_1).toNatClampNeg (some (x + (48 + 2 * qp (i_1 + 1)))))) := fset_at hΦ3
        have r_5 : ∀ j9, j9 < 13 → ∃ m9, m9 < 13 ∧ (va_up f_2 (nI i_1).toNatClampNeg (some (x + (48 + 2 * qp (i_1 + 1))))) j9 = some (x + (48 + 2 * m9)) := row_up r_3 ⟨qp (i_1 + 1), (show qp (i_1 + 1) < 13 from QbR.lt hcf0 (by omega)), rfl⟩
        refine z_iinc (k := 0) (v := nI (i_1 + 1)) (lv' := [(3, .int (nI (i_1 + 1))), (2, .ref (x + (48 + 2 * qp i))), (0, .ref (x + 46)), (1, .int (nI i))]) B dX7_takeOut_46 rfl (nI_add i_1 1) (Nat.le_of_ble_eq_true rfl) rfl ?_
        refine z_goto (tgt := 22) B dX7_takeOut_49 rfl ?_
        refine z_lv [0, 1, 2, 3] rfl ?_
        exact ih1 (i_1 + 1) Φ4 (show qn - (i_1 + 1) < qn - i_1 by omega) ⟨hI5, (fun b9 h9 => ((fset_fr hΦ3 (fun h8 => h9 (47) h8 (show 47 = 47 by decide))).trans ((hF2 b9 h9).trans rfl))), (show i ≤ (i_1 + 1) ∧ (i_1 + 1) < qn by omega), ⟨_, h_17, r_5, RmQ.s hR1 (nI_clamp (by omega)) (by omega)⟩, trivial⟩
    · have e_6 : ¬ (i < qn) := fun h9 => c_2 ((nI_ltI (a := i) (b := qn) (by omega) (by omega)).mpr h9)
      refine z_aload_n B dX7_takeOut_18 rfl 0 rfl ?_
      exact z_ret_a B dX7_takeOut_19 ⟨((show False by omega).elim), rfl, hI1, (fun b9 h9 => ((hF1 b9 (fun j9 h8 h7 => (show False from h7).elim)).trans rfl))⟩

set_option maxHeartbeats 4000000 in
set_option maxRecDepth 100000 in
theorem s_X7_swapX (G : EnvG) (l : Launch) (Φ : Hm) (sz x ca : Nat) (qn : Nat) (qL : Nat → Nat) (qd : Int32) (qp : Nat → Nat) (i : Nat) (j : Nat) (hx : G.2.2.2 ≤ x) (hI : In G x ca Φ) (hcf0 : QbR G x qn qL qd qp Φ) (hi : i < qn) (hj : j < qn) (hqn : qn ≤ 12) : Ct G l yX7_swap wsX7_swap ({ frames := 0, cells := 0, slots := 0, locals := 0 }) 0 0 [.ref (x + 46), .int (nI i), .int (nI j)] Φ sz (fun v Φ1 sz1 => (v = none ∧ QbR G x qn (swN qL i j) qd (swN qp i j) Φ1) ∧ sz1 = sz ∧ In G x (ca) Φ1 ∧ Fr x (fun j9 => j9 = 47) Φ Φ1) := by
  refine Ct.of (cc := cX7_swap) (maxL := 4) (ret := none) (by decide) rfl (Nat.le_of_ble_eq_true rfl) ?_
  intro p9 e9 s9 m9 w9 t9 k9 B
  show Z p9 l e9 _ s9 m9 _ w9 t9 k9 _ G 4 0 [(0, .ref (x + 46)), (1, .int (nI i)), (2, .int (nI j))] [] Φ sz 0 0
  have h_1 : Φ (x + 46) = some (o_ 9 [.ref (x + 47), .int (nI qn), .int qd]) := hcf0.1
  have b_1 : qn ≤ 12 := QbR.le hcf0
  refine z_iload_n B dX7_swap_0 rfl 1 rfl ?_
  refine z_if_lt (tgt := 24) B dX7_swap_1 rfl (fun c_1 => ?_) (fun c_1 => ?_)
  · have e_1 : i < 0 := (nI_ltI (a := i) (b := 0) (by omega) (by omega)).mp c_1
    exact z_ret_v B dX7_swap_24 ⟨((show False by omega).elim), rfl, hI, (fun b9 h9 => rfl)⟩
  · have e_2 : ¬ (i < 0) := fun h9 => c_1 ((nI_ltI (a := i) (b := 0) (by omega) (by omega)).mpr h9)
    refine z_iload_n B dX7_swap_4 rfl 1 rfl ?_
    refine z_aload_n B dX7_swap_5 rfl 0 rfl ?_
    refine z_get (ref := "FlowExporter$Queue") (C := RX7) (T := TX7) (N := 3) (ci := 9) (v := .int (nI qn)) B hu_X7_swap_X7 rfl 1 (Nat.le_of_ble_eq_true rfl) hv_X7_swap_17 rfl h_1 rfl dX7_swap_6 ?_
    refine z_icmp_ge (tgt := 24) B dX7_swap_9 rfl (fun c_2 => ?_) (fun c_2 => ?_)
    · have e_3 : qn ≤ i := (nI_leI (a := qn) (b := i) (by omega) (by omega)).mp c_2
      exact z_ret_v B dX7_swap_24 ⟨((show False by omega).elim), rfl, hI, (fun b9 h9 => rfl)⟩
    · have e_4 : ¬ (qn ≤ i) := fun h9 => c_2 ((nI_leI (a := qn) (b := i) (by omega) (by omega)).mpr h9)
      refine z_iload_n B dX7_swap_12 rfl 2 rfl ?_
      refine z_if_lt (tgt := 24) B dX7_swap_13 rfl (fun c_3 => ?_) (fun c_3 => ?_)
      · have e_5 : j < 0 := (nI_ltI (a := j) (b := 0) (by omega) (by omega)).mp c_3
        exact z_ret_v B dX7_swap_24 ⟨((show False by omega).elim), rfl, hI, (fun b9 h9 => rfl)⟩
      · have e_6 : ¬ (j < 0) := fun h9 => c_3 ((nI_ltI (a := j) (b := 0) (by omega) (by omega)).mpr h9)
        refine z_iload_n B dX7_swap_16 rfl 2 rfl ?_
        refine z_aload_n B dX7_swap_17 rfl 0 rfl ?_
        refine z_get (ref := "FlowExporter$Queue") (C := RX7) (T := TX7) (N := 3) (ci := 9) (v := .int (nI qn)) B hu_X7_swap_X7 rfl 1 (Nat.le_of_ble_eq_true rfl) hv_X7_swap_17 rfl h_1 rfl dX7_swap_18 ?_
        refine z_icmp_lt (tgt := 25) B dX7_swap_21 rfl (fun c_4 => ?_) (fun c_4 => ?_)
        · have e_7 : j < qn := (nI_ltI (a := j) (b := qn) (by omega) (by omega)).mp c_4
          refine z_aload_n B dX7_swap_25 rfl 0 rfl ?_
          refine z_get (ref := "FlowExporter$Queue") (C := RX7) (T := TX7) (N := 3) (ci := 9) (v := .ref (x + 47)) B hu_X7_swap_X7 rfl 0 (Nat.le_of_ble_eq_true rfl) hv_X7_swap_11 rfl h_1 rfl dX7_swap_26 ?_
          refine z_iload_n B dX7_swap_29 rfl 1 rfl ?_
          obtain ⟨f_1, h_2, r_1⟩ := in12 (k := 47) hI rfl
          have h_3 : Φ (x + 47) = some (aq_ G 6 13 f_1) := h_2
          refine z_aald (b := x + (48 + 2 * qp i)) B rfl h_3 (vp_in_nI (by omega) (by omega)) ((congrArg f_1 (nI_clamp (by omega))).trans (QbR.row hcf0 h_3 (show i < 13 by omega))) dX7_swap_30 ?_
          refine z_astore_n (lv' := [(3, .ref (x + (48 + 2 * qp i))), (0, .ref (x + 46)), (1, .int (nI i)), (2, .int (nI j))]) B dX7_swap_31 rfl (Nat.le_of_ble_eq_true rfl) rfl ?_
          refine z_aload_n B dX7_swap_32 rfl 1 rfl ?_
          refine z_get (ref := "FlowExporter$Queue") (C := RX7) (T := TX7) (N := 3) (ci := 9) (v := .ref (x + 47)) B hu_X7_swap_X7 rfl 0 (Nat.le_of_ble_eq_true rfl) hv_X7_swap_11 rfl h_1 rfl dX7_swap_33 ?_
          refine z_iload_n B dX7_swap_36 rfl 2 rfl ?_
          refine z_aload_n B dX7_swap_37 rfl 1 rfl ?_
          refine z_get (ref := "FlowExporter$Queue") (C := RX7) (T := TX7) (N := 3) (ci := 9) (v := .ref (x + 47)) B hu_X7_swap_X7 rfl 0 (Nat.le_of_ble_eq_true rfl) hv_X7_swap_11 rfl h_1 rfl dX7_swap_38 ?_
          refine z_iload_n B dX7_swap_41 rfl 3 rfl ?_
          refine z_aald (b := x + (48 + 2 * qp j)) B rfl h_3 (vp_in_nI (by omega) (by omega)) ((congrArg f_1 (nI_clamp (by omega))).trans (QbR.row hcf0 h_3 (show j < 13 by omega))) dX7_swap_42 ?_
          obtain ⟨n_1, h_4, b_2⟩ := in1 (k := 48 + 2 * qp j) hI (kd_q (QbR.lt hcf0 (show j < 13 by omega)))
          replace b_2 : n_1 ≤ cap (48 + 2 * qp j) := b_2
          have b_3 := cap_le (48 + 2 * qp j)
          have h_5 : Φ (x + (48 + 2 * qp j)) = some (o_ 7 [.ref (x + (48 + 2 * qp j + 1)), .int (nI n_1)]) := h_4
          refine z_aast B rfl h_3 (Nat.le_trans hx (Nat.le_add_right x 47)) h_5 rfl (vp_in_nI (by omega) (by omega)) dX7_swap_43 (fun Φ1 hΦ1 => ?_)
          have h_6 : Φ1 (x + 47) = some (aq_ G 6 13 (va_up f_1 (nI i).toNatClampNeg (some (x + (48 + 2 * qp j))))) := fset_at hΦ1
          have hI1 : In G x (ca) Φ1 := In.put (k := 47) hI hΦ1 (ok12 (k := 47) rfl ⟨_, rfl, row_up r_1 ⟨qp j, (show qp j < 13 from QbR.lt hcf0 (by omega)), rfl⟩⟩)
          have h_7 : Φ1 (x + 47) = some (aq_ G 6 13 (va_up f_1 (nI i).toNatClampNeg (some (x + (48 + 2 * qp j))))) := fset_at hΦ1
          have r_2 : ∀ j9, j9 < 13 → ∃ m9, m9 < 13 ∧ (va_up f_1 (nI i).toNatClampNeg (some (x + (48 + 2 * qp j)))) j9 = some (x + (48 + 2 * m9)) := row_up r_1 ⟨qp j, (show qp j < 13 from QbR.lt hcf0 (by omega)), rfl⟩
          refine z_aload_n B dX7_swap_44 rfl 1 rfl ?_
          have h_8 : Φ1 (x + 46) = some (o_ 9 [.ref (x + 47), .int (nI qn), .int qd]) := ((fset_fr hΦ1 (ne_off (x := x) (i := 46) (j := 47) rfl)).trans h_1)
          refine z_get (ref := "FlowExporter$Queue") (C := RX7) (T := TX7) (N := 3) (ci := 9) (v := .ref (x + 47)) B hu_X7_swap_X7 rfl 0 (Nat.le_of_ble_eq_true rfl) hv_X7_swap_11 rfl h_8 rfl dX7_swap_45 ?_
          refine z_iload_n B dX7_swap_48 rfl 3 rfl ?_
          refine z_aload_n B dX7_swap_49 rfl 0 rfl ?_
          obtain ⟨n_2, h_9, b_4⟩ := in1 (k := 48 + 2 * qp i) hI1 (kd_q (QbR.lt hcf0 (show i < 13 by omega)))
          replace b_4 : n_2 ≤ cap (48 + 2 * qp i) := b_4
          have b_5 := cap_le (48 + 2 * qp i)
          have h_10 : Φ1 (x + (48 + 2 * qp i)) = some (o_ 7 [.ref (x + (48 + 2 * qp i + 1)), .int (nI n_2)]) := h_9
          refine z_aast B rfl h_7 (Nat.le_trans hx (Nat.le_add_right x 47)) h_10 rfl (vp_in_nI (by omega) (by omega)) dX7_swap_50 (fun Φ2 hΦ2 => ?_)
          have h_11 : Φ2 (x + 47) = some (aq_ G 6 13 (va_up (va_up f_1 (nI i).toNatClampNeg (some (x + (48 + 2 * qp j)))) (nI j).toNatClampNeg (some (x + (48 + 2 * qp i))))) := fset_at hΦ2
          have hI2 : In G x (ca) Φ2 := In.put (k := 47) hI1 hΦ2 (ok12 (k := 47) rfl ⟨_, rfl, row_up r_2 ⟨qp i, (show qp i < 13 from QbR.lt hcf0 (by omega)), rfl⟩⟩)
          have h_12 : Φ2 (x + 47) = some (aq_ G 6 13 (va_up (va_up f_1 (nI i).toNatClampNeg (some (x + (48 + 2 * qp j)))) (nI j).toNatClampNeg (some (x + (48 + 2 * qp i))))) := fset_at hΦ2
          have r_3 : ∀ j9, j9 < 13 → ∃ m9, m9 < 13 ∧ (va_up (va_up f_1 (nI i).toNatClampNeg (some (x + (48 + 2 * qp j)))) (nI j).toNatClampNeg (some (x + (48 + 2 * qp i)))) j9 = some (x + (48 + 2 * m9)) := row_up r_2 ⟨qp i, (show qp i < 13 from QbR.lt hcf0 (by omega)), rfl⟩
          exact z_ret_v B dX7_swap_51 ⟨⟨rfl, (QbR.swap hcf0 hi hj h_3 ((fset_fr hΦ2 (by omega)).trans ((fset_fr hΦ1 (by omega)).trans rfl)) h_12 (nI_clamp (by omega)) (nI_clamp (by omega)) (fun j9 h9 => ((fset_fr hΦ2 (by omega)).trans ((fset_fr hΦ1 (by omega)).trans rfl))))⟩, rfl, hI2, (fun b9 h9 => ((fset_fr hΦ2 (fun h8 => h9 (47) h8 (show 47 = 47 by decide))).trans ((fset_fr hΦ1 (fun h8 => h9 (47) h8 (show 47 = 47 by decide))).trans rfl)))⟩
        · have e_8 : ¬ (j < qn) := fun h9 => c_4 ((nI_ltI (a := j) (b := qn) (by omega) (by omega)).mpr h9)
          exact z_ret_v B dX7_swap_24 ⟨((show False by omega).elim), rfl, hI, (fun b9 h9 => rfl)⟩

/-- there is such a message -/
noncomputable def InQ (n : Nat) (a : Int32) : Prop := 0 ≤ a.toInt ∧ a.toInt < n
/-- the queue's content counts up to its length alone -/
theorem QbR.ch {G : EnvG} {x n : Nat} {L M : Nat → Nat} {d : Int32} {p : Nat → Nat} {Φ : Hm} (h : QbR G x n L d p Φ) (e : ∀ j, j < n → M j = L j) : QbR G x n M d p Φ := by
  obtain ⟨h1, h2, h4, h5, h6, h7⟩ := h
  refine ⟨h1, h2, h4, h5, h6, fun j hj => ?_⟩
  rw [e j hj]
  exact h7 j hj
theorem QbR.ms {G : EnvG} {x n j : Nat} {L : Nat → Nat} {d : Int32} {p : Nat → Nat} {Φ : Hm} (h : QbR G x n L d p Φ) (hj : j < n) : L j ≤ 600 ∧ Φ (x + (48 + 2 * p j)) = some (o_ 7 [.ref (x + (48 + 2 * p j + 1)), .int (nI (L j))]) := h.2.2.2.2.2 j hj

set_option maxHeartbeats 4000000 in
set_option maxRecDepth 100000 in
theorem s_X11_requireMessageX (G : EnvG) (l : Launch) (hl9 : l.stackTraces = false) (Φ : Hm) (sz x ca : Nat) (qn : Nat) (qL : Nat → Nat) (qd : Int32) (qp : Nat → Nat) (a : Int32) (hx : G.2.2.2 ≤ x) (hI : In G x ca Φ) (hcf0 : QbR G x qn qL qd qp Φ) : CtB G l yX11_requireMessage wsX11_requireMessage ({ frames := 6, cells := 1, slots := 6, locals := 81 }) 1 6 [.ref x, .int a] Φ sz (fun v Φ1 sz1 => (v = none ∧ ∃ u9 : Nat, u9 < qn ∧ a = nI u9) ∧ sz1 = sz ∧ In G x (ca) Φ1 ∧ Fr x (fun j9 => False) Φ Φ1) (fun Φ1 => (¬ InQ qn a) ∧ In G x ca Φ1 ∧ Fr x (fun j9 => False) Φ Φ1) [xIO] := by
  refine CtB.of (cc := cX11_requireMessage) (maxL := 2) (ret := none) (by decide) rfl (Nat.le_of_ble_eq_true rfl) ?_
  intro p9 e9 s9 m9 w9 t9 k9 B htab9
  show Z p9 l e9 _ s9 m9 _ w9 t9 k9 _ G 2 0 [(0, .ref x), (1, .int a)] [] Φ sz 0 0
  have h_1 : Φ (x + 46) = some (o_ 9 [.ref (x + 47), .int (nI qn), .int qd]) := hcf0.1
  have b_1 : qn ≤ 12 := QbR.le hcf0
  refine z_iload_n B dX11_requireMessage_0 rfl 1 rfl ?_
  refine z_if_lt (tgt := 15) B dX11_requireMessage_1 rfl (fun c_1 => ?_) (fun c_1 => ?_)
  · have k_1 : (0 : Int32).toInt = 0 := by decide
    have q_1 : (a.toInt < (0 : Int32).toInt) := Int32.lt_iff_toInt_lt.mp c_1
    exact zb_throw (cls := xIO) (ik := 153) (ic := 155) B hl9 htab9 (by decide) ⟨(fun h9 => by obtain ⟨h8, h7⟩ := h9; omega), hI, (fun b9 h9 => rfl)⟩ (by decide) (by decide +kernel) (by decide +kernel) (by decide +kernel) (by decide +kernel) (by decide +kernel) (by decide +kernel) (by decide +kernel) dX11_requireMessage_15 dX11_requireMessage_18 dX11_requireMessage_19 dX11_requireMessage_22 ⟨Nat.le_of_ble_eq_true rfl, Nat.le_of_ble_eq_true rfl, Nat.le_of_ble_eq_true rfl, Nat.le_of_ble_eq_true rfl⟩ ⟨Nat.le_of_ble_eq_true rfl, Nat.le_of_ble_eq_true rfl⟩
  · obtain ⟨n_1, e_1, rfl⟩ := nI_of c_1
    refine z_iload_n B dX11_requireMessage_4 rfl 1 rfl ?_
    refine z_aload_n B dX11_requireMessage_5 rfl 0 rfl ?_
    have h_2 := in0 (k := 0) hI rfl
    have h_3 : Φ x = some (o_ 13 [.ref (x + 1), .ref (x + 3), .ref (x + 24), .ref (x + 46), .ref (x + 74), .ref (x + 80), .ref (x + 132), .ref (x + 121)]) := h_2
    refine z_get (ref := "FlowExporter") (C := RX11) (T := TX11) (N := 8) (ci := 13) (v := .ref (x + 46)) B hu_X11_requireMessage_X11 rfl 3 (Nat.le_of_ble_eq_true rfl) hv_X11_requireMessage_37 rfl h_3 rfl dX11_requireMessage_6 ?_
    refine z_get (ref := "FlowExporter$Queue") (C := RX7) (T := TX7) (N := 3) (ci := 9) (v := .int (nI qn)) B hu_X11_requireMessage_X7 rfl 1 (Nat.le_of_ble_eq_true rfl) hv_X11_requireMessage_231 rfl h_1 rfl dX11_requireMessage_9 ?_
    refine z_icmp_lt (tgt := 23) B dX11_requireMessage_12 rfl (fun c_2 => ?_) (fun c_2 => ?_)
    · have e_2 : n_1 < qn := (nI_ltI (a := n_1) (b := qn) (by omega) (by omega)).mp c_2
      exact zb_ret (Nat.le_of_ble_eq_true rfl) (Nat.le_of_ble_eq_true rfl) (z_ret_v B dX11_requireMessage_23 ⟨⟨rfl, n_1, by omega, rfl⟩, rfl, hI, (fun b9 h9 => rfl)⟩)
    · have e_3 : ¬ (n_1 < qn) := fun h9 => c_2 ((nI_ltI (a := n_1) (b := qn) (by omega) (by omega)).mpr h9)
      have k_2 : (nI n_1).toInt = ((n_1 : Nat) : Int) := nI_toInt (by omega)
      have k_3 : (0 : Int32).toInt = 0 := by decide
      have q_2 : ¬ ((nI n_1).toInt < (0 : Int32).toInt) := fun h9 => c_1 (Int32.lt_iff_toInt_lt.mpr h9)
      have k_4 : (nI qn).toInt = ((qn : Nat) : Int) := nI_toInt (by omega)
      have q_3 : ¬ ((nI n_1).toInt < (nI qn).toInt) := fun h9 => c_2 (Int32.lt_iff_toInt_lt.mpr h9)
      exact zb_throw (cls := xIO) (ik := 153) (ic := 155) B hl9 htab9 (by decide) ⟨(fun h9 => by obtain ⟨h8, h7⟩ := h9; omega), hI, (fun b9 h9 => rfl)⟩ (by decide) (by decide +kernel) (by decide +kernel) (by decide +kernel) (by decide +kernel) (by decide +kernel) (by decide +kernel) (by decide +kernel) dX11_requireMessage_15 dX11_requireMessage_18 dX11_requireMessage_19 dX11_requireMessage_22 ⟨Nat.le_of_ble_eq_true rfl, Nat.le_of_ble_eq_true rfl, Nat.le_of_ble_eq_true rfl, Nat.le_of_ble_eq_true rfl⟩ ⟨Nat.le_of_ble_eq_true rfl, Nat.le_of_ble_eq_true rfl⟩

set_option maxHeartbeats 4000000 in
set_option maxRecDepth 100000 in
theorem s_X11_messageLengthX (G : EnvG) (l : Launch) (hl9 : l.stackTraces = false) (Φ : Hm) (sz x ca : Nat) (qn : Nat) (qL : Nat → Nat) (qd : Int32) (qp : Nat → Nat) (a : Int32) (hx : G.2.2.2 ≤ x) (hI : In G x ca Φ) (hcf0 : QbR G x qn qL qd qp Φ) : CtB G l yX11_messageLength wsX11_messageLength ({ frames := 7, cells := 1, slots := 6, locals := 102 }) 1 6 [.ref x, .int a] Φ sz (fun v Φ1 sz1 => (∃ u9 : Nat, u9 < qn ∧ a = nI u9 ∧ v = some (.int (nI (qL u9)))) ∧ sz1 = sz ∧ In G x (ca) Φ1 ∧ Fr x (fun j9 => False) Φ Φ1) (fun Φ1 => (¬ InQ qn a) ∧ In G x ca Φ1 ∧ Fr x (fun j9 => False) Φ Φ1) [xIO] := by
  refine CtB.of (cc := cX11_messageLength) (maxL := 2) (ret := (some .int)) (by decide) rfl (Nat.le_of_ble_eq_true rfl) ?_
  intro p9 e9 s9 m9 w9 t9 k9 B htab9
  show Z p9 l e9 _ s9 m9 _ w9 t9 k9 _ G 2 0 [(0, .ref x), (1, .int a)] [] Φ sz 0 0
  refine z_aload_n B dX11_messageLength_0 rfl 0 rfl ?_
  refine z_iload_n B dX11_messageLength_1 rfl 1 rfl ?_
  have h_1 := in0 (k := 0) hI rfl
  have h_2 : Φ x = some (o_ 13 [.ref (x + 1), .ref (x + 3), .ref (x + 24), .ref (x + 46), .ref (x + 74), .ref (x + 80), .ref (x + 132), .ref (x + 121)]) := h_1
  refine zb_callV (As := [.int a]) (rest := []) B htab9 (s_X11_requireMessageX G l hl9 Φ sz x (ca) qn qL qd qp a hx hI hcf0) (cwV 1 B.1.2.2.2.2 gX11_messageLength_X11_requireMessage rfl rfl rfl (by decide +kernel) ⟨Nat.le_of_ble_eq_true rfl, Nat.le_of_ble_eq_true rfl⟩) h_2 rfl rfl rfl rfl (Nat.le_of_ble_eq_true rfl) dX11_messageLength_2 ⟨Nat.le_of_ble_eq_true rfl, Nat.le_of_ble_eq_true rfl⟩ ⟨Nat.le_of_ble_eq_true rfl, Nat.le_of_ble_eq_true rfl⟩ (by decide) (fun Φ9 h9 => ⟨h9.1, h9.2.1, fun b9 h8 => ((h9.2.2 b9 h8).trans ((fun b9 h9 => rfl) b9 h8))⟩) (fun r_1 Φ1 sz1 st1 hp1 hs1 => ?_)
  obtain ⟨⟨rfl, n_1, b_1, rfl⟩, hq1, hI1, hF1⟩ := hp1
  subst sz1
  replace hs1 : st1 = [] := hs1
  subst st1
  replace hI1 : In G x (ca) Φ1 := hI1
  replace b_1 : n_1 < qn := b_1
  refine z_aload_n B dX11_messageLength_5 rfl 0 rfl ?_
  have h_3 : Φ1 x = some (o_ 13 [.ref (x + 1), .ref (x + 3), .ref (x + 24), .ref (x + 46), .ref (x + 74), .ref (x + 80), .ref (x + 132), .ref (x + 121)]) := ((hF1 x (fun j9 h8 h7 => (show False from h7).elim)).trans h_2)
  refine z_get (ref := "FlowExporter") (C := RX11) (T := TX11) (N := 8) (ci := 13) (v := .ref (x + 46)) B hu_X11_messageLength_X11 rfl 3 (Nat.le_of_ble_eq_true rfl) hv_X11_messageLength_37 rfl h_3 rfl dX11_messageLength_6 ?_
  refine z_iload_n B dX11_messageLength_9 rfl 1 rfl ?_
  have hcg1 : QbR G x qn qL qd qp Φ1 := (QbR.frw hcf0 hF1 (fun j9 h7 => (show False from h7).elim))
  have h_4 : Φ1 (x + 46) = some (o_ 9 [.ref (x + 47), .int (nI qn), .int qd]) := hcg1.1
  have b_2 : qn ≤ 12 := QbR.le hcg1
  have e_1 := QbR.ms hcg1 (show n_1 < qn by omega)
  have b_3 : qL n_1 ≤ 600 := e_1.1
  have h_5 : Φ1 (x + (48 + 2 * qp n_1)) = some (o_ 7 [.ref (x + (48 + 2 * qp n_1 + 1)), .int (nI (qL n_1))]) := e_1.2
  refine z_callV (As := [.int (nI n_1)]) (rest := []) B (s_X7_messageAtX G l Φ1 sz x (ca) qn qL qd qp n_1 hx hI1 hcg1 (show n_1 < 13 by omega)) (cwV 1 B.1.2.2.2.2 gX11_messageLength_X7_messageAt rfl rfl rfl (by decide +kernel) ⟨Nat.le_of_ble_eq_true rfl, Nat.le_of_ble_eq_true rfl⟩) h_4 rfl rfl rfl rfl (Nat.le_of_ble_eq_true rfl) dX11_messageLength_10 ⟨Nat.le_of_ble_eq_true rfl, Nat.le_of_ble_eq_true rfl⟩ (fun r_2 Φ2 sz2 st2 hp2 hs2 => ?_)
  obtain ⟨rfl, hq2, hI2, hF2⟩ := hp2
  subst sz2
  replace hs2 : st2 = [.ref (x + (48 + 2 * qp n_1))] := hs2
  subst st2
  replace hI2 : In G x (ca) Φ2 := hI2
  have h_6 : Φ2 (x + (48 + 2 * qp n_1)) = some (o_ 7 [.ref (x + (48 + 2 * qp n_1 + 1)), .int (nI (qL n_1))]) := ((hF2 (x + (48 + 2 * qp n_1)) (fun j9 h8 h7 => (show False from h7).elim)).trans h_5)
  refine z_get (ref := "FlowExporter$Message") (C := RX5) (T := TX5) (N := 2) (ci := 7) (v := .int (nI (qL n_1))) B hu_X11_messageLength_X5 rfl 1 (Nat.le_of_ble_eq_true rfl) hv_X11_messageLength_97 rfl h_6 rfl dX11_messageLength_13 ?_
  exact zb_ret (Nat.le_of_ble_eq_true rfl) (Nat.le_of_ble_eq_true rfl) (z_ret_i B dX11_messageLength_16 ⟨⟨n_1, by omega, rfl, rfl⟩, rfl, hI2, (fun b9 h9 => ((hF2 b9 (fun j9 h8 h7 => (show False from h7).elim)).trans ((hF1 b9 (fun j9 h8 h7 => (show False from h7).elim)).trans rfl)))⟩)

set_option maxHeartbeats 4000000 in
set_option maxRecDepth 100000 in
theorem s_X11_loseX (G : EnvG) (l : Launch) (hl9 : l.stackTraces = false) (Φ : Hm) (sz x ca : Nat) (qn : Nat) (qL : Nat → Nat) (qd : Int32) (qp : Nat → Nat) (a : Int32) (hx : G.2.2.2 ≤ x) (hI : In G x ca Φ) (hcf0 : QbR G x qn qL qd qp Φ) : CtB G l yX11_lose wsX11_lose ({ frames := 7, cells := 1, slots := 6, locals := 102 }) 1 6 [.ref x, .int a] Φ sz (fun v Φ1 sz1 => (∃ u9 : Nat, u9 < qn ∧ a = nI u9 ∧ v = some (.int (nI (qL u9))) ∧ QbR G x (qn - 1) (rmL qL u9) qd (shP qp qn u9) Φ1) ∧ sz1 = sz ∧ In G x (ca) Φ1 ∧ Fr x (fun j9 => j9 = 46 ∨ j9 = 47) Φ Φ1) (fun Φ1 => (¬ InQ qn a) ∧ In G x ca Φ1 ∧ Fr x (fun j9 => False) Φ Φ1) [xIO] := by
  refine CtB.of (cc := cX11_lose) (maxL := 2) (ret := (some .int)) (by decide) rfl (Nat.le_of_ble_eq_true rfl) ?_
  intro p9 e9 s9 m9 w9 t9 k9 B htab9
  show Z p9 l e9 _ s9 m9 _ w9 t9 k9 _ G 2 0 [(0, .ref x), (1, .int a)] [] Φ sz 0 0
  refine z_aload_n B dX11_lose_0 rfl 0 rfl ?_
  refine z_iload_n B dX11_lose_1 rfl 1 rfl ?_
  have h_1 := in0 (k := 0) hI rfl
  have h_2 : Φ x = some (o_ 13 [.ref (x + 1), .ref (x + 3), .ref (x + 24), .ref (x + 46), .ref (x + 74), .ref (x + 80), .ref (x + 132), .ref (x + 121)]) := h_1
  refine zb_callV (As := [.int a]) (rest := []) B htab9 (s_X11_requireMessageX G l hl9 Φ sz x (ca) qn qL qd qp a hx hI hcf0) (cwV 1 B.1.2.2.2.2 gX11_lose_X11_requireMessage rfl rfl rfl (by decide +kernel) ⟨Nat.le_of_ble_eq_true rfl, Nat.le_of_ble_eq_true rfl⟩) h_2 rfl rfl rfl rfl (Nat.le_of_ble_eq_true rfl) dX11_lose_2 ⟨Nat.le_of_ble_eq_true rfl, Nat.le_of_ble_eq_true rfl⟩ ⟨Nat.le_of_ble_eq_true rfl, Nat.le_of_ble_eq_true rfl⟩ (by decide) (fun Φ9 h9 => ⟨h9.1, h9.2.1, fun b9 h8 => ((h9.2.2 b9 h8).trans ((fun b9 h9 => rfl) b9 h8))⟩) (fun r_1 Φ1 sz1 st1 hp1 hs1 => ?_)
  obtain ⟨⟨rfl, n_1, b_1, rfl⟩, hq1, hI1, hF1⟩ := hp1
  subst sz1
  replace hs1 : st1 = [] := hs1
  subst st1
  replace hI1 : In G x (ca) Φ1 := hI1
  replace b_1 : n_1 < qn := b_1
  refine z_aload_n B dX11_lose_5 rfl 0 rfl ?_
  have h_3 : Φ1 x = some (o_ 13 [.ref (x + 1), .ref (x + 3), .ref (x + 24), .ref (x + 46), .ref (x + 74), .ref (x + 80), .ref (x + 132), .ref (x + 121)]) := ((hF1 x (fun j9 h8 h7 => (show False from h7).elim)).trans h_2)
  refine z_get (ref := "FlowExporter") (C := RX11) (T := TX11) (N := 8) (ci := 13) (v := .ref (x + 46)) B hu_X11_lose_X11 rfl 3 (Nat.le_of_ble_eq_true rfl) hv_X11_lose_37 rfl h_3 rfl dX11_lose_6 ?_
  refine z_iload_n B dX11_lose_9 rfl 1 rfl ?_
  have hcg1 : QbR G x qn qL qd qp Φ1 := (QbR.frw hcf0 hF1 (fun j9 h7 => (show False from h7).elim))
  have h_4 : Φ1 (x + 46) = some (o_ 9 [.ref (x + 47), .int (nI qn), .int qd]) := hcg1.1
  have b_2 : qn ≤ 12 := QbR.le hcg1
  have e_1 := QbR.ms hcg1 (show n_1 < qn by omega)
  have b_3 : qL n_1 ≤ 600 := e_1.1
  have h_5 : Φ1 (x + (48 + 2 * qp n_1)) = some (o_ 7 [.ref (x + (48 + 2 * qp n_1 + 1)), .int (nI (qL n_1))]) := e_1.2
  refine z_callV (As := [.int (nI n_1)]) (rest := []) B (s_X7_takeOutX G l Φ1 sz x (ca) qn qL qd qp n_1 hx hI1 hcg1 (show n_1 < qn by omega) (show qn ≤ 12 by omega)) (cwV 1 B.1.2.2.2.2 gX11_lose_X7_takeOut rfl rfl rfl (by decide +kernel) ⟨Nat.le_of_ble_eq_true rfl, Nat.le_of_ble_eq_true rfl⟩) h_4 rfl rfl rfl rfl (Nat.le_of_ble_eq_true rfl) dX11_lose_10 ⟨Nat.le_of_ble_eq_true rfl, Nat.le_of_ble_eq_true rfl⟩ (fun r_2 Φ2 sz2 st2 hp2 hs2 => ?_)
  obtain ⟨⟨rfl, hcg2⟩, hq2, hI2, hF2⟩ := hp2
  subst sz2
  replace hs2 : st2 = [.ref (x + (48 + 2 * qp n_1))] := hs2
  subst st2
  replace hI2 : In G x (ca) Φ2 := hI2
  have h_6 : Φ2 (x + (48 + 2 * qp n_1)) = some (o_ 7 [.ref (x + (48 + 2 * qp n_1 + 1)), .int (nI (qL n_1))]) := ((hF2 (x + (48 + 2 * qp n_1)) (fun j9 h8 h7 => by have h6 : j9 = 46 ∨ j9 = 47 := h7; omega)).trans h_5)
  refine z_get (ref := "FlowExporter$Message") (C := RX5) (T := TX5) (N := 2) (ci := 7) (v := .int (nI (qL n_1))) B hu_X11_lose_X5 rfl 1 (Nat.le_of_ble_eq_true rfl) hv_X11_lose_97 rfl h_6 rfl dX11_lose_13 ?_
  exact zb_ret (Nat.le_of_ble_eq_true rfl) (Nat.le_of_ble_eq_true rfl) (z_ret_i B dX11_lose_16 ⟨⟨n_1, by omega, rfl, rfl, hcg2⟩, rfl, hI2, (fun b9 h9 => ((hF2 b9 h9).trans ((hF1 b9 (fun j9 h8 h7 => (show False from h7).elim)).trans rfl)))⟩)

set_option maxHeartbeats 4000000 in
set_option maxRecDepth 100000 in
theorem s_X11_exchangeX (G : EnvG) (l : Launch) (hl9 : l.stackTraces = false) (Φ : Hm) (sz x ca : Nat) (qn : Nat) (qL : Nat → Nat) (qd : Int32) (qp : Nat → Nat) (a : Int32) (b : Int32) (hx : G.2.2.2 ≤ x) (hI : In G x ca Φ) (hcf0 : QbR G x qn qL qd qp Φ) : CtB G l yX11_exchange wsX11_exchange ({ frames := 7, cells := 2, slots := 12, locals := 102 }) 2 12 [.ref x, .int a, .int b] Φ sz (fun v Φ1 sz1 => (∃ u9 w9 : Nat, u9 < qn ∧ w9 < qn ∧ a = nI u9 ∧ b = nI w9 ∧ ((u9 = w9 ∧ v = some (.int 0) ∧ QbR G x qn qL qd qp Φ1) ∨ (¬ u9 = w9 ∧ v = some (.int 1) ∧ QbR G x qn (swN qL u9 w9) qd (swN qp u9 w9) Φ1))) ∧ sz1 = sz ∧ In G x (ca) Φ1 ∧ Fr x (fun j9 => j9 = 47) Φ Φ1) (fun Φ1 => (¬ (InQ qn a ∧ InQ qn b)) ∧ In G x ca Φ1 ∧ Fr x (fun j9 => False) Φ Φ1) [xIO] := by
  refine CtB.of (cc := cX11_exchange) (maxL := 3) (ret := (some .boolean)) (by decide) rfl (Nat.le_of_ble_eq_true rfl) ?_
  intro p9 e9 s9 m9 w9 t9 k9 B htab9
  show Z p9 l e9 _ s9 m9 _ w9 t9 k9 _ G 3 0 [(0, .ref x), (1, .int a), (2, .int b)] [] Φ sz 0 0
  refine z_aload_n B dX11_exchange_0 rfl 0 rfl ?_
  refine z_iload_n B dX11_exchange_1 rfl 1 rfl ?_
  have h_1 : Φ (x + 46) = some (o_ 9 [.ref (x + 47), .int (nI qn), .int qd]) := hcf0.1
  have b_1 : qn ≤ 12 := QbR.le hcf0
  have h_2 := in0 (k := 0) hI rfl
  have h_3 : Φ x = some (o_ 13 [.ref (x + 1), .ref (x + 3), .ref (x + 24), .ref (x + 46), .ref (x + 74), .ref (x + 80), .ref (x + 132), .ref (x + 121)]) := h_2
  refine zb_callV (As := [.int a]) (rest := []) B htab9 (s_X11_requireMessageX G l hl9 Φ sz x (ca) qn qL qd qp a hx hI hcf0) (cwV 1 B.1.2.2.2.2 gX11_exchange_X11_requireMessage rfl rfl rfl (by decide +kernel) ⟨Nat.le_of_ble_eq_true rfl, Nat.le_of_ble_eq_true rfl⟩) h_3 rfl rfl rfl rfl (Nat.le_of_ble_eq_true rfl) dX11_exchange_2 ⟨Nat.le_of_ble_eq_true rfl, Nat.le_of_ble_eq_true rfl⟩ ⟨Nat.le_of_ble_eq_true rfl, Nat.le_of_ble_eq_true rfl⟩ (by decide) (fun Φ9 h9 => ⟨(fun h8 => h9.1 h8.1), h9.2.1, fun b9 h8 => ((h9.2.2 b9 h8).trans ((fun b9 h9 => rfl) b9 h8))⟩) (fun r_1 Φ1 sz1 st1 hp1 hs1 => ?_)
  obtain ⟨⟨rfl, n_1, b_2, rfl⟩, hq1, hI1, hF1⟩ := hp1
  subst sz1
  replace hs1 : st1 = [] := hs1
  subst st1
  replace hI1 : In G x (ca) Φ1 := hI1
  replace b_2 : n_1 < qn := b_2
  refine z_aload_n B dX11_exchange_5 rfl 0 rfl ?_
  refine z_iload_n B dX11_exchange_6 rfl 2 rfl ?_
  have hcg1 : QbR G x qn qL qd qp Φ1 := (QbR.frw hcf0 hF1 (fun j9 h7 => (show False from h7).elim))
  have h_4 : Φ1 x = some (o_ 13 [.ref (x + 1), .ref (x + 3), .ref (x + 24), .ref (x + 46), .ref (x + 74), .ref (x + 80), .ref (x + 132), .ref (x + 121)]) := ((hF1 x (fun j9 h8 h7 => (show False from h7).elim)).trans h_3)
  refine zb_callV (As := [.int b]) (rest := []) B htab9 (s_X11_requireMessageX G l hl9 Φ1 sz x (ca) qn qL qd qp b hx hI1 hcg1) (cwV 1 B.1.2.2.2.2 gX11_exchange_X11_requireMessage rfl rfl rfl (by decide +kernel) ⟨Nat.le_of_ble_eq_true rfl, Nat.le_of_ble_eq_true rfl⟩) h_4 rfl rfl rfl rfl (Nat.le_of_ble_eq_true rfl) dX11_exchange_7 ⟨Nat.le_of_ble_eq_true rfl, Nat.le_of_ble_eq_true rfl⟩ ⟨Nat.le_of_ble_eq_true rfl, Nat.le_of_ble_eq_true rfl⟩ (by decide) (fun Φ9 h9 => ⟨(fun h8 => h9.1 h8.2), h9.2.1, fun b9 h8 => ((h9.2.2 b9 h8).trans ((fun b9 h9 => ((hF1 b9 (fun j9 h8 h7 => (show False from h7).elim)).trans rfl)) b9 h8))⟩) (fun r_2 Φ2 sz2 st2 hp2 hs2 => ?_)
  obtain ⟨⟨rfl, n_2, b_3, rfl⟩, hq2, hI2, hF2⟩ := hp2
  subst sz2
  replace hs2 : st2 = [] := hs2
  subst st2
  replace hI2 : In G x (ca) Φ2 := hI2
  replace b_3 : n_2 < qn := b_3
  refine z_iload_n B dX11_exchange_10 rfl 1 rfl ?_
  refine z_iload_n B dX11_exchange_11 rfl 2 rfl ?_
  refine z_icmp_ne (tgt := 17) B dX11_exchange_12 rfl (fun c_1 => ?_) (fun c_1 => ?_)
  · have e_1 : ¬ (n_1 = n_2) := fun h9 => c_1 ((nI_eq (a := n_1) (b := n_2) (by omega) (by omega)).mpr h9)
    refine z_aload_n B dX11_exchange_17 rfl 0 rfl ?_
    have h_5 : Φ2 x = some (o_ 13 [.ref (x + 1), .ref (x + 3), .ref (x + 24), .ref (x + 46), .ref (x + 74), .ref (x + 80), .ref (x + 132), .ref (x + 121)]) := ((hF2 x (fun j9 h8 h7 => (show False from h7).elim)).trans h_4)
    refine z_get (ref := "FlowExporter") (C := RX11) (T := TX11) (N := 8) (ci := 13) (v := .ref (x + 46)) B hu_X11_exchange_X11 rfl 3 (Nat.le_of_ble_eq_true rfl) hv_X11_exchange_37 rfl h_5 rfl dX11_exchange_18 ?_
    refine z_iload_n B dX11_exchange_21 rfl 1 rfl ?_
    refine z_iload_n B dX11_exchange_22 rfl 2 rfl ?_
    have hcg2 : QbR G x qn qL qd qp Φ2 := (QbR.frw hcg1 hF2 (fun j9 h7 => (show False from h7).elim))
    have h_6 : Φ2 (x + 46) = some (o_ 9 [.ref (x + 47), .int (nI qn), .int qd]) := ((hF2 (x + 46) (fun j9 h8 h7 => (show False from h7).elim)).trans ((hF1 (x + 46) (fun j9 h8 h7 => (show False from h7).elim)).trans h_1))
    refine z_callV (As := [.int (nI n_1), .int (nI n_2)]) (rest := []) B (s_X7_swapX G l Φ2 sz x (ca) qn qL qd qp n_1 n_2 hx hI2 hcg2 (show n_1 < qn by omega) (show n_2 < qn by omega) (show qn ≤ 12 by omega)) (cwV 2 B.1.2.2.2.2 gX11_exchange_X7_swap rfl rfl rfl (by decide +kernel) ⟨Nat.le_of_ble_eq_true rfl, Nat.le_of_ble_eq_true rfl⟩) h_6 rfl rfl rfl rfl (Nat.le_of_ble_eq_true rfl) dX11_exchange_23 ⟨Nat.le_of_ble_eq_true rfl, Nat.le_of_ble_eq_true rfl⟩ (fun r_3 Φ3 sz3 st3 hp3 hs3 => ?_)
    obtain ⟨⟨rfl, hcg3⟩, hq3, hI3, hF3⟩ := hp3
    subst sz3
    replace hs3 : st3 = [] := hs3
    subst st3
    replace hI3 : In G x (ca) Φ3 := hI3
    refine z_iconst (v := 1) B dX11_exchange_26 rfl ?_
    exact zb_ret (Nat.le_of_ble_eq_true rfl) (Nat.le_of_ble_eq_true rfl) (z_ret_z B dX11_exchange_27 (by decide) ⟨⟨n_1, n_2, by omega, by omega, rfl, rfl, Or.inr ⟨by omega, rfl, hcg3⟩⟩, rfl, hI3, (fun b9 h9 => ((hF3 b9 h9).trans ((hF2 b9 (fun j9 h8 h7 => (show False from h7).elim)).trans ((hF1 b9 (fun j9 h8 h7 => (show False from h7).elim)).trans rfl))))⟩)
  · have e_2 : n_1 = n_2 := (nI_eq (a := n_1) (b := n_2) (by omega) (by omega)).mp c_1
    refine z_iconst (v := 0) B dX11_exchange_15 rfl ?_
    have hcg4 : QbR G x qn qL qd qp Φ2 := (QbR.frw hcg1 hF2 (fun j9 h7 => (show False from h7).elim))
    exact zb_ret (Nat.le_of_ble_eq_true rfl) (Nat.le_of_ble_eq_true rfl) (z_ret_z B dX11_exchange_16 (by decide) ⟨⟨n_1, n_2, by omega, by omega, rfl, rfl, Or.inl ⟨by omega, rfl, hcg4⟩⟩, rfl, hI2, (fun b9 h9 => ((hF2 b9 (fun j9 h8 h7 => (show False from h7).elim)).trans ((hF1 b9 (fun j9 h8 h7 => (show False from h7).elim)).trans rfl)))⟩)

set_option maxHeartbeats 4000000 in
set_option maxRecDepth 100000 in
theorem s_X11_duplicateX (G : EnvG) (l : Launch) (hl9 : l.stackTraces = false) (Φ : Hm) (sz x ca : Nat) (qn : Nat) (qL : Nat → Nat) (qd : Int32) (qp : Nat → Nat) (a : Int32) (hx : G.2.2.2 ≤ x) (hI : In G x ca Φ) (hcf0 : QbR G x qn qL qd qp Φ) : CtB G l yX11_duplicate wsX11_duplicate ({ frames := 7, cells := 1, slots := 6, locals := 102 }) 1 6 [.ref x, .int a] Φ sz (fun v Φ1 sz1 => (∃ (u9 n9 : Nat) (L9 : Nat → Nat) (d9 : Int32), u9 < qn ∧ a = nI u9 ∧ ((qn = 12 ∧ v = some (.int 0) ∧ (qn, qL, qd) = (n9, L9, d9)) ∨ (¬ qn = 12 ∧ v = some (.int 1) ∧ enQ (qL u9) (qn, qL, qd) = (n9, L9, d9))) ∧ QbR G x n9 L9 d9 qp Φ1) ∧ sz1 = sz ∧ In G x (ca) Φ1 ∧ Fr x (fun j9 => 46 ≤ j9 ∧ j9 < 74) Φ Φ1) (fun Φ1 => (¬ InQ qn a) ∧ In G x ca Φ1 ∧ Fr x (fun j9 => False) Φ Φ1) [xIO] := by
  refine CtB.of (cc := cX11_duplicate) (maxL := 3) (ret := (some .boolean)) (by decide) rfl (Nat.le_of_ble_eq_true rfl) ?_
  intro p9 e9 s9 m9 w9 t9 k9 B htab9
  show Z p9 l e9 _ s9 m9 _ w9 t9 k9 _ G 3 0 [(0, .ref x), (1, .int a)] [] Φ sz 0 0
  refine z_aload_n B dX11_duplicate_0 rfl 0 rfl ?_
  refine z_iload_n B dX11_duplicate_1 rfl 1 rfl ?_
  have h_1 := in0 (k := 0) hI rfl
  have h_2 : Φ x = some (o_ 13 [.ref (x + 1), .ref (x + 3), .ref (x + 24), .ref (x + 46), .ref (x + 74), .ref (x + 80), .ref (x + 132), .ref (x + 121)]) := h_1
  refine zb_callV (As := [.int a]) (rest := []) B htab9 (s_X11_requireMessageX G l hl9 Φ sz x (ca) qn qL qd qp a hx hI hcf0) (cwV 1 B.1.2.2.2.2 gX11_duplicate_X11_requireMessage rfl rfl rfl (by decide +kernel) ⟨Nat.le_of_ble_eq_true rfl, Nat.le_of_ble_eq_true rfl⟩) h_2 rfl rfl rfl rfl (Nat.le_of_ble_eq_true rfl) dX11_duplicate_2 ⟨Nat.le_of_ble_eq_true rfl, Nat.le_of_ble_eq_true rfl⟩ ⟨Nat.le_of_ble_eq_true rfl, Nat.le_of_ble_eq_true rfl⟩ (by decide) (fun Φ9 h9 => ⟨h9.1, h9.2.1, fun b9 h8 => ((h9.2.2 b9 h8).trans ((fun b9 h9 => rfl) b9 h8))⟩) (fun r_1 Φ1 sz1 st1 hp1 hs1 => ?_)
  obtain ⟨⟨rfl, n_1, b_1, rfl⟩, hq1, hI1, hF1⟩ := hp1
  subst sz1
  replace hs1 : st1 = [] := hs1
  subst st1
  replace hI1 : In G x (ca) Φ1 := hI1
  replace b_1 : n_1 < qn := b_1
  have hcg1 : QbR G x qn qL qd qp Φ1 := (QbR.frw hcf0 hF1 (fun j9 h7 => (show False from h7).elim))
  have h_3 : Φ1 (x + 46) = some (o_ 9 [.ref (x + 47), .int (nI qn), .int qd]) := hcg1.1
  have b_2 : qn ≤ 12 := QbR.le hcg1
  refine z_aload_n B dX11_duplicate_5 rfl 0 rfl ?_
  have h_4 : Φ1 x = some (o_ 13 [.ref (x + 1), .ref (x + 3), .ref (x + 24), .ref (x + 46), .ref (x + 74), .ref (x + 80), .ref (x + 132), .ref (x + 121)]) := ((hF1 x (fun j9 h8 h7 => (show False from h7).elim)).trans h_2)
  refine z_get (ref := "FlowExporter") (C := RX11) (T := TX11) (N := 8) (ci := 13) (v := .ref (x + 46)) B hu_X11_duplicate_X11 rfl 3 (Nat.le_of_ble_eq_true rfl) hv_X11_duplicate_37 rfl h_4 rfl dX11_duplicate_6 ?_
  refine z_get (ref := "FlowExporter$Queue") (C := RX7) (T := TX7) (N := 3) (ci := 9) (v := .int (nI qn)) B hu_X11_duplicate_X7 rfl 1 (Nat.le_of_ble_eq_true rfl) hv_X11_duplicate_231 rfl h_3 rfl dX11_duplicate_9 ?_
  refine z_bipush (v := 12) B dX11_duplicate_12 rfl ?_
  refine z_icmp_ne (tgt := 19) B dX11_duplicate_14 rfl (fun c_1 => ?_) (fun c_1 => ?_)
  · have e_1 : ¬ (qn = 12) := fun h9 => c_1 ((nI_eq (a := qn) (b := 12) (by omega) (by omega)).mpr h9)
    refine z_aload_n B dX11_duplicate_19 rfl 0 rfl ?_
    refine z_get (ref := "FlowExporter") (C := RX11) (T := TX11) (N := 8) (ci := 13) (v := .ref (x + 46)) B hu_X11_duplicate_X11 rfl 3 (Nat.le_of_ble_eq_true rfl) hv_X11_duplicate_37 rfl h_4 rfl dX11_duplicate_20 ?_
    refine z_iload_n B dX11_duplicate_23 rfl 1 rfl ?_
    have hlt9 := QbR.lt hcg1 (show qn < 13 by omega)
    have hcp9 : cap (48 + 2 * qp qn) = 600 := cap_q (by omega) (by omega)
    have e_2 := QbR.ms hcg1 (show n_1 < qn by omega)
    have b_3 : qL n_1 ≤ 600 := e_2.1
    have h_5 : Φ1 (x + (48 + 2 * qp n_1)) = some (o_ 7 [.ref (x + (48 + 2 * qp n_1 + 1)), .int (nI (qL n_1))]) := e_2.2
    refine z_callV (As := [.int (nI n_1)]) (rest := []) B (s_X7_messageAtX G l Φ1 sz x (ca) qn qL qd qp n_1 hx hI1 hcg1 (show n_1 < 13 by omega)) (cwV 1 B.1.2.2.2.2 gX11_duplicate_X7_messageAt rfl rfl rfl (by decide +kernel) ⟨Nat.le_of_ble_eq_true rfl, Nat.le_of_ble_eq_true rfl⟩) h_3 rfl rfl rfl rfl (Nat.le_of_ble_eq_true rfl) dX11_duplicate_24 ⟨Nat.le_of_ble_eq_true rfl, Nat.le_of_ble_eq_true rfl⟩ (fun r_2 Φ2 sz2 st2 hp2 hs2 => ?_)
    obtain ⟨rfl, hq2, hI2, hF2⟩ := hp2
    subst sz2
    replace hs2 : st2 = [.ref (x + (48 + 2 * qp n_1))] := hs2
    subst st2
    replace hI2 : In G x (ca) Φ2 := hI2
    refine z_astore_n (lv' := [(2, .ref (x + (48 + 2 * qp n_1))), (0, .ref x), (1, .int (nI n_1))]) B dX11_duplicate_27 rfl (Nat.le_of_ble_eq_true rfl) rfl ?_
    refine z_aload_n B dX11_duplicate_28 rfl 1 rfl ?_
    have h_6 : Φ2 x = some (o_ 13 [.ref (x + 1), .ref (x + 3), .ref (x + 24), .ref (x + 46), .ref (x + 74), .ref (x + 80), .ref (x + 132), .ref (x + 121)]) := ((hF2 x (fun j9 h8 h7 => (show False from h7).elim)).trans h_4)
    refine z_get (ref := "FlowExporter") (C := RX11) (T := TX11) (N := 8) (ci := 13) (v := .ref (x + 46)) B hu_X11_duplicate_X11 rfl 3 (Nat.le_of_ble_eq_true rfl) hv_X11_duplicate_37 rfl h_6 rfl dX11_duplicate_29 ?_
    have hcg2 : QbR G x qn qL qd qp Φ2 := (QbR.frw hcg1 hF2 (fun j9 h7 => (show False from h7).elim))
    have h_7 : Φ2 (x + 46) = some (o_ 9 [.ref (x + 47), .int (nI qn), .int qd]) := ((hF2 (x + 46) (fun j9 h8 h7 => (show False from h7).elim)).trans h_3)
    refine z_callV (As := []) (rest := []) B (s_X7_freeMessageX G l Φ2 sz x (ca) qn qL qd qp hx hI2 hcg2) (cwV 0 B.1.2.2.2.2 gX11_duplicate_X7_freeMessage rfl rfl rfl (by decide +kernel) ⟨Nat.le_of_ble_eq_true rfl, Nat.le_of_ble_eq_true rfl⟩) h_7 rfl rfl rfl rfl (Nat.le_of_ble_eq_true rfl) dX11_duplicate_32 ⟨Nat.le_of_ble_eq_true rfl, Nat.le_of_ble_eq_true rfl⟩ (fun r_3 Φ3 sz3 st3 hp3 hs3 => ?_)
    obtain ⟨⟨rfl, h_8, hcg3⟩, hq3, hI3, hF3⟩ := hp3
    subst sz3
    replace hs3 : st3 = [.ref (x + (48 + 2 * qp qn))] := hs3
    subst st3
    replace hI3 : In G x (ca) Φ3 := hI3
    have e_3 := QbR.ms hcg3 (show n_1 < qn by omega)
    have b_4 : qL n_1 ≤ 600 := e_3.1
    have h_9 : Φ3 (x + (48 + 2 * qp n_1)) = some (o_ 7 [.ref (x + (48 + 2 * qp n_1 + 1)), .int (nI (qL n_1))]) := e_3.2
    refine z_aload_n B dX11_duplicate_35 rfl 0 rfl ?_
    refine z_iconst (v := 0) B dX11_duplicate_36 rfl ?_
    refine z_aload_n B dX11_duplicate_37 rfl 0 rfl ?_
    refine z_get (ref := "FlowExporter$Message") (C := RX5) (T := TX5) (N := 2) (ci := 7) (v := .int (nI (qL n_1))) B hu_X11_duplicate_X5 rfl 1 (Nat.le_of_ble_eq_true rfl) hv_X11_duplicate_97 rfl h_9 rfl dX11_duplicate_38 ?_
    refine z_callV (As := [.ref (x + (48 + 2 * qp n_1)), .int 0, .int (nI (qL n_1))]) (rest := []) B (s_X5_putFromL G l Φ3 sz x (ca) 0 (qL n_1) (48 + 2 * qp qn) (48 + 2 * qp n_1) 0 (qL n_1) hx hI3 (kd_q (QbR.lt hcg2 (show qn < 13 by omega))) (kd_q (QbR.lt hcg3 (show n_1 < 13 by omega))) h_8 h_9 (show 0 + (qL n_1) ≤ cap (48 + 2 * qp qn) by omega) (show 0 + (qL n_1) ≤ (qL n_1) by omega) (show (qL n_1) ≤ cap (48 + 2 * qp n_1) by omega)) (cwV 3 B.1.2.2.2.2 gX11_duplicate_X5_putFrom rfl rfl rfl (by decide +kernel) ⟨Nat.le_of_ble_eq_true rfl, Nat.le_of_ble_eq_true rfl⟩) h_8 rfl rfl rfl rfl (Nat.le_of_ble_eq_true rfl) dX11_duplicate_41 ⟨Nat.le_of_ble_eq_true rfl, Nat.le_of_ble_eq_true rfl⟩ (fun r_4 Φ4 sz4 st4 hp4 hs4 => ?_)
    obtain ⟨⟨rfl, h_10⟩, hq4, hI4, hF4⟩ := hp4
    subst sz4
    replace hs4 : st4 = [] := hs4
    subst st4
    replace hI4 : In G x (ca) Φ4 := hI4
    refine z_aload_n B dX11_duplicate_44 rfl 1 rfl ?_
    have h_11 : Φ4 x = some (o_ 13 [.ref (x + 1), .ref (x + 3), .ref (x + 24), .ref (x + 46), .ref (x + 74), .ref (x + 80), .ref (x + 132), .ref (x + 121)]) := ((hF4 x (fun j9 h8 h7 => by have h6 : j9 = (48 + 2 * qp qn) ∨ j9 = (48 + 2 * qp qn) + 1 := h7; omega)).trans ((hF3 x (fun j9 h8 h7 => by have h6 : j9 = 48 + 2 * qp qn := h7; omega)).trans h_6))
    refine z_get (ref := "FlowExporter") (C := RX11) (T := TX11) (N := 8) (ci := 13) (v := .ref (x + 46)) B hu_X11_duplicate_X11 rfl 3 (Nat.le_of_ble_eq_true rfl) hv_X11_duplicate_37 rfl h_11 rfl dX11_duplicate_45 ?_
    have hcg4 : QbR G x qn qL qd qp Φ4 := (QbR.frw hcg3 hF4 (fun j9 h7 => by have h6 : j9 = (48 + 2 * qp qn) ∨ j9 = (48 + 2 * qp qn) + 1 := h7; omega))
    have h_12 : Φ4 (x + 46) = some (o_ 9 [.ref (x + 47), .int (nI qn), .int qd]) := ((hF4 (x + 46) (fun j9 h8 h7 => by have h6 : j9 = (48 + 2 * qp qn) ∨ j9 = (48 + 2 * qp qn) + 1 := h7; omega)).trans ((hF3 (x + 46) (fun j9 h8 h7 => by have h6 : j9 = 48 + 2 * qp qn := h7; omega)).trans h_7))
    refine z_callV (As := []) (rest := []) B (s_X7_addFreeMessageX G l Φ4 sz x (ca) qn qL qd qp (qL n_1) hx hI4 hcg4 (show (qL n_1) ≤ 600 by omega) (h_10.trans (congrArg (fun w9 : Nat => some (o_ 7 [.ref (x + (48 + 2 * qp qn + 1)), .int (nI w9)])) (show 0 + (qL n_1) = qL n_1 by omega)))) (cwV 0 B.1.2.2.2.2 gX11_duplicate_X7_addFreeMessage rfl rfl rfl (by decide +kernel) ⟨Nat.le_of_ble_eq_true rfl, Nat.le_of_ble_eq_true rfl⟩) h_12 rfl rfl rfl rfl (Nat.le_of_ble_eq_true rfl) dX11_duplicate_48 ⟨Nat.le_of_ble_eq_true rfl, Nat.le_of_ble_eq_true rfl⟩ (fun r_5 Φ5 sz5 st5 hp5 hs5 => ?_)
    obtain ⟨⟨n_2, f_1, v_1, rfl, hcg5, e_4⟩, hq5, hI5, hF5⟩ := hp5
    subst sz5
    replace hs5 : st5 = [] := hs5
    subst st5
    replace hI5 : In G x (ca) Φ5 := hI5
    replace e_4 : enQ (qL n_1) (qn, qL, qd) = (n_2, f_1, v_1) := e_4
    refine z_iconst (v := 1) B dX11_duplicate_51 rfl ?_
    exact zb_ret (Nat.le_of_ble_eq_true rfl) (Nat.le_of_ble_eq_true rfl) (z_ret_z B dX11_duplicate_52 (by decide) ⟨⟨n_1, n_2, f_1, v_1, by omega, rfl, Or.inr ⟨by omega, rfl, e_4⟩, hcg5⟩, rfl, hI5, (fun b9 h9 => ((hF5 b9 (fun j9 h8 h7 => h9 j9 h8 (fq_688 j9 h7))).trans ((hF4 b9 (fun j9 h8 h7 => h9 j9 h8 (show 46 ≤ j9 ∧ j9 < 74 by have h6 : j9 = (48 + 2 * qp qn) ∨ j9 = (48 + 2 * qp qn) + 1 := h7; omega))).trans ((hF3 b9 (fun j9 h8 h7 => h9 j9 h8 (show 46 ≤ j9 ∧ j9 < 74 by have h6 : j9 = 48 + 2 * qp qn := h7; omega))).trans ((hF2 b9 (fun j9 h8 h7 => (show False from h7).elim)).trans ((hF1 b9 (fun j9 h8 h7 => (show False from h7).elim)).trans rfl))))))⟩)
  · have e_5 : qn = 12 := (nI_eq (a := qn) (b := 12) (by omega) (by omega)).mp c_1
    refine z_iconst (v := 0) B dX11_duplicate_17 rfl ?_
    exact zb_ret (Nat.le_of_ble_eq_true rfl) (Nat.le_of_ble_eq_true rfl) (z_ret_z B dX11_duplicate_18 (by decide) ⟨⟨n_1, qn, qL, qd, by omega, rfl, Or.inl ⟨by omega, rfl, rfl⟩, hcg1⟩, rfl, hI1, (fun b9 h9 => ((hF1 b9 (fun j9 h8 h7 => (show False from h7).elim)).trans rfl))⟩)

theorem fq_762 : ∀ j9 : Nat, (j9 = 46 ∨ j9 = 47) → (j9 = 46 ∨ (j9 = 47 ∨ (121 ≤ j9 ∧ j9 < 149))) := by
  intro j9 h
  omega

theorem fq_763 : ∀ j9 : Nat, ((121 ≤ j9 ∧ j9 < 149)) → (j9 = 46 ∨ (j9 = 47 ∨ (121 ≤ j9 ∧ j9 < 149))) := by
  intro j9 h
  omega

set_option maxHeartbeats 4000000 in
set_option maxRecDepth 100000 in
theorem s_X11_deliverX (G : EnvG) (l : Launch) (hl9 : l.stackTraces = false) (Φ : Hm) (sz x ca : Nat) (qn : Nat) (qL : Nat → Nat) (qd : Int32) (qp : Nat → Nat) (a : Int32) (hx : G.2.2.2 ≤ x) (hI : In G x ca Φ) (hcf0 : QbR G x qn qL qd qp Φ) (hca : ca < 1000000) : CtB G l yX11_deliver wsX11_deliver ({ frames := 7, cells := 1, slots := 6, locals := 156 }) 1 6 [.ref x, .int a] Φ sz (fun v Φ1 sz1 => (∃ u9 : Nat, u9 < qn ∧ a = nI u9 ∧ (∃ r9 : Int32, v = some (.int r9)) ∧ QbR G x (qn - 1) (rmL qL u9) qd (shP qp qn u9) Φ1) ∧ sz1 = sz ∧ In G x (ca + 1) Φ1 ∧ Fr x (fun j9 => j9 = 46 ∨ (j9 = 47 ∨ (121 ≤ j9 ∧ j9 < 149))) Φ Φ1) (fun Φ1 => (¬ InQ qn a) ∧ In G x ca Φ1 ∧ Fr x (fun j9 => False) Φ Φ1) [xIO] := by
  refine CtB.of (cc := cX11_deliver) (maxL := 2) (ret := (some .int)) (by decide) rfl (Nat.le_of_ble_eq_true rfl) ?_
  intro p9 e9 s9 m9 w9 t9 k9 B htab9
  show Z p9 l e9 _ s9 m9 _ w9 t9 k9 _ G 2 0 [(0, .ref x), (1, .int a)] [] Φ sz 0 0
  refine z_aload_n B dX11_deliver_0 rfl 0 rfl ?_
  refine z_iload_n B dX11_deliver_1 rfl 1 rfl ?_
  have h_1 := in0 (k := 0) hI rfl
  have h_2 : Φ x = some (o_ 13 [.ref (x + 1), .ref (x + 3), .ref (x + 24), .ref (x + 46), .ref (x + 74), .ref (x + 80), .ref (x + 132), .ref (x + 121)]) := h_1
  refine zb_callV (As := [.int a]) (rest := []) B htab9 (s_X11_requireMessageX G l hl9 Φ sz x (ca) qn qL qd qp a hx hI hcf0) (cwV 1 B.1.2.2.2.2 gX11_deliver_X11_requireMessage rfl rfl rfl (by decide +kernel) ⟨Nat.le_of_ble_eq_true rfl, Nat.le_of_ble_eq_true rfl⟩) h_2 rfl rfl rfl rfl (Nat.le_of_ble_eq_true rfl) dX11_deliver_2 ⟨Nat.le_of_ble_eq_true rfl, Nat.le_of_ble_eq_true rfl⟩ ⟨Nat.le_of_ble_eq_true rfl, Nat.le_of_ble_eq_true rfl⟩ (by decide) (fun Φ9 h9 => ⟨h9.1, h9.2.1, fun b9 h8 => ((h9.2.2 b9 h8).trans ((fun b9 h9 => rfl) b9 h8))⟩) (fun r_1 Φ1 sz1 st1 hp1 hs1 => ?_)
  obtain ⟨⟨rfl, n_1, b_1, rfl⟩, hq1, hI1, hF1⟩ := hp1
  subst sz1
  replace hs1 : st1 = [] := hs1
  subst st1
  replace hI1 : In G x (ca) Φ1 := hI1
  replace b_1 : n_1 < qn := b_1
  refine z_aload_n B dX11_deliver_5 rfl 0 rfl ?_
  have h_3 : Φ1 x = some (o_ 13 [.ref (x + 1), .ref (x + 3), .ref (x + 24), .ref (x + 46), .ref (x + 74), .ref (x + 80), .ref (x + 132), .ref (x + 121)]) := ((hF1 x (fun j9 h8 h7 => (show False from h7).elim)).trans h_2)
  refine z_get (ref := "FlowExporter") (C := RX11) (T := TX11) (N := 8) (ci := 13) (v := .ref (x + 132)) B hu_X11_deliver_X11 rfl 6 (Nat.le_of_ble_eq_true rfl) hv_X11_deliver_71 rfl h_3 rfl dX11_deliver_6 ?_
  refine z_aload_n B dX11_deliver_9 rfl 0 rfl ?_
  refine z_get (ref := "FlowExporter") (C := RX11) (T := TX11) (N := 8) (ci := 13) (v := .ref (x + 46)) B hu_X11_deliver_X11 rfl 3 (Nat.le_of_ble_eq_true rfl) hv_X11_deliver_37 rfl h_3 rfl dX11_deliver_10 ?_
  have hcg1 : QbR G x qn qL qd qp Φ1 := (QbR.frw hcf0 hF1 (fun j9 h7 => (show False from h7).elim))
  have h_4 : Φ1 (x + 46) = some (o_ 9 [.ref (x + 47), .int (nI qn), .int qd]) := hcg1.1
  have b_2 : qn ≤ 12 := QbR.le hcg1
  have e_1 := QbR.ms hcg1 (show n_1 < qn by omega)
  have b_3 : qL n_1 ≤ 600 := e_1.1
  have h_5 : Φ1 (x + (48 + 2 * qp n_1)) = some (o_ 7 [.ref (x + (48 + 2 * qp n_1 + 1)), .int (nI (qL n_1))]) := e_1.2
  refine z_iload_n B dX11_deliver_13 rfl 1 rfl ?_
  refine z_callV (As := [.int (nI n_1)]) (rest := [.ref (x + 132)]) B (s_X7_takeOutX G l Φ1 sz x (ca) qn qL qd qp n_1 hx hI1 hcg1 (show n_1 < qn by omega) (show qn ≤ 12 by omega)) (cwV 1 B.1.2.2.2.2 gX11_deliver_X7_takeOut rfl rfl rfl (by decide +kernel) ⟨Nat.le_of_ble_eq_true rfl, Nat.le_of_ble_eq_true rfl⟩) h_4 rfl rfl rfl rfl (Nat.le_of_ble_eq_true rfl) dX11_deliver_14 ⟨Nat.le_of_ble_eq_true rfl, Nat.le_of_ble_eq_true rfl⟩ (fun r_2 Φ2 sz2 st2 hp2 hs2 => ?_)
  obtain ⟨⟨rfl, hcg2⟩, hq2, hI2, hF2⟩ := hp2
  subst sz2
  replace hs2 : st2 = [.ref (x + (48 + 2 * qp n_1)), .ref (x + 132)] := hs2
  subst st2
  replace hI2 : In G x (ca) Φ2 := hI2
  refine z_aload_n B dX11_deliver_17 rfl 0 rfl ?_
  have h_6 : Φ2 x = some (o_ 13 [.ref (x + 1), .ref (x + 3), .ref (x + 24), .ref (x + 46), .ref (x + 74), .ref (x + 80), .ref (x + 132), .ref (x + 121)]) := ((hF2 x fq_532).trans h_3)
  refine z_get (ref := "FlowExporter") (C := RX11) (T := TX11) (N := 8) (ci := 13) (v := .ref (x + 80)) B hu_X11_deliver_X11 rfl 5 (Nat.le_of_ble_eq_true rfl) hv_X11_deliver_55 rfl h_6 rfl dX11_deliver_18 ?_
  obtain ⟨v_1, v_2, v_3, v_4, v_5, v_6, v_7, v_8, v_9, h_7, b_4⟩ := in16 (k := 80) hI2 rfl
  have h_8 : Φ2 (x + 80) = some (o_ 4 [.ref (x + 3), .ref (x + 74), .ref (x + 81), .ref (x + 95), .int v_1, .int v_2, .int v_3, .int v_4, .int v_5, .int v_6, .long v_7, .long v_8, .long v_9]) := h_7
  refine z_get (ref := "FlowExporter$Exporter") (C := RX2) (T := TX2) (N := 13) (ci := 4) (v := .int v_1) B hu_X11_deliver_X2 rfl 4 (Nat.le_of_ble_eq_true rfl) hv_X11_deliver_110 rfl h_8 rfl dX11_deliver_21 ?_
  obtain ⟨n_2, v_10, v_11, h_9, b_5⟩ := in25 (k := 132) hI2 rfl
  have h_10 : Φ2 (x + 132) = some (o_ 2 [.ref (x + 3), .ref (x + 121), .ref (x + 133), .ref (x + 134), .ref (x + 135), .ref (x + 137), .ref (x + 138), .ref (x + 139), .ref (x + 140), .int (nI n_2), .int v_10, .int v_11]) := h_9
  refine z_callV (As := [.ref (x + (48 + 2 * qp n_1)), .int v_1]) (rest := []) B (s_X0_take G l Φ2 sz x (ca) (48 + 2 * qp n_1) v_1 hx hI2 (kd_q (QbR.lt hcg1 (show n_1 < 13 by omega))) (show ca < 1000000 by omega)) (cwV 2 B.1.2.2.2.2 gX11_deliver_X0_take rfl rfl rfl (by decide +kernel) ⟨Nat.le_of_ble_eq_true rfl, Nat.le_of_ble_eq_true rfl⟩) h_10 rfl rfl rfl rfl (Nat.le_of_ble_eq_true rfl) dX11_deliver_24 ⟨Nat.le_of_ble_eq_true rfl, Nat.le_of_ble_eq_true rfl⟩ (fun r_3 Φ3 sz3 st3 hp3 hs3 => ?_)
  obtain ⟨⟨v_12, rfl⟩, hq3, hI3, hF3⟩ := hp3
  subst sz3
  replace hs3 : st3 = [.int v_12] := hs3
  subst st3
  replace hI3 : In G x (ca + 1) Φ3 := hI3
  have hcg3 : QbR G x (qn - 1) (rmL qL n_1) qd (shP qp qn n_1) Φ3 := (QbR.frw hcg2 hF3 (fun j9 h7 => by have h6 : (121 ≤ j9 ∧ j9 < 149) := h7; omega))
  exact zb_ret (Nat.le_of_ble_eq_true rfl) (Nat.le_of_ble_eq_true rfl) (z_ret_i B dX11_deliver_27 ⟨⟨n_1, by omega, rfl, ⟨_, rfl⟩, hcg3⟩, rfl, hI3, (fun b9 h9 => ((hF3 b9 (fun j9 h8 h7 => h9 j9 h8 (fq_763 j9 h7))).trans ((hF2 b9 (fun j9 h8 h7 => h9 j9 h8 (fq_762 j9 h7))).trans ((hF1 b9 (fun j9 h8 h7 => (show False from h7).elim)).trans rfl))))⟩)

theorem fq_764 {x : Nat} : ∀ j9 : Nat, x = x + j9 → (j9 = 46 ∨ (j9 = 47 ∨ (121 ≤ j9 ∧ j9 < 149))) → False := by
  intro j9 h1 h2
  omega

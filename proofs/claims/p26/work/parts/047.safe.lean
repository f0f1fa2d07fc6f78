set_option maxHeartbeats 4000000 in
set_option maxRecDepth 100000 in
theorem s_X2_endIntervalX (G : EnvG) (l : Launch) (Φ : Hm) (sz x ca : Nat) (tm : Nat) (r : Nat) (w : Nat) (aq : Int32) (xp : Int32) (xb : Int32) (ob : Int64) (sm : Int64) (un : UN) (t : Nat) (s : Nat) (c : Cf) (hx : G.2.2.2 ≤ x) (hI : In G x ca Φ) (hc0 : Φ (x + 80) = some (o_ 4 [.ref (x + 3), .ref (x + 74), .ref (x + 81), .ref (x + 95), .int (nI tm), .int (nI r), .int (nI w), .int aq, .int xp, .int xb, .long ob, .long sm, .long (un.1)])) (hcf0 : CfA G x t s c Φ) (hr : 1 ≤ r ∧ r ≤ 1024) (had : aq = 0 ∨ aq = 1) : Ct G l yX2_endInterval wsX2_endInterval ({ frames := 1, cells := 0, slots := 0, locals := 21 }) 0 0 [.ref (x + 80)] Φ sz (fun v Φ1 sz1 => (v = some (.int (nI (nrN c aq (xp - xb) r))) ∧ Φ1 (x + 80) = some (o_ 4 [.ref (x + 3), .ref (x + 74), .ref (x + 81), .ref (x + 95), .int (nI tm), .int (nI r), .int (nI w), .int aq, .int xp, .int xp, .long ob, .long sm, .long (un.1)])) ∧ sz1 = sz ∧ In G x (ca) Φ1 ∧ Fr x (fun j9 => j9 = 80) Φ Φ1) := by
  refine Ct.of (cc := cX2_endInterval) (maxL := 3) (ret := (some .int)) (by decide) rfl (Nat.le_of_ble_eq_true rfl) ?_
  intro p9 e9 s9 m9 w9 t9 k9 B
  show Z p9 l e9 _ s9 m9 _ w9 t9 k9 _ G 3 0 [(0, .ref (x + 80))] [] Φ sz 0 0
  refine z_aload_n B dX2_endInterval_0 rfl 0 rfl ?_
  refine z_get (ref := "FlowExporter$Exporter") (C := RX2) (T := TX2) (N := 13) (ci := 4) (v := .int xp) B hu_X2_endInterval_X2 rfl 8 (Nat.le_of_ble_eq_true rfl) hv_X2_endInterval_37 rfl hc0 rfl dX2_endInterval_1 ?_
  refine z_aload_n B dX2_endInterval_4 rfl 0 rfl ?_
  refine z_get (ref := "FlowExporter$Exporter") (C := RX2) (T := TX2) (N := 13) (ci := 4) (v := .int xb) B hu_X2_endInterval_X2 rfl 9 (Nat.le_of_ble_eq_true rfl) hv_X2_endInterval_40 rfl hc0 rfl dX2_endInterval_5 ?_
  refine z_isub B dX2_endInterval_8 ?_
  refine z_istore_n (lv' := [(1, .int (xp - xb)), (0, .ref (x + 80))]) B dX2_endInterval_9 rfl (Nat.le_of_ble_eq_true rfl) rfl ?_
  refine z_aload_n B dX2_endInterval_10 rfl 1 rfl ?_
  refine z_aload_n B dX2_endInterval_11 rfl 1 rfl ?_
  refine z_get (ref := "FlowExporter$Exporter") (C := RX2) (T := TX2) (N := 13) (ci := 4) (v := .int xp) B hu_X2_endInterval_X2 rfl 8 (Nat.le_of_ble_eq_true rfl) hv_X2_endInterval_37 rfl hc0 rfl dX2_endInterval_12 ?_
  refine z_put (ref := "FlowExporter$Exporter") (C := RX2) (T := TX2) (N := 13) (ci := 4) (v := .int xp) B hu_X2_endInterval_X2 tyX2 tyX2_ok nmX2 rfl 9 (Nat.le_of_ble_eq_true rfl) hv_X2_endInterval_40 rfl (Or.inl rfl) hc0 (Nat.le_trans hx (Nat.le_add_right x 80)) rfl rfl (Nat.le_of_ble_eq_true rfl) dX2_endInterval_15 (fun Φ1 hΦ1 => ?_)
  have h_1 : Φ1 (x + 80) = some (o_ 4 [.ref (x + 3), .ref (x + 74), .ref (x + 81), .ref (x + 95), .int (nI tm), .int (nI r), .int (nI w), .int aq, .int xp, .int xp, .long ob, .long sm, .long (un.1)]) := fset_at hΦ1
  have hI1 : In G x (ca) Φ1 := In.put (k := 80) hI hΦ1 (ok16 (k := 80) rfl ⟨nI tm, nI r, nI w, aq, xp, xp, ob, sm, un.1, rfl, had⟩)
  refine z_aload_n B dX2_endInterval_18 rfl 1 rfl ?_
  refine z_get (ref := "FlowExporter$Exporter") (C := RX2) (T := TX2) (N := 13) (ci := 4) (v := .ref (x + 3)) B hu_X2_endInterval_X2 rfl 0 (Nat.le_of_ble_eq_true rfl) hv_X2_endInterval_53 rfl h_1 rfl dX2_endInterval_19 ?_
  refine z_iconst (v := 1) B dX2_endInterval_22 rfl ?_
  obtain ⟨v_1, v_2, h_2⟩ := in3 (k := 3) hI1 rfl
  have h_3 : Φ1 (x + 3) = some (o_ 3 [.ref (x + 4), .ref (x + 5), .ref (x + 6), .ref (x + 7), .int v_1, .int v_2]) := h_2
  have hcg1 : CfA G x t s c Φ1 := (CfA.off (k := 80) hcf0 hΦ1 (by intros; omega))
  refine z_callV (As := [.int 1]) (rest := []) B (s_X1_getX G l Φ1 sz x (ca) t s c 1 hx hI1 hcg1 (show 1 < 9 by omega)) (cwV 1 B.1.2.2.2.2 gX2_endInterval_X1_get rfl rfl rfl (by decide +kernel) ⟨Nat.le_of_ble_eq_true rfl, Nat.le_of_ble_eq_true rfl⟩) h_3 rfl rfl rfl rfl (Nat.le_of_ble_eq_true rfl) dX2_endInterval_23 ⟨Nat.le_of_ble_eq_true rfl, Nat.le_of_ble_eq_true rfl⟩ (fun r_1 Φ2 sz1 st1 hp1 hs1 => ?_)
  obtain ⟨rfl, hq1, hI2, hF1⟩ := hp1
  subst sz1
  replace hs1 : st1 = [.int (c 1)] := hs1
  subst st1
  replace hI2 : In G x (ca) Φ2 := hI2
  refine z_istore_n (lv' := [(2, .int (c 1)), (1, .int (xp - xb)), (0, .ref (x + 80))]) B dX2_endInterval_26 rfl (Nat.le_of_ble_eq_true rfl) rfl ?_
  refine z_aload_n B dX2_endInterval_27 rfl 2 rfl ?_
  have h_4 : Φ2 (x + 80) = some (o_ 4 [.ref (x + 3), .ref (x + 74), .ref (x + 81), .ref (x + 95), .int (nI tm), .int (nI r), .int (nI w), .int aq, .int xp, .int xp, .long ob, .long sm, .long (un.1)]) := ((hF1 (x + 80) (fun j9 h8 h7 => (show False from h7).elim)).trans h_1)
  refine z_get (ref := "FlowExporter$Exporter") (C := RX2) (T := TX2) (N := 13) (ci := 4) (v := .int aq) B hu_X2_endInterval_X2 rfl 7 (Nat.le_of_ble_eq_true rfl) hv_X2_endInterval_33 rfl h_4 rfl dX2_endInterval_28 ?_
  refine z_if_eq (tgt := 56) B dX2_endInterval_31 rfl (fun c_1 => ?_) (fun c_1 => ?_)
  · refine z_aload_n B dX2_endInterval_56 rfl 2 rfl ?_
    refine z_get (ref := "FlowExporter$Exporter") (C := RX2) (T := TX2) (N := 13) (ci := 4) (v := .int aq) B hu_X2_endInterval_X2 rfl 7 (Nat.le_of_ble_eq_true rfl) hv_X2_endInterval_33 rfl h_4 rfl dX2_endInterval_57 ?_
    refine z_if_eq (tgt := 85) B dX2_endInterval_60 rfl (fun c_2 => ?_) (fun c_2 => ?_)
    · refine z_aload_n B dX2_endInterval_85 rfl 2 rfl ?_
      refine z_get (ref := "FlowExporter$Exporter") (C := RX2) (T := TX2) (N := 13) (ci := 4) (v := .int (nI r)) B hu_X2_endInterval_X2 rfl 5 (Nat.le_of_ble_eq_true rfl) hv_X2_endInterval_27 rfl h_4 rfl dX2_endInterval_86 ?_
      have k_1 : (0 : Int32).toInt = 0 := by decide
      have q_1 : (aq.toInt = (0 : Int32).toInt) := congrArg Int32.toInt c_1
      have q_2 : (aq.toInt = (0 : Int32).toInt) := congrArg Int32.toInt c_2
      have ha9 : aq = 1 ∨ aq.toInt = 0 := had.elim (fun q => Or.inr (by rw [q]; decide)) Or.inl
      exact z_ret_i B dX2_endInterval_89 ⟨⟨(congrArg (fun w9 : Nat => some (Value.int (nI w9))) (nrN_c (fun h9 => by obtain ⟨g1, g2, g3⟩ := h9; have g4 := congrArg Int32.toInt g1; have g5 : (1 : Int32).toInt = 1 := (by decide); omega) (fun h9 => by obtain ⟨g1, g2, g3⟩ := h9; have g4 := congrArg Int32.toInt g1; have g5 : (1 : Int32).toInt = 1 := (by decide); omega)).symm), h_4⟩, rfl, hI2, (fun b9 h9 => ((hF1 b9 (fun j9 h8 h7 => (show False from h7).elim)).trans ((fset_fr hΦ1 (fun h8 => h9 (80) h8 (show 80 = 80 by decide))).trans rfl)))⟩
    · refine z_iconst (v := 2) B dX2_endInterval_63 rfl ?_
      refine z_iload_n B dX2_endInterval_64 rfl 1 rfl ?_
      refine z_imul B dX2_endInterval_65 ?_
      refine z_iload_n B dX2_endInterval_66 rfl 0 rfl ?_
      refine z_icmp_ge (tgt := 85) B dX2_endInterval_67 rfl (fun c_3 => ?_) (fun c_3 => ?_)
      · refine z_aload_n B dX2_endInterval_85 rfl 2 rfl ?_
        refine z_get (ref := "FlowExporter$Exporter") (C := RX2) (T := TX2) (N := 13) (ci := 4) (v := .int (nI r)) B hu_X2_endInterval_X2 rfl 5 (Nat.le_of_ble_eq_true rfl) hv_X2_endInterval_27 rfl h_4 rfl dX2_endInterval_86 ?_
        have k_2 : (0 : Int32).toInt = 0 := by decide
        have q_3 : (aq.toInt = (0 : Int32).toInt) := congrArg Int32.toInt c_1
        have q_4 : ¬ (aq.toInt = (0 : Int32).toInt) := fun h9 => c_2 (Int32.toInt_inj.mp h9)
        have q_5 : ((c 1).toInt ≤ (2 * (xp - xb)).toInt) := Int32.le_iff_toInt_le.mp c_3
        have ha9 : aq = 1 ∨ aq.toInt = 0 := had.elim (fun q => Or.inr (by rw [q]; decide)) Or.inl
        exact z_ret_i B dX2_endInterval_89 ⟨⟨(congrArg (fun w9 : Nat => some (Value.int (nI w9))) (nrN_c (fun h9 => by obtain ⟨g1, g2, g3⟩ := h9; have g4 := congrArg Int32.toInt g1; have g5 : (1 : Int32).toInt = 1 := (by decide); omega) (fun h9 => by obtain ⟨g1, g2, g3⟩ := h9; have g4 := congrArg Int32.toInt g1; have g5 : (1 : Int32).toInt = 1 := (by decide); omega)).symm), h_4⟩, rfl, hI2, (fun b9 h9 => ((hF1 b9 (fun j9 h8 h7 => (show False from h7).elim)).trans ((fset_fr hΦ1 (fun h8 => h9 (80) h8 (show 80 = 80 by decide))).trans rfl)))⟩
      · refine z_aload_n B dX2_endInterval_70 rfl 2 rfl ?_
        refine z_get (ref := "FlowExporter$Exporter") (C := RX2) (T := TX2) (N := 13) (ci := 4) (v := .int (nI r)) B hu_X2_endInterval_X2 rfl 5 (Nat.le_of_ble_eq_true rfl) hv_X2_endInterval_27 rfl h_4 rfl dX2_endInterval_71 ?_
        refine z_iconst (v := 2) B dX2_endInterval_74 rfl ?_
        refine z_icmp_lt (tgt := 85) B dX2_endInterval_75 rfl (fun c_4 => ?_) (fun c_4 => ?_)
        · have e_1 : r < 2 := (nI_ltI (a := r) (b := 2) (by omega) (by omega)).mp c_4
          refine z_aload_n B dX2_endInterval_85 rfl 2 rfl ?_
          refine z_get (ref := "FlowExporter$Exporter") (C := RX2) (T := TX2) (N := 13) (ci := 4) (v := .int (nI r)) B hu_X2_endInterval_X2 rfl 5 (Nat.le_of_ble_eq_true rfl) hv_X2_endInterval_27 rfl h_4 rfl dX2_endInterval_86 ?_
          have k_3 : (0 : Int32).toInt = 0 := by decide
          have q_6 : (aq.toInt = (0 : Int32).toInt) := congrArg Int32.toInt c_1
          have q_7 : ¬ (aq.toInt = (0 : Int32).toInt) := fun h9 => c_2 (Int32.toInt_inj.mp h9)
          have q_8 : ¬ ((c 1).toInt ≤ (2 * (xp - xb)).toInt) := fun h9 => c_3 (Int32.le_iff_toInt_le.mpr h9)
          have k_4 : (nI r).toInt = ((r : Nat) : Int) := nI_toInt (by omega)
          have k_5 : (2 : Int32).toInt = 2 := by decide
          have q_9 : ((nI r).toInt < (2 : Int32).toInt) := Int32.lt_iff_toInt_lt.mp c_4
          have ha9 : aq = 1 ∨ aq.toInt = 0 := had.elim (fun q => Or.inr (by rw [q]; decide)) Or.inl
          exact z_ret_i B dX2_endInterval_89 ⟨⟨(congrArg (fun w9 : Nat => some (Value.int (nI w9))) (nrN_c (fun h9 => by obtain ⟨g1, g2, g3⟩ := h9; have g4 := congrArg Int32.toInt g1; have g5 : (1 : Int32).toInt = 1 := (by decide); omega) (fun h9 => by obtain ⟨g1, g2, g3⟩ := h9; have g4 := congrArg Int32.toInt g1; have g5 : (1 : Int32).toInt = 1 := (by decide); omega)).symm), h_4⟩, rfl, hI2, (fun b9 h9 => ((hF1 b9 (fun j9 h8 h7 => (show False from h7).elim)).trans ((fset_fr hΦ1 (fun h8 => h9 (80) h8 (show 80 = 80 by decide))).trans rfl)))⟩
        · have e_2 : ¬ (r < 2) := fun h9 => c_4 ((nI_ltI (a := r) (b := 2) (by omega) (by omega)).mpr h9)
          refine z_aload_n B dX2_endInterval_78 rfl 2 rfl ?_
          refine z_get (ref := "FlowExporter$Exporter") (C := RX2) (T := TX2) (N := 13) (ci := 4) (v := .int (nI r)) B hu_X2_endInterval_X2 rfl 5 (Nat.le_of_ble_eq_true rfl) hv_X2_endInterval_27 rfl h_4 rfl dX2_endInterval_79 ?_
          refine z_iconst (v := 2) B dX2_endInterval_82 rfl ?_
          refine z_idiv B dX2_endInterval_83 (by decide) ?_
          refine z_top (st1 := [.int (nI (r / 2))]) (congrArg (fun w9 : Int32 => ([.int w9] : List Value)) (pk_div (a := r) (d := 2) (by omega) (by decide) (by decide))) ?_
          have k_6 : (0 : Int32).toInt = 0 := by decide
          have q_10 : (aq.toInt = (0 : Int32).toInt) := congrArg Int32.toInt c_1
          have q_11 : ¬ (aq.toInt = (0 : Int32).toInt) := fun h9 => c_2 (Int32.toInt_inj.mp h9)
          have q_12 : ¬ ((c 1).toInt ≤ (2 * (xp - xb)).toInt) := fun h9 => c_3 (Int32.le_iff_toInt_le.mpr h9)
          have k_7 : (nI r).toInt = ((r : Nat) : Int) := nI_toInt (by omega)
          have k_8 : (2 : Int32).toInt = 2 := by decide
          have q_13 : ¬ ((nI r).toInt < (2 : Int32).toInt) := fun h9 => c_4 (Int32.lt_iff_toInt_lt.mpr h9)
          have ha9 : aq = 1 ∨ aq.toInt = 0 := had.elim (fun q => Or.inr (by rw [q]; decide)) Or.inl
          exact z_ret_i B dX2_endInterval_84 ⟨⟨(congrArg (fun w9 : Nat => some (Value.int (nI w9))) (nrN_b (fun h9 => by obtain ⟨g1, g2, g3⟩ := h9; have g4 := congrArg Int32.toInt g1; have g5 : (1 : Int32).toInt = 1 := (by decide); omega) ⟨ha9.resolve_right (by omega), by omega, by omega⟩).symm), h_4⟩, rfl, hI2, (fun b9 h9 => ((hF1 b9 (fun j9 h8 h7 => (show False from h7).elim)).trans ((fset_fr hΦ1 (fun h8 => h9 (80) h8 (show 80 = 80 by decide))).trans rfl)))⟩
  · refine z_iload_n B dX2_endInterval_34 rfl 1 rfl ?_
    refine z_iload_n B dX2_endInterval_35 rfl 0 rfl ?_
    refine z_icmp_le (tgt := 56) B dX2_endInterval_36 rfl (fun c_5 => ?_) (fun c_5 => ?_)
    · refine z_aload_n B dX2_endInterval_56 rfl 2 rfl ?_
      refine z_get (ref := "FlowExporter$Exporter") (C := RX2) (T := TX2) (N := 13) (ci := 4) (v := .int aq) B hu_X2_endInterval_X2 rfl 7 (Nat.le_of_ble_eq_true rfl) hv_X2_endInterval_33 rfl h_4 rfl dX2_endInterval_57 ?_
      refine z_if_eq (tgt := 85) B dX2_endInterval_60 rfl (fun c_6 => ?_) (fun c_6 => ?_)
      · refine z_aload_n B dX2_endInterval_85 rfl 2 rfl ?_
        refine z_get (ref := "FlowExporter$Exporter") (C := RX2) (T := TX2) (N := 13) (ci := 4) (v := .int (nI r)) B hu_X2_endInterval_X2 rfl 5 (Nat.le_of_ble_eq_true rfl) hv_X2_endInterval_27 rfl h_4 rfl dX2_endInterval_86 ?_
        have k_9 : (0 : Int32).toInt = 0 := by decide
        have q_14 : ¬ (aq.toInt = (0 : Int32).toInt) := fun h9 => c_1 (Int32.toInt_inj.mp h9)
        have q_15 : ((xp - xb).toInt ≤ (c 1).toInt) := Int32.le_iff_toInt_le.mp c_5
        have q_16 : (aq.toInt = (0 : Int32).toInt) := congrArg Int32.toInt c_6
        have ha9 : aq = 1 ∨ aq.toInt = 0 := had.elim (fun q => Or.inr (by rw [q]; decide)) Or.inl
        exact z_ret_i B dX2_endInterval_89 ⟨⟨(congrArg (fun w9 : Nat => some (Value.int (nI w9))) (nrN_c (fun h9 => by obtain ⟨g1, g2, g3⟩ := h9; have g4 := congrArg Int32.toInt g1; have g5 : (1 : Int32).toInt = 1 := (by decide); omega) (fun h9 => by obtain ⟨g1, g2, g3⟩ := h9; have g4 := congrArg Int32.toInt g1; have g5 : (1 : Int32).toInt = 1 := (by decide); omega)).symm), h_4⟩, rfl, hI2, (fun b9 h9 => ((hF1 b9 (fun j9 h8 h7 => (show False from h7).elim)).trans ((fset_fr hΦ1 (fun h8 => h9 (80) h8 (show 80 = 80 by decide))).trans rfl)))⟩
      · refine z_iconst (v := 2) B dX2_endInterval_63 rfl ?_
        refine z_iload_n B dX2_endInterval_64 rfl 1 rfl ?_
        refine z_imul B dX2_endInterval_65 ?_
        refine z_iload_n B dX2_endInterval_66 rfl 0 rfl ?_
        refine z_icmp_ge (tgt := 85) B dX2_endInterval_67 rfl (fun c_7 => ?_) (fun c_7 => ?_)
        · refine z_aload_n B dX2_endInterval_85 rfl 2 rfl ?_
          refine z_get (ref := "FlowExporter$Exporter") (C := RX2) (T := TX2) (N := 13) (ci := 4) (v := .int (nI r)) B hu_X2_endInterval_X2 rfl 5 (Nat.le_of_ble_eq_true rfl) hv_X2_endInterval_27 rfl h_4 rfl dX2_endInterval_86 ?_
          have k_10 : (0 : Int32).toInt = 0 := by decide
          have q_17 : ¬ (aq.toInt = (0 : Int32).toInt) := fun h9 => c_1 (Int32.toInt_inj.mp h9)
          have q_18 : ((xp - xb).toInt ≤ (c 1).toInt) := Int32.le_iff_toInt_le.mp c_5
          have q_19 : ¬ (aq.toInt = (0 : Int32).toInt) := fun h9 => c_6 (Int32.toInt_inj.mp h9)
          have q_20 : ((c 1).toInt ≤ (2 * (xp - xb)).toInt) := Int32.le_iff_toInt_le.mp c_7
          have ha9 : aq = 1 ∨ aq.toInt = 0 := had.elim (fun q => Or.inr (by rw [q]; decide)) Or.inl
          exact z_ret_i B dX2_endInterval_89 ⟨⟨(congrArg (fun w9 : Nat => some (Value.int (nI w9))) (nrN_c (fun h9 => by obtain ⟨g1, g2, g3⟩ := h9; have g4 := congrArg Int32.toInt g1; have g5 : (1 : Int32).toInt = 1 := (by decide); omega) (fun h9 => by obtain ⟨g1, g2, g3⟩ := h9; have g4 := congrArg Int32.toInt g1; have g5 : (1 : Int32).toInt = 1 := (by decide); omega)).symm), h_4⟩, rfl, hI2, (fun b9 h9 => ((hF1 b9 (fun j9 h8 h7 => (show False from h7).elim)).trans ((fset_fr hΦ1 (fun h8 => h9 (80) h8 (show 80 = 80 by decide))).trans rfl)))⟩
        · refine z_aload_n B dX2_endInterval_70 rfl 2 rfl ?_
          refine z_get (ref := "FlowExporter$Exporter") (C := RX2) (T := TX2) (N := 13) (ci := 4) (v := .int (nI r)) B hu_X2_endInterval_X2 rfl 5 (Nat.le_of_ble_eq_true rfl) hv_X2_endInterval_27 rfl h_4 rfl dX2_endInterval_71 ?_
          refine z_iconst (v := 2) B dX2_endInterval_74 rfl ?_
          refine z_icmp_lt (tgt := 85) B dX2_endInterval_75 rfl (fun c_8 => ?_) (fun c_8 => ?_)
          · have e_3 : r < 2 := (nI_ltI (a := r) (b := 2) (by omega) (by omega)).mp c_8
            refine z_aload_n B dX2_endInterval_85 rfl 2 rfl ?_
            refine z_get (ref := "FlowExporter$Exporter") (C := RX2) (T := TX2) (N := 13) (ci := 4) (v := .int (nI r)) B hu_X2_endInterval_X2 rfl 5 (Nat.le_of_ble_eq_true rfl) hv_X2_endInterval_27 rfl h_4 rfl dX2_endInterval_86 ?_
            have k_11 : (0 : Int32).toInt = 0 := by decide
            have q_21 : ¬ (aq.toInt = (0 : Int32).toInt) := fun h9 => c_1 (Int32.toInt_inj.mp h9)
            have q_22 : ((xp - xb).toInt ≤ (c 1).toInt) := Int32.le_iff_toInt_le.mp c_5
            have q_23 : ¬ (aq.toInt = (0 : Int32).toInt) := fun h9 => c_6 (Int32.toInt_inj.mp h9)
            have q_24 : ¬ ((c 1).toInt ≤ (2 * (xp - xb)).toInt) := fun h9 => c_7 (Int32.le_iff_toInt_le.mpr h9)
            have k_12 : (nI r).toInt = ((r : Nat) : Int) := nI_toInt (by omega)
            have k_13 : (2 : Int32).toInt = 2 := by decide
            have q_25 : ((nI r).toInt < (2 : Int32).toInt) := Int32.lt_iff_toInt_lt.mp c_8
            have ha9 : aq = 1 ∨ aq.toInt = 0 := had.elim (fun q => Or.inr (by rw [q]; decide)) Or.inl
            exact z_ret_i B dX2_endInterval_89 ⟨⟨(congrArg (fun w9 : Nat => some (Value.int (nI w9))) (nrN_c (fun h9 => by obtain ⟨g1, g2, g3⟩ := h9; have g4 := congrArg Int32.toInt g1; have g5 : (1 : Int32).toInt = 1 := (by decide); omega) (fun h9 => by obtain ⟨g1, g2, g3⟩ := h9; have g4 := congrArg Int32.toInt g1; have g5 : (1 : Int32).toInt = 1 := (by decide); omega)).symm), h_4⟩, rfl, hI2, (fun b9 h9 => ((hF1 b9 (fun j9 h8 h7 => (show False from h7).elim)).trans ((fset_fr hΦ1 (fun h8 => h9 (80) h8 (show 80 = 80 by decide))).trans rfl)))⟩
          · have e_4 : ¬ (r < 2) := fun h9 => c_8 ((nI_ltI (a := r) (b := 2) (by omega) (by omega)).mpr h9)
            refine z_aload_n B dX2_endInterval_78 rfl 2 rfl ?_
            refine z_get (ref := "FlowExporter$Exporter") (C := RX2) (T := TX2) (N := 13) (ci := 4) (v := .int (nI r)) B hu_X2_endInterval_X2 rfl 5 (Nat.le_of_ble_eq_true rfl) hv_X2_endInterval_27 rfl h_4 rfl dX2_endInterval_79 ?_
            refine z_iconst (v := 2) B dX2_endInterval_82 rfl ?_
            refine z_idiv B dX2_endInterval_83 (by decide) ?_
            refine z_top (st1 := [.int (nI (r / 2))]) (congrArg (fun w9 : Int32 => ([.int w9] : List Value)) (pk_div (a := r) (d := 2) (by omega) (by decide) (by decide))) ?_
            have k_14 : (0 : Int32).toInt = 0 := by decide
            have q_26 : ¬ (aq.toInt = (0 : Int32).toInt) := fun h9 => c_1 (Int32.toInt_inj.mp h9)
            have q_27 : ((xp - xb).toInt ≤ (c 1).toInt) := Int32.le_iff_toInt_le.mp c_5
            have q_28 : ¬ (aq.toInt = (0 : Int32).toInt) := fun h9 => c_6 (Int32.toInt_inj.mp h9)
            have q_29 : ¬ ((c 1).toInt ≤ (2 * (xp - xb)).toInt) := fun h9 => c_7 (Int32.le_iff_toInt_le.mpr h9)
            have k_15 : (nI r).toInt = ((r : Nat) : Int) := nI_toInt (by omega)
            have k_16 : (2 : Int32).toInt = 2 := by decide
            have q_30 : ¬ ((nI r).toInt < (2 : Int32).toInt) := fun h9 => c_8 (Int32.lt_iff_toInt_lt.mpr h9)
            have ha9 : aq = 1 ∨ aq.toInt = 0 := had.elim (fun q => Or.inr (by rw [q]; decide)) Or.inl
            exact z_ret_i B dX2_endInterval_84 ⟨⟨(congrArg (fun w9 : Nat => some (Value.int (nI w9))) (nrN_b (fun h9 => by obtain ⟨g1, g2, g3⟩ := h9; have g4 := congrArg Int32.toInt g1; have g5 : (1 : Int32).toInt = 1 := (by decide); omega) ⟨ha9.resolve_right (by omega), by omega, by omega⟩).symm), h_4⟩, rfl, hI2, (fun b9 h9 => ((hF1 b9 (fun j9 h8 h7 => (show False from h7).elim)).trans ((fset_fr hΦ1 (fun h8 => h9 (80) h8 (show 80 = 80 by decide))).trans rfl)))⟩
    · refine z_aload_n B dX2_endInterval_39 rfl 2 rfl ?_
      refine z_get (ref := "FlowExporter$Exporter") (C := RX2) (T := TX2) (N := 13) (ci := 4) (v := .int (nI r)) B hu_X2_endInterval_X2 rfl 5 (Nat.le_of_ble_eq_true rfl) hv_X2_endInterval_27 rfl h_4 rfl dX2_endInterval_40 ?_
      refine z_sipush (v := 512) B dX2_endInterval_43 rfl ?_
      refine z_icmp_gt (tgt := 56) B dX2_endInterval_46 rfl (fun c_9 => ?_) (fun c_9 => ?_)
      · have e_5 : 512 < r := (nI_ltI (a := 512) (b := r) (by omega) (by omega)).mp c_9
        refine z_aload_n B dX2_endInterval_56 rfl 2 rfl ?_
        refine z_get (ref := "FlowExporter$Exporter") (C := RX2) (T := TX2) (N := 13) (ci := 4) (v := .int aq) B hu_X2_endInterval_X2 rfl 7 (Nat.le_of_ble_eq_true rfl) hv_X2_endInterval_33 rfl h_4 rfl dX2_endInterval_57 ?_
        refine z_if_eq (tgt := 85) B dX2_endInterval_60 rfl (fun c_10 => ?_) (fun c_10 => ?_)
        · refine z_aload_n B dX2_endInterval_85 rfl 2 rfl ?_
          refine z_get (ref := "FlowExporter$Exporter") (C := RX2) (T := TX2) (N := 13) (ci := 4) (v := .int (nI r)) B hu_X2_endInterval_X2 rfl 5 (Nat.le_of_ble_eq_true rfl) hv_X2_endInterval_27 rfl h_4 rfl dX2_endInterval_86 ?_
          have k_17 : (0 : Int32).toInt = 0 := by decide
          have q_31 : ¬ (aq.toInt = (0 : Int32).toInt) := fun h9 => c_1 (Int32.toInt_inj.mp h9)
          have q_32 : ¬ ((xp - xb).toInt ≤ (c 1).toInt) := fun h9 => c_5 (Int32.le_iff_toInt_le.mpr h9)
          have k_18 : (512 : Int32).toInt = 512 := by decide
          have k_19 : (nI r).toInt = ((r : Nat) : Int) := nI_toInt (by omega)
          have q_33 : ((512 : Int32).toInt < (nI r).toInt) := Int32.lt_iff_toInt_lt.mp c_9
          have q_34 : (aq.toInt = (0 : Int32).toInt) := congrArg Int32.toInt c_10
          have ha9 : aq = 1 ∨ aq.toInt = 0 := had.elim (fun q => Or.inr (by rw [q]; decide)) Or.inl
          exact z_ret_i B dX2_endInterval_89 ⟨⟨(congrArg (fun w9 : Nat => some (Value.int (nI w9))) (nrN_c (fun h9 => by obtain ⟨g1, g2, g3⟩ := h9; have g4 := congrArg Int32.toInt g1; have g5 : (1 : Int32).toInt = 1 := (by decide); omega) (fun h9 => by obtain ⟨g1, g2, g3⟩ := h9; have g4 := congrArg Int32.toInt g1; have g5 : (1 : Int32).toInt = 1 := (by decide); omega)).symm), h_4⟩, rfl, hI2, (fun b9 h9 => ((hF1 b9 (fun j9 h8 h7 => (show False from h7).elim)).trans ((fset_fr hΦ1 (fun h8 => h9 (80) h8 (show 80 = 80 by decide))).trans rfl)))⟩
        · refine z_iconst (v := 2) B dX2_endInterval_63 rfl ?_
          refine z_iload_n B dX2_endInterval_64 rfl 1 rfl ?_
          refine z_imul B dX2_endInterval_65 ?_
          refine z_iload_n B dX2_endInterval_66 rfl 0 rfl ?_
          refine z_icmp_ge (tgt := 85) B dX2_endInterval_67 rfl (fun c_11 => ?_) (fun c_11 => ?_)
          · refine z_aload_n B dX2_endInterval_85 rfl 2 rfl ?_
            refine z_get (ref := "FlowExporter$Exporter") (C := RX2) (T := TX2) (N := 13) (ci := 4) (v := .int (nI r)) B hu_X2_endInterval_X2 rfl 5 (Nat.le_of_ble_eq_true rfl) hv_X2_endInterval_27 rfl h_4 rfl dX2_endInterval_86 ?_
            have k_20 : (0 : Int32).toInt = 0 := by decide
            have q_35 : ¬ (aq.toInt = (0 : Int32).toInt) := fun h9 => c_1 (Int32.toInt_inj.mp h9)
            have q_36 : ¬ ((xp - xb).toInt ≤ (c 1).toInt) := fun h9 => c_5 (Int32.le_iff_toInt_le.mpr h9)
            have k_21 : (512 : Int32).toInt = 512 := by decide
            have k_22 : (nI r).toInt = ((r : Nat) : Int) := nI_toInt (by omega)
            have q_37 : ((512 : Int32).toInt < (nI r).toInt) := Int32.lt_iff_toInt_lt.mp c_9
            have q_38 : ¬ (aq.toInt = (0 : Int32).toInt) := fun h9 => c_10 (Int32.toInt_inj.mp h9)
            have q_39 : ((c 1).toInt ≤ (2 * (xp - xb)).toInt) := Int32.le_iff_toInt_le.mp c_11
            have ha9 : aq = 1 ∨ aq.toInt = 0 := had.elim (fun q => Or.inr (by rw [q]; decide)) Or.inl
            exact z_ret_i B dX2_endInterval_89 ⟨⟨(congrArg (fun w9 : Nat => some (Value.int (nI w9))) (nrN_c (fun h9 => by obtain ⟨g1, g2, g3⟩ := h9; have g4 := congrArg Int32.toInt g1; have g5 : (1 : Int32).toInt = 1 := (by decide); omega) (fun h9 => by obtain ⟨g1, g2, g3⟩ := h9; have g4 := congrArg Int32.toInt g1; have g5 : (1 : Int32).toInt = 1 := (by decide); omega)).symm), h_4⟩, rfl, hI2, (fun b9 h9 => ((hF1 b9 (fun j9 h8 h7 => (show False from h7).elim)).trans ((fset_fr hΦ1 (fun h8 => h9 (80) h8 (show 80 = 80 by decide))).trans rfl)))⟩
          · refine z_aload_n B dX2_endInterval_70 rfl 2 rfl ?_
            refine z_get (ref := "FlowExporter$Exporter") (C := RX2) (T := TX2) (N := 13) (ci := 4) (v := .int (nI r)) B hu_X2_endInterval_X2 rfl 5 (Nat.le_of_ble_eq_true rfl) hv_X2_endInterval_27 rfl h_4 rfl dX2_endInterval_71 ?_
            refine z_iconst (v := 2) B dX2_endInterval_74 rfl ?_
            refine z_icmp_lt (tgt := 85) B dX2_endInterval_75 rfl (fun c_12 => ?_) (fun c_12 => ?_)
            · have e_6 : r < 2 := (nI_ltI (a := r) (b := 2) (by omega) (by omega)).mp c_12
              refine z_aload_n B dX2_endInterval_85 rfl 2 rfl ?_
              refine z_get (ref := "FlowExporter$Exporter") (C := RX2) (T := TX2) (N := 13) (ci := 4) (v := .int (nI r)) B hu_X2_endInterval_X2 rfl 5 (Nat.le_of_ble_eq_true rfl) hv_X2_endInterval_27 rfl h_4 rfl dX2_endInterval_86 ?_
              have k_23 : (0 : Int32).toInt = 0 := by decide
              have q_40 : ¬ (aq.toInt = (0 : Int32).toInt) := fun h9 => c_1 (Int32.toInt_inj.mp h9)
              have q_41 : ¬ ((xp - xb).toInt ≤ (c 1).toInt) := fun h9 => c_5 (Int32.le_iff_toInt_le.mpr h9)
              have k_24 : (512 : Int32).toInt = 512 := by decide
              have k_25 : (nI r).toInt = ((r : Nat) : Int) := nI_toInt (by omega)
              have q_42 : ((512 : Int32).toInt < (nI r).toInt) := Int32.lt_iff_toInt_lt.mp c_9
              have q_43 : ¬ (aq.toInt = (0 : Int32).toInt) := fun h9 => c_10 (Int32.toInt_inj.mp h9)
              have q_44 : ¬ ((c 1).toInt ≤ (2 * (xp - xb)).toInt) := fun h9 => c_11 (Int32.le_iff_toInt_le.mpr h9)
              have k_26 : (2 : Int32).toInt = 2 := by decide
              have q_45 : ((nI r).toInt < (2 : Int32).toInt) := Int32.lt_iff_toInt_lt.mp c_12
              have ha9 : aq = 1 ∨ aq.toInt = 0 := had.elim (fun q => Or.inr (by rw [q]; decide)) Or.inl
              exact z_ret_i B dX2_endInterval_89 ⟨⟨(congrArg (fun w9 : Nat => some (Value.int (nI w9))) (nrN_c (fun h9 => by obtain ⟨g1, g2, g3⟩ := h9; have g4 := congrArg Int32.toInt g1; have g5 : (1 : Int32).toInt = 1 := (by decide); omega) (fun h9 => by obtain ⟨g1, g2, g3⟩ := h9; have g4 := congrArg Int32.toInt g1; have g5 : (1 : Int32).toInt = 1 := (by decide); omega)).symm), h_4⟩, rfl, hI2, (fun b9 h9 => ((hF1 b9 (fun j9 h8 h7 => (show False from h7).elim)).trans ((fset_fr hΦ1 (fun h8 => h9 (80) h8 (show 80 = 80 by decide))).trans rfl)))⟩
            · have e_7 : ¬ (r < 2) := fun h9 => c_12 ((nI_ltI (a := r) (b := 2) (by omega) (by omega)).mpr h9)
              refine z_aload_n B dX2_endInterval_78 rfl 2 rfl ?_
              refine z_get (ref := "FlowExporter$Exporter") (C := RX2) (T := TX2) (N := 13) (ci := 4) (v := .int (nI r)) B hu_X2_endInterval_X2 rfl 5 (Nat.le_of_ble_eq_true rfl) hv_X2_endInterval_27 rfl h_4 rfl dX2_endInterval_79 ?_
              refine z_iconst (v := 2) B dX2_endInterval_82 rfl ?_
              refine z_idiv B dX2_endInterval_83 (by decide) ?_
              refine z_top (st1 := [.int (nI (r / 2))]) (congrArg (fun w9 : Int32 => ([.int w9] : List Value)) (pk_div (a := r) (d := 2) (by omega) (by decide) (by decide))) ?_
              have k_27 : (0 : Int32).toInt = 0 := by decide
              have q_46 : ¬ (aq.toInt = (0 : Int32).toInt) := fun h9 => c_1 (Int32.toInt_inj.mp h9)
              have q_47 : ¬ ((xp - xb).toInt ≤ (c 1).toInt) := fun h9 => c_5 (Int32.le_iff_toInt_le.mpr h9)
              have k_28 : (512 : Int32).toInt = 512 := by decide
              have k_29 : (nI r).toInt = ((r : Nat) : Int) := nI_toInt (by omega)
              have q_48 : ((512 : Int32).toInt < (nI r).toInt) := Int32.lt_iff_toInt_lt.mp c_9
              have q_49 : ¬ (aq.toInt = (0 : Int32).toInt) := fun h9 => c_10 (Int32.toInt_inj.mp h9)
              have q_50 : ¬ ((c 1).toInt ≤ (2 * (xp - xb)).toInt) := fun h9 => c_11 (Int32.le_iff_toInt_le.mpr h9)
              have k_30 : (2 : Int32).toInt = 2 := by decide
              have q_51 : ¬ ((nI r).toInt < (2 : Int32).toInt) := fun h9 => c_12 (Int32.lt_iff_toInt_lt.mpr h9)
              have ha9 : aq = 1 ∨ aq.toInt = 0 := had.elim (fun q => Or.inr (by rw [q]; decide)) Or.inl
              exact z_ret_i B dX2_endInterval_84 ⟨⟨(congrArg (fun w9 : Nat => some (Value.int (nI w9))) (nrN_b (fun h9 => by obtain ⟨g1, g2, g3⟩ := h9; have g4 := congrArg Int32.toInt g1; have g5 : (1 : Int32).toInt = 1 := (by decide); omega) ⟨ha9.resolve_right (by omega), by omega, by omega⟩).symm), h_4⟩, rfl, hI2, (fun b9 h9 => ((hF1 b9 (fun j9 h8 h7 => (show False from h7).elim)).trans ((fset_fr hΦ1 (fun h8 => h9 (80) h8 (show 80 = 80 by decide))).trans rfl)))⟩
      · have e_8 : ¬ (512 < r) := fun h9 => c_9 ((nI_ltI (a := 512) (b := r) (by omega) (by omega)).mpr h9)
        refine z_iconst (v := 2) B dX2_endInterval_49 rfl ?_
        refine z_aload_n B dX2_endInterval_50 rfl 2 rfl ?_
        refine z_get (ref := "FlowExporter$Exporter") (C := RX2) (T := TX2) (N := 13) (ci := 4) (v := .int (nI r)) B hu_X2_endInterval_X2 rfl 5 (Nat.le_of_ble_eq_true rfl) hv_X2_endInterval_27 rfl h_4 rfl dX2_endInterval_51 ?_
        refine z_imul B dX2_endInterval_54 ?_
        refine z_top (st1 := [.int (nI (2 * r))]) (congrArg (fun w9 : Int32 => ([.int w9] : List Value)) (nI_mul 2 r)) ?_
        have k_31 : (0 : Int32).toInt = 0 := by decide
        have q_52 : ¬ (aq.toInt = (0 : Int32).toInt) := fun h9 => c_1 (Int32.toInt_inj.mp h9)
        have q_53 : ¬ ((xp - xb).toInt ≤ (c 1).toInt) := fun h9 => c_5 (Int32.le_iff_toInt_le.mpr h9)
        have k_32 : (512 : Int32).toInt = 512 := by decide
        have k_33 : (nI r).toInt = ((r : Nat) : Int) := nI_toInt (by omega)
        have q_54 : ¬ ((512 : Int32).toInt < (nI r).toInt) := fun h9 => c_9 (Int32.lt_iff_toInt_lt.mpr h9)
        have ha9 : aq = 1 ∨ aq.toInt = 0 := had.elim (fun q => Or.inr (by rw [q]; decide)) Or.inl
        exact z_ret_i B dX2_endInterval_55 ⟨⟨(congrArg (fun w9 : Nat => some (Value.int (nI w9))) (nrN_a ⟨ha9.resolve_right (by omega), by omega, by omega⟩).symm), h_4⟩, rfl, hI2, (fun b9 h9 => ((hF1 b9 (fun j9 h8 h7 => (show False from h7).elim)).trans ((fset_fr hΦ1 (fun h8 => h9 (80) h8 (show 80 = 80 by decide))).trans rfl)))⟩

theorem fq_742 : ∀ j9 : Nat, (46 ≤ j9 ∧ j9 < 80) → ¬ (82 ≤ j9 ∧ j9 < 95) := by
  intro j9 h
  omega

theorem fq_743 {x : Nat} : ∀ j9 : Nat, x + 81 = x + j9 → (46 ≤ j9 ∧ j9 < 80) → False := by
  intro j9 h1 h2
  omega

theorem fq_744 : ∀ j9 : Nat, (j9 = 80) → ¬ (82 ≤ j9 ∧ j9 < 95) := by
  intro j9 h
  omega

theorem fq_745 {x : Nat} : ∀ j9 : Nat, x + 81 = x + j9 → (j9 = 80) → False := by
  intro j9 h1 h2
  omega

set_option maxHeartbeats 4000000 in
set_option maxRecDepth 100000 in
theorem s_X2_tickX (G : EnvG) (l : Launch) (Φ : Hm) (sz x ca : Nat) (tm : Nat) (r : Nat) (w : Nat) (aq : Int32) (xp0 : Int32) (d : Nat) (xb : Int32) (ob : Int64) (sm : Int64) (un : UN) (n : Nat) (Fs : Nat → Fl) (pp : Nat → Nat) (t : Nat) (s : Nat) (c : Cf) (sn : SN) (qn : Nat) (qL : Nat → Nat) (qd : Int32) (qp : Nat → Nat) (hx : G.2.2.2 ≤ x) (hI : In G x ca Φ) (hc0 : Φ (x + 80) = some (o_ 4 [.ref (x + 3), .ref (x + 74), .ref (x + 81), .ref (x + 95), .int (nI tm), .int (nI r), .int (nI w), .int aq, .int (xp0 + nI d), .int xb, .long ob, .long sm, .long (un.1)])) (hc1 : Φ (x + 81) = some (o_ 6 [.ref (x + 82), .int (nI n)])) (hcf0 : TbC G x n 99 Fs pp Φ) (hcf1 : CfA G x t s c Φ) (hcf2 : SdP G x c sn un Φ) (hcf3 : QbR G x qn qL qd qp Φ) (hn : n ≤ 12) (htm : tm < 1000000) (hr : 1 ≤ r ∧ r ≤ 1024) (hg : CfG c) (had : aq = 0 ∨ aq = 1) : Ct G l yX2_tick wsX2_tick ({ frames := 5, cells := 0, slots := 0, locals := 125 }) 0 0 [.ref (x + 80)] Φ sz (fun v Φ1 sz1 => (∃ (n8 : Nat) (F8 : Nat → Fl) (u8 : UN) (r8 : Nat) (e8 : Int32) (d8 : Nat) (b8 : Int32) (p8 : Nat → Nat) (s8 : SN) (qn8 : Nat) (qL8 : Nat → Nat) (qd8 : Int32), v = none ∧ Φ1 (x + 80) = some (o_ 4 [.ref (x + 3), .ref (x + 74), .ref (x + 81), .ref (x + 95), .int (nI (tm + 1)), .int (nI r8), .int (nI w), .int aq, .int (xp0 + nI d8), .int (b8), .long ob, .long sm, .long ((uZ u8).1)]) ∧ Φ1 (x + 81) = some (o_ 6 [.ref (x + 82), .int (nI n8)]) ∧ TbC G x n8 99 F8 p8 Φ1 ∧ SdP G x c s8 (uZ u8) Φ1 ∧ QbR G x qn8 qL8 qd8 qp Φ1 ∧ (tiS c aq (tm + 1) ((n, Fs, un), r, xp0 + nI d - xb, d) = ((n8, F8, u8), r8, e8, d8)) ∧ (xp0 + nI d8 - b8 = e8) ∧ (n8 ≤ 12) ∧ (1 ≤ r8 ∧ r8 ≤ 1024) ∧ (spS c (nI (tm + 1)) u8.2.2 u8.2.1 sn (qn, qL, qd) = (s8, qn8, qL8, qd8))) ∧ sz1 = sz ∧ In G x (ca) Φ1 ∧ Fr x (fun j9 => 46 ≤ j9 ∧ j9 < 95) Φ Φ1) := by
  refine Ct.of (cc := cX2_tick) (maxL := 2) (ret := none) (by decide) rfl (Nat.le_of_ble_eq_true rfl) ?_
  intro p9 e9 s9 m9 w9 t9 k9 B
  show Z p9 l e9 _ s9 m9 _ w9 t9 k9 _ G 2 0 [(0, .ref (x + 80))] [] Φ sz 0 0
  refine z_aload_n B dX2_tick_0 rfl 0 rfl ?_
  refine z_dup B dX2_tick_1 rfl ?_
  refine z_get (ref := "FlowExporter$Exporter") (C := RX2) (T := TX2) (N := 13) (ci := 4) (v := .int (nI tm)) B hu_X2_tick_X2 rfl 4 (Nat.le_of_ble_eq_true rfl) hv_X2_tick_23 rfl hc0 rfl dX2_tick_2 ?_
  refine z_iconst (v := 1) B dX2_tick_5 rfl ?_
  refine z_iadd B dX2_tick_6 ?_
  refine z_top (st1 := [.int (nI (tm + 1)), .ref (x + 80)]) (congrArg (fun w9 : Int32 => ([.int w9, .ref (x + 80)] : List Value)) (nI_add tm 1)) ?_
  refine z_put (ref := "FlowExporter$Exporter") (C := RX2) (T := TX2) (N := 13) (ci := 4) (v := .int (nI (tm + 1))) B hu_X2_tick_X2 tyX2 tyX2_ok nmX2 rfl 4 (Nat.le_of_ble_eq_true rfl) hv_X2_tick_23 rfl (Or.inl rfl) hc0 (Nat.le_trans hx (Nat.le_add_right x 80)) rfl rfl (Nat.le_of_ble_eq_true rfl) dX2_tick_7 (fun Φ1 hΦ1 => ?_)
  have h_1 : Φ1 (x + 80) = some (o_ 4 [.ref (x + 3), .ref (x + 74), .ref (x + 81), .ref (x + 95), .int (nI (tm + 1)), .int (nI r), .int (nI w), .int aq, .int (xp0 + nI d), .int xb, .long ob, .long sm, .long (un.1)]) := fset_at hΦ1
  have hI1 : In G x (ca) Φ1 := In.put (k := 80) hI hΦ1 (ok16 (k := 80) rfl ⟨nI (tm + 1), nI r, nI w, aq, xp0 + nI d, xb, ob, sm, un.1, rfl, had⟩)
  refine z_aload_n B dX2_tick_10 rfl 0 rfl ?_
  have h_2 : Φ1 (x + 81) = some (o_ 6 [.ref (x + 82), .int (nI n)]) := ((fset_fr hΦ1 (ne_off (x := x) (i := 81) (j := 80) rfl)).trans hc1)
  have hcg1 : TbC G x n 99 Fs pp Φ1 := (TbC.off (k := 80) hcf0 hΦ1 (by omega))
  have hcg2 : CfA G x t s c Φ1 := (CfA.off (k := 80) hcf1 hΦ1 (by intros; omega))
  have hcg3 : SdP G x c sn un Φ1 := (SdP.off (k := 80) hcf2 hΦ1 (by omega))
  refine z_callV (As := []) (rest := []) B (s_X2_exportOldX G l Φ1 sz x (ca) (tm + 1) r w aq (xp0 + nI d) xb ob sm un n Fs pp t s c sn hx hI1 h_1 h_2 hcg1 hcg2 hcg3 (show n ≤ 12 by omega) (show (tm + 1) ≤ 1000000 by omega) hg had) (cwV 0 B.1.2.2.2.2 gX2_tick_X2_exportOld rfl rfl rfl (by decide +kernel) ⟨Nat.le_of_ble_eq_true rfl, Nat.le_of_ble_eq_true rfl⟩) h_1 rfl rfl rfl rfl (Nat.le_of_ble_eq_true rfl) dX2_tick_11 ⟨Nat.le_of_ble_eq_true rfl, Nat.le_of_ble_eq_true rfl⟩ (fun r_1 Φ2 sz1 st1 hp1 hs1 => ?_)
  obtain ⟨⟨n_1, f_1, f_2, n_2, n_3, f_3, rfl, h_3, h_4, hcg4, hcg5, e_1, e_2⟩, hq1, hI2, hF1⟩ := hp1
  subst sz1
  replace hs1 : st1 = [] := hs1
  subst st1
  replace hI2 : In G x (ca) Φ2 := hI2
  replace e_1 : olI c (tm + 1) ((n, Fs, un), 0, 0) n = ((n_1, f_1, f_2), n_2, n_3) := e_1
  replace e_2 : n_1 ≤ 12 := e_2
  refine z_aload_n B dX2_tick_14 rfl 0 rfl ?_
  refine z_get (ref := "FlowExporter$Exporter") (C := RX2) (T := TX2) (N := 13) (ci := 4) (v := .int (nI (tm + 1))) B hu_X2_tick_X2 rfl 4 (Nat.le_of_ble_eq_true rfl) hv_X2_tick_23 rfl h_3 rfl dX2_tick_15 ?_
  refine z_bipush (v := 100) B dX2_tick_18 rfl ?_
  refine z_irem B dX2_tick_20 (by decide) ?_
  refine z_top (st1 := [.int (nI ((tm + 1) % 100))]) (congrArg (fun w9 : Int32 => ([.int w9] : List Value)) (pk_rem (a := tm + 1) (d := 100) (by omega) (by decide) (by decide))) ?_
  refine z_if_ne (tgt := 31) B dX2_tick_21 rfl (fun c_1 => ?_) (fun c_1 => ?_)
  · have e_3 : ¬ ((tm + 1) % 100 = 0) := fun h9 => c_1 ((nI_eq (a := (tm + 1) % 100) (b := 0) (by omega) (by omega)).mpr h9)
    refine z_aload_n B dX2_tick_31 rfl 0 rfl ?_
    refine z_get (ref := "FlowExporter$Exporter") (C := RX2) (T := TX2) (N := 13) (ci := 4) (v := .int (nI r)) B hu_X2_tick_X2 rfl 5 (Nat.le_of_ble_eq_true rfl) hv_X2_tick_27 rfl h_3 rfl dX2_tick_32 ?_
    refine z_istore_n (lv' := [(1, .int (nI r)), (0, .ref (x + 80))]) B dX2_tick_35 rfl (Nat.le_of_ble_eq_true rfl) rfl ?_
    refine z_iload_n B dX2_tick_36 rfl 0 rfl ?_
    refine z_aload_n B dX2_tick_37 rfl 1 rfl ?_
    refine z_get (ref := "FlowExporter$Exporter") (C := RX2) (T := TX2) (N := 13) (ci := 4) (v := .int (nI r)) B hu_X2_tick_X2 rfl 5 (Nat.le_of_ble_eq_true rfl) hv_X2_tick_27 rfl h_3 rfl dX2_tick_38 ?_
    refine z_icmp_eq (tgt := 53) B dX2_tick_41 rfl (fun c_2 => ?_) (fun h9 => absurd (Eq.refl _) h9)
    refine z_aload_n B dX2_tick_53 rfl 1 rfl ?_
    refine z_get (ref := "FlowExporter$Exporter") (C := RX2) (T := TX2) (N := 13) (ci := 4) (v := .ref (x + 74)) B hu_X2_tick_X2 rfl 1 (Nat.le_of_ble_eq_true rfl) hv_X2_tick_57 rfl h_3 rfl dX2_tick_54 ?_
    refine z_aload_n B dX2_tick_57 rfl 1 rfl ?_
    refine z_get (ref := "FlowExporter$Exporter") (C := RX2) (T := TX2) (N := 13) (ci := 4) (v := .int (nI (tm + 1))) B hu_X2_tick_X2 rfl 4 (Nat.le_of_ble_eq_true rfl) hv_X2_tick_23 rfl h_3 rfl dX2_tick_58 ?_
    obtain ⟨f_4, h_5, h_6, h_7, h_8, h_9, h_10, h_11⟩ := hcg5
    have hcg6 : CfA G x t s c Φ2 := (CfA.fr hcg2 hF1 (fun j9 h7 => by have h6 : 74 ≤ j9 ∧ j9 < 95 := h7; intros; omega))
    have hcg7 : QbR G x qn qL qd qp Φ2 := (QbR.frw (QbR.offw (k := 80) hcf3 hΦ1 (by omega)) hF1 (fun j9 h7 => by have h6 : 74 ≤ j9 ∧ j9 < 95 := h7; omega))
    refine z_callV (As := [.int (nI (tm + 1))]) (rest := []) B (s_X8_sendPendingX G l Φ2 sz x (ca) f_2.2.1 sn.2.2.1 sn.2.2.2.1 sn.2.2.2.2 sn.1 sn.2.1 f_2.2.2 (plN c f_2.2.2 f_2.2.1) f_4 t s c qn qL qd qp (nI (tm + 1)) hx hI2 h_5 h_6 h_7 h_10 h_11 hcg6 hcg7 h_9 h_8 rfl hg) (cwV 1 B.1.2.2.2.2 gX2_tick_X8_sendPending rfl rfl rfl (by decide +kernel) ⟨Nat.le_of_ble_eq_true rfl, Nat.le_of_ble_eq_true rfl⟩) h_5 rfl rfl rfl rfl (Nat.le_of_ble_eq_true rfl) dX2_tick_61 ⟨Nat.le_of_ble_eq_true rfl, Nat.le_of_ble_eq_true rfl⟩ (fun r_2 Φ3 sz2 st2 hp2 hs2 => ?_)
    obtain ⟨⟨f_5, f_6, v_1, v_2, v_3, n_4, f_7, v_4, rfl, h_12, h_13, h_14, h_15, hcg8, e_4⟩, hq2, hI3, hF2⟩ := hp2
    subst sz2
    replace hs2 : st2 = [] := hs2
    subst st2
    replace hI3 : In G x (ca) Φ3 := hI3
    replace e_4 : spS c (nI (tm + 1)) (f_2.2.2) (f_2.2.1) ((sn.1), (sn.2.1), (sn.2.2.1), (sn.2.2.2.1), (sn.2.2.2.2)) (qn, qL, qd) = ((f_5, f_6, v_1, v_2, v_3), (n_4, f_7, v_4)) := e_4
    obtain ⟨f_8, h_16⟩ := in14 (k := 77) hI3 rfl
    have h_17 : Φ3 (x + 77) = some (ai_ G 12 f_8) := h_16
    have hcg9 : SdP G x c (f_5, f_6, v_1, v_2, v_3) (uZ f_2) Φ3 := ⟨f_8, h_12, h_13, h_17, fun j9 h9 => absurd h9 (Nat.not_lt_zero j9), Nat.zero_le 12, h_14, h_15⟩
    have hcg10 : TbC G x n_1 99 f_1 f_3 Φ3 := (TbC.fr hcg4 hF2 (fun j9 h7 => fq_742 j9 h7))
    have h_18 : Φ3 (x + 80) = some (o_ 4 [.ref (x + 3), .ref (x + 74), .ref (x + 81), .ref (x + 95), .int (nI (tm + 1)), .int (nI r), .int (nI w), .int aq, .int ((xp0 + nI d) + nI n_3), .int xb, .long ob, .long sm, .long (f_2.1)]) := ((hF2 (x + 80) fq_260).trans h_3)
    have h_19 : Φ3 (x + 81) = some (o_ 6 [.ref (x + 82), .int (nI n_1)]) := ((hF2 (x + 81) fq_743).trans h_4)
    exact z_ret_v B dX2_tick_64 ⟨⟨n_1, f_1, f_2, r, _, d + n_3, xb, f_3, (f_5, f_6, v_1, v_2, v_3), n_4, f_7, v_4, rfl, (h_18.trans (congrArg (fun w9 : Int32 => some (o_ 4 [.ref (x + 3), .ref (x + 74), .ref (x + 81), .ref (x + 95), .int (nI (tm + 1)), .int (nI r), .int (nI w), .int aq, .int w9, .int xb, .long ob, .long sm, .long (f_2.1)])) (nadd2 xp0 d n_3))), h_19, hcg10, hcg9, hcg8, tiS_0 e_1 (by omega), ex_0 xp0 xb d n_3, by omega, hr, e_4⟩, rfl, hI3, (fun b9 h9 => ((hF2 b9 (fun j9 h8 h7 => h9 j9 h8 (fq_262 j9 h7))).trans ((hF1 b9 (fun j9 h8 h7 => h9 j9 h8 (fq_261 j9 h7))).trans ((fset_fr hΦ1 (fun h8 => h9 (80) h8 (show 46 ≤ 80 ∧ 80 < 95 by decide))).trans rfl))))⟩
  · have e_5 : (tm + 1) % 100 = 0 := (nI_eq (a := (tm + 1) % 100) (b := 0) (by omega) (by omega)).mp c_1
    refine z_aload_n B dX2_tick_24 rfl 0 rfl ?_
    have hcg11 : CfA G x t s c Φ2 := (CfA.fr hcg2 hF1 (fun j9 h7 => by have h6 : 74 ≤ j9 ∧ j9 < 95 := h7; intros; omega))
    refine z_callV (As := []) (rest := []) B (s_X2_endIntervalX G l Φ2 sz x (ca) (tm + 1) r w aq ((xp0 + nI d) + nI n_3) xb ob sm f_2 t s c hx hI2 h_3 hcg11 (show 1 ≤ r ∧ r ≤ 1024 by omega) had) (cwV 0 B.1.2.2.2.2 gX2_tick_X2_endInterval rfl rfl rfl (by decide +kernel) ⟨Nat.le_of_ble_eq_true rfl, Nat.le_of_ble_eq_true rfl⟩) h_3 rfl rfl rfl rfl (Nat.le_of_ble_eq_true rfl) dX2_tick_25 ⟨Nat.le_of_ble_eq_true rfl, Nat.le_of_ble_eq_true rfl⟩ (fun r_3 Φ4 sz3 st3 hp3 hs3 => ?_)
    obtain ⟨⟨rfl, h_20⟩, hq3, hI4, hF3⟩ := hp3
    subst sz3
    replace hs3 : st3 = [.int (nI (nrN c aq (((xp0 + nI d) + nI n_3) - xb) r))] := hs3
    subst st3
    replace hI4 : In G x (ca) Φ4 := hI4
    have hnr8 := nrN_rg (c := c) (aq := aq) (e := xp0 + nI d + nI n_3 - xb) hr.1 hr.2
    refine z_goto (tgt := 35) B dX2_tick_28 rfl ?_
    refine z_istore_n (lv' := [(1, .int (nI (nrN c aq (((xp0 + nI d) + nI n_3) - xb) r))), (0, .ref (x + 80))]) B dX2_tick_35 rfl (Nat.le_of_ble_eq_true rfl) rfl ?_
    refine z_iload_n B dX2_tick_36 rfl 0 rfl ?_
    refine z_aload_n B dX2_tick_37 rfl 1 rfl ?_
    refine z_get (ref := "FlowExporter$Exporter") (C := RX2) (T := TX2) (N := 13) (ci := 4) (v := .int (nI r)) B hu_X2_tick_X2 rfl 5 (Nat.le_of_ble_eq_true rfl) hv_X2_tick_27 rfl h_20 rfl dX2_tick_38 ?_
    refine z_icmp_eq (tgt := 53) B dX2_tick_41 rfl (fun c_3 => ?_) (fun c_3 => ?_)
    · have e_6 : nrN c aq (((xp0 + nI d) + nI n_3) - xb) r = r := (nI_eq (a := nrN c aq (((xp0 + nI d) + nI n_3) - xb) r) (b := r) (by omega) (by omega)).mp c_3
      refine z_aload_n B dX2_tick_53 rfl 1 rfl ?_
      refine z_get (ref := "FlowExporter$Exporter") (C := RX2) (T := TX2) (N := 13) (ci := 4) (v := .ref (x + 74)) B hu_X2_tick_X2 rfl 1 (Nat.le_of_ble_eq_true rfl) hv_X2_tick_57 rfl h_20 rfl dX2_tick_54 ?_
      refine z_aload_n B dX2_tick_57 rfl 1 rfl ?_
      refine z_get (ref := "FlowExporter$Exporter") (C := RX2) (T := TX2) (N := 13) (ci := 4) (v := .int (nI (tm + 1))) B hu_X2_tick_X2 rfl 4 (Nat.le_of_ble_eq_true rfl) hv_X2_tick_23 rfl h_20 rfl dX2_tick_58 ?_
      have hcg12 : SdP G x c sn f_2 Φ4 := (SdP.fr hcg5 hF3 (fun j9 h7 => by have h6 : j9 = 80 := h7; omega))
      obtain ⟨f_9, h_21, h_22, h_23, h_24, h_25, h_26, h_27⟩ := hcg12
      have hcg13 : CfA G x t s c Φ4 := (CfA.fr hcg11 hF3 (fun j9 h7 => by have h6 : j9 = 80 := h7; intros; omega))
      have hcg14 : QbR G x qn qL qd qp Φ4 := (QbR.frw (QbR.frw (QbR.offw (k := 80) hcf3 hΦ1 (by omega)) hF1 (fun j9 h7 => by have h6 : 74 ≤ j9 ∧ j9 < 95 := h7; omega)) hF3 (fun j9 h7 => by have h6 : j9 = 80 := h7; omega))
      refine z_callV (As := [.int (nI (tm + 1))]) (rest := []) B (s_X8_sendPendingX G l Φ4 sz x (ca) f_2.2.1 sn.2.2.1 sn.2.2.2.1 sn.2.2.2.2 sn.1 sn.2.1 f_2.2.2 (plN c f_2.2.2 f_2.2.1) f_9 t s c qn qL qd qp (nI (tm + 1)) hx hI4 h_21 h_22 h_23 h_26 h_27 hcg13 hcg14 h_25 h_24 rfl hg) (cwV 1 B.1.2.2.2.2 gX2_tick_X8_sendPending rfl rfl rfl (by decide +kernel) ⟨Nat.le_of_ble_eq_true rfl, Nat.le_of_ble_eq_true rfl⟩) h_21 rfl rfl rfl rfl (Nat.le_of_ble_eq_true rfl) dX2_tick_61 ⟨Nat.le_of_ble_eq_true rfl, Nat.le_of_ble_eq_true rfl⟩ (fun r_4 Φ5 sz4 st4 hp4 hs4 => ?_)
      obtain ⟨⟨f_10, f_11, v_5, v_6, v_7, n_5, f_12, v_8, rfl, h_28, h_29, h_30, h_31, hcg15, e_7⟩, hq4, hI5, hF4⟩ := hp4
      subst sz4
      replace hs4 : st4 = [] := hs4
      subst st4
      replace hI5 : In G x (ca) Φ5 := hI5
      replace e_7 : spS c (nI (tm + 1)) (f_2.2.2) (f_2.2.1) ((sn.1), (sn.2.1), (sn.2.2.1), (sn.2.2.2.1), (sn.2.2.2.2)) (qn, qL, qd) = ((f_10, f_11, v_5, v_6, v_7), (n_5, f_12, v_8)) := e_7
      obtain ⟨f_13, h_32⟩ := in14 (k := 77) hI5 rfl
      have h_33 : Φ5 (x + 77) = some (ai_ G 12 f_13) := h_32
      have hcg16 : SdP G x c (f_10, f_11, v_5, v_6, v_7) (uZ f_2) Φ5 := ⟨f_13, h_28, h_29, h_33, fun j9 h9 => absurd h9 (Nat.not_lt_zero j9), Nat.zero_le 12, h_30, h_31⟩
      have hcg17 : TbC G x n_1 99 f_1 f_3 Φ5 := (TbC.fr (TbC.fr hcg4 hF3 (fun j9 h7 => fq_744 j9 h7)) hF4 (fun j9 h7 => fq_742 j9 h7))
      have hq5 : nrN c aq (xp0 + nI d - xb + nI n_3) r = nrN c aq (xp0 + nI d + nI n_3 - xb) r := congrArg (fun w9 : Int32 => nrN c aq w9 r) (ex_1 (xp0 + nI d) (nI n_3) xb).symm
      have h_34 : Φ5 (x + 80) = some (o_ 4 [.ref (x + 3), .ref (x + 74), .ref (x + 81), .ref (x + 95), .int (nI (tm + 1)), .int (nI r), .int (nI w), .int aq, .int ((xp0 + nI d) + nI n_3), .int ((xp0 + nI d) + nI n_3), .long ob, .long sm, .long (f_2.1)]) := ((hF4 (x + 80) fq_260).trans h_20)
      have h_35 : Φ5 (x + 81) = some (o_ 6 [.ref (x + 82), .int (nI n_1)]) := ((hF4 (x + 81) fq_743).trans ((hF3 (x + 81) fq_745).trans h_4))
      exact z_ret_v B dX2_tick_64 ⟨⟨n_1, f_1, f_2, r, 0, d + n_3, xp0 + nI d + nI n_3, f_3, (f_10, f_11, v_5, v_6, v_7), n_5, f_12, v_8, rfl, (h_34.trans (congrArg (fun w9 : Int32 => some (o_ 4 [.ref (x + 3), .ref (x + 74), .ref (x + 81), .ref (x + 95), .int (nI (tm + 1)), .int (nI r), .int (nI w), .int aq, .int w9, .int ((xp0 + nI d) + nI n_3), .long ob, .long sm, .long (f_2.1)])) (nadd2 xp0 d n_3))), h_35, hcg17, hcg16, hcg15, tiS_1 e_1 (by omega) (hq5.trans (by omega)), ex_z xp0 d n_3, by omega, hr, e_7⟩, rfl, hI5, (fun b9 h9 => ((hF4 b9 (fun j9 h8 h7 => h9 j9 h8 (fq_262 j9 h7))).trans ((hF3 b9 (fun j9 h8 h7 => h9 j9 h8 (fq_267 j9 h7))).trans ((hF1 b9 (fun j9 h8 h7 => h9 j9 h8 (fq_261 j9 h7))).trans ((fset_fr hΦ1 (fun h8 => h9 (80) h8 (show 46 ≤ 80 ∧ 80 < 95 by decide))).trans rfl)))))⟩
    · have e_8 : ¬ (nrN c aq (((xp0 + nI d) + nI n_3) - xb) r = r) := fun h9 => c_3 ((nI_eq (a := nrN c aq (((xp0 + nI d) + nI n_3) - xb) r) (b := r) (by omega) (by omega)).mpr h9)
      refine z_aload_n B dX2_tick_44 rfl 1 rfl ?_
      have h_36 : Φ4 (x + 81) = some (o_ 6 [.ref (x + 82), .int (nI n_1)]) := ((hF3 (x + 81) fq_745).trans h_4)
      have hcg18 : TbC G x n_1 99 f_1 f_3 Φ4 := (TbC.fr hcg4 hF3 (fun j9 h7 => fq_744 j9 h7))
      have hcg19 : CfA G x t s c Φ4 := (CfA.fr hcg11 hF3 (fun j9 h7 => by have h6 : j9 = 80 := h7; intros; omega))
      have hcg20 : SdP G x c sn f_2 Φ4 := (SdP.fr hcg5 hF3 (fun j9 h7 => by have h6 : j9 = 80 := h7; omega))
      refine z_callV (As := []) (rest := []) B (s_X2_exportAllX G l Φ4 sz x (ca) (tm + 1) r w aq ((xp0 + nI d) + nI n_3) ((xp0 + nI d) + nI n_3) ob sm f_2 n_1 f_1 f_3 t s c sn hx hI4 h_20 h_36 hcg18 hcg19 hcg20 (show n_1 ≤ 12 by omega) hg had) (cwV 0 B.1.2.2.2.2 gX2_tick_X2_exportAll rfl rfl rfl (by decide +kernel) ⟨Nat.le_of_ble_eq_true rfl, Nat.le_of_ble_eq_true rfl⟩) h_20 rfl rfl rfl rfl (Nat.le_of_ble_eq_true rfl) dX2_tick_45 ⟨Nat.le_of_ble_eq_true rfl, Nat.le_of_ble_eq_true rfl⟩ (fun r_5 Φ6 sz5 st5 hp5 hs5 => ?_)
      obtain ⟨⟨f_14, f_15, f_16, rfl, h_37, h_38, hcg21, hcg22, e_9⟩, hq6, hI6, hF5⟩ := hp5
      subst sz5
      replace hs5 : st5 = [] := hs5
      subst st5
      replace hI6 : In G x (ca) Φ6 := hI6
      replace e_9 : exI c (n_1, f_1, f_2) n_1 = (0, f_14, f_15) := e_9
      refine z_aload_n B dX2_tick_48 rfl 1 rfl ?_
      refine z_iload_n B dX2_tick_49 rfl 0 rfl ?_
      refine z_put (ref := "FlowExporter$Exporter") (C := RX2) (T := TX2) (N := 13) (ci := 4) (v := .int (nI (nrN c aq (((xp0 + nI d) + nI n_3) - xb) r))) B hu_X2_tick_X2 tyX2 tyX2_ok nmX2 rfl 5 (Nat.le_of_ble_eq_true rfl) hv_X2_tick_27 rfl (Or.inl rfl) h_37 (Nat.le_trans hx (Nat.le_add_right x 80)) rfl rfl (Nat.le_of_ble_eq_true rfl) dX2_tick_50 (fun Φ7 hΦ2 => ?_)
      have h_39 : Φ7 (x + 80) = some (o_ 4 [.ref (x + 3), .ref (x + 74), .ref (x + 81), .ref (x + 95), .int (nI (tm + 1)), .int (nI (nrN c aq (((xp0 + nI d) + nI n_3) - xb) r)), .int (nI w), .int aq, .int (((xp0 + nI d) + nI n_3) + nI n_1), .int ((xp0 + nI d) + nI n_3), .long ob, .long sm, .long (f_15.1)]) := fset_at hΦ2
      have hI7 : In G x (ca) Φ7 := In.put (k := 80) hI6 hΦ2 (ok16 (k := 80) rfl ⟨nI (tm + 1), nI (nrN c aq (((xp0 + nI d) + nI n_3) - xb) r), nI w, aq, ((xp0 + nI d) + nI n_3) + nI n_1, (xp0 + nI d) + nI n_3, ob, sm, f_15.1, rfl, had⟩)
      refine z_aload_n B dX2_tick_53 rfl 1 rfl ?_
      refine z_get (ref := "FlowExporter$Exporter") (C := RX2) (T := TX2) (N := 13) (ci := 4) (v := .ref (x + 74)) B hu_X2_tick_X2 rfl 1 (Nat.le_of_ble_eq_true rfl) hv_X2_tick_57 rfl h_39 rfl dX2_tick_54 ?_
      refine z_aload_n B dX2_tick_57 rfl 1 rfl ?_
      refine z_get (ref := "FlowExporter$Exporter") (C := RX2) (T := TX2) (N := 13) (ci := 4) (v := .int (nI (tm + 1))) B hu_X2_tick_X2 rfl 4 (Nat.le_of_ble_eq_true rfl) hv_X2_tick_23 rfl h_39 rfl dX2_tick_58 ?_
      have hcg23 : SdP G x c sn f_15 Φ7 := (SdP.off (k := 80) hcg22 hΦ2 (by omega))
      obtain ⟨f_17, h_40, h_41, h_42, h_43, h_44, h_45, h_46⟩ := hcg23
      have hcg24 : CfA G x t s c Φ7 := (CfA.off (k := 80) (CfA.fr hcg19 hF5 (fun j9 h7 => by have h6 : 74 ≤ j9 ∧ j9 < 95 := h7; intros; omega)) hΦ2 (by intros; omega))
      have hcg25 : QbR G x qn qL qd qp Φ7 := (QbR.offw (k := 80) (QbR.frw (QbR.frw (QbR.frw (QbR.offw (k := 80) hcf3 hΦ1 (by omega)) hF1 (fun j9 h7 => by have h6 : 74 ≤ j9 ∧ j9 < 95 := h7; omega)) hF3 (fun j9 h7 => by have h6 : j9 = 80 := h7; omega)) hF5 (fun j9 h7 => by have h6 : 74 ≤ j9 ∧ j9 < 95 := h7; omega)) hΦ2 (by omega))
      refine z_callV (As := [.int (nI (tm + 1))]) (rest := []) B (s_X8_sendPendingX G l Φ7 sz x (ca) f_15.2.1 sn.2.2.1 sn.2.2.2.1 sn.2.2.2.2 sn.1 sn.2.1 f_15.2.2 (plN c f_15.2.2 f_15.2.1) f_17 t s c qn qL qd qp (nI (tm + 1)) hx hI7 h_40 h_41 h_42 h_45 h_46 hcg24 hcg25 h_44 h_43 rfl hg) (cwV 1 B.1.2.2.2.2 gX2_tick_X8_sendPending rfl rfl rfl (by decide +kernel) ⟨Nat.le_of_ble_eq_true rfl, Nat.le_of_ble_eq_true rfl⟩) h_40 rfl rfl rfl rfl (Nat.le_of_ble_eq_true rfl) dX2_tick_61 ⟨Nat.le_of_ble_eq_true rfl, Nat.le_of_ble_eq_true rfl⟩ (fun r_6 Φ8 sz6 st6 hp6 hs6 => ?_)
      obtain ⟨⟨f_18, f_19, v_9, v_10, v_11, n_6, f_20, v_12, rfl, h_47, h_48, h_49, h_50, hcg26, e_10⟩, hq7, hI8, hF6⟩ := hp6
      subst sz6
      replace hs6 : st6 = [] := hs6
      subst st6
      replace hI8 : In G x (ca) Φ8 := hI8
      replace e_10 : spS c (nI (tm + 1)) (f_15.2.2) (f_15.2.1) ((sn.1), (sn.2.1), (sn.2.2.1), (sn.2.2.2.1), (sn.2.2.2.2)) (qn, qL, qd) = ((f_18, f_19, v_9, v_10, v_11), (n_6, f_20, v_12)) := e_10
      obtain ⟨f_21, h_51⟩ := in14 (k := 77) hI8 rfl
      have h_52 : Φ8 (x + 77) = some (ai_ G 12 f_21) := h_51
      have hcg27 : SdP G x c (f_18, f_19, v_9, v_10, v_11) (uZ f_15) Φ8 := ⟨f_21, h_47, h_48, h_52, fun j9 h9 => absurd h9 (Nat.not_lt_zero j9), Nat.zero_le 12, h_49, h_50⟩
      have hcg28 : TbC G x 0 99 f_14 f_16 Φ8 := (TbC.fr (TbC.off (k := 80) hcg21 hΦ2 (by omega)) hF6 (fun j9 h7 => fq_742 j9 h7))
      have hq8 : nrN c aq (xp0 + nI d - xb + nI n_3) r = nrN c aq (xp0 + nI d + nI n_3 - xb) r := congrArg (fun w9 : Int32 => nrN c aq w9 r) (ex_1 (xp0 + nI d) (nI n_3) xb).symm
      have hnr9 := nrN_rg (c := c) (aq := aq) (e := xp0 + nI d - xb + nI n_3) hr.1 hr.2
      have h_53 : Φ8 (x + 80) = some (o_ 4 [.ref (x + 3), .ref (x + 74), .ref (x + 81), .ref (x + 95), .int (nI (tm + 1)), .int (nI (nrN c aq (((xp0 + nI d) + nI n_3) - xb) r)), .int (nI w), .int aq, .int (((xp0 + nI d) + nI n_3) + nI n_1), .int ((xp0 + nI d) + nI n_3), .long ob, .long sm, .long (f_15.1)]) := ((hF6 (x + 80) fq_260).trans h_39)
      have h_54 : Φ8 (x + 81) = some (o_ 6 [.ref (x + 82), .int (nI 0)]) := ((hF6 (x + 81) fq_743).trans ((fset_fr hΦ2 (ne_off (x := x) (i := 81) (j := 80) rfl)).trans h_38))
      exact z_ret_v B dX2_tick_64 ⟨⟨0, f_14, f_15, nrN c aq (xp0 + nI d - xb + nI n_3) r, nI n_1, d + (n_3 + n_1), xp0 + nI d + nI n_3, f_16, (f_18, f_19, v_9, v_10, v_11), n_6, f_20, v_12, rfl, ((h_53.trans (congrArg (fun w9 : Nat => some (o_ 4 [.ref (x + 3), .ref (x + 74), .ref (x + 81), .ref (x + 95), .int (nI (tm + 1)), .int (nI w9), .int (nI w), .int aq, .int (xp0 + nI d + nI n_3 + nI n_1), .int (xp0 + nI d + nI n_3), .long ob, .long sm, .long (f_15.1)])) hq8.symm)).trans (congrArg (fun w9 : Int32 => some (o_ 4 [.ref (x + 3), .ref (x + 74), .ref (x + 81), .ref (x + 95), .int (nI (tm + 1)), .int (nI (nrN c aq (xp0 + nI d - xb + nI n_3) r)), .int (nI w), .int aq, .int w9, .int (xp0 + nI d + nI n_3), .long ob, .long sm, .long (f_15.1)])) ((congrArg (fun w8 : Int32 => w8 + nI n_1) (nadd2 xp0 d n_3)).trans ((nadd2 xp0 (d + n_3) n_1).trans (congrArg (fun w8 : Nat => xp0 + nI w8) (Nat.add_assoc d n_3 n_1)))))), h_54, hcg28, hcg27, hcg26, tiS_2 e_1 (by omega) (fun h9 => by omega) e_9, ex_n xp0 d n_3 n_1, by omega, hnr9, e_10⟩, rfl, hI8, (fun b9 h9 => ((hF6 b9 (fun j9 h8 h7 => h9 j9 h8 (fq_262 j9 h7))).trans ((fset_fr hΦ2 (fun h8 => h9 (80) h8 (show 46 ≤ 80 ∧ 80 < 95 by decide))).trans ((hF5 b9 (fun j9 h8 h7 => h9 j9 h8 (fq_261 j9 h7))).trans ((hF3 b9 (fun j9 h8 h7 => h9 j9 h8 (fq_267 j9 h7))).trans ((hF1 b9 (fun j9 h8 h7 => h9 j9 h8 (fq_261 j9 h7))).trans ((fset_fr hΦ1 (fun h8 => h9 (80) h8 (show 46 ≤ 80 ∧ 80 < 95 by decide))).trans rfl)))))))⟩

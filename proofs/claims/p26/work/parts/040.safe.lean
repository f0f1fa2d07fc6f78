set_option maxHeartbeats 4000000 in
set_option maxRecDepth 100000 in
theorem s_X5_putL (G : EnvG) (l : Launch) (Φ : Hm) (sz x ca : Nat) (m : Nat) (k : Nat) (b : Int64) (n : Nat) (hx : G.2.2.2 ≤ x) (hI : In G x ca Φ) (hk_k : kd k = 1) (hc0 : Φ (x + (k)) = some (o_ 7 [.ref (x + (k + 1)), .int (nI m)])) (hn : n ≤ 8) (hm : m + n ≤ cap k) : Ct G l yX5_put wsX5_put ({ frames := 0, cells := 0, slots := 0, locals := 0 }) 0 0 [.ref (x + (k)), .long b, .int (nI n)] Φ sz (fun v Φ1 sz1 => (v = none ∧ Φ1 (x + (k)) = some (o_ 7 [.ref (x + (k + 1)), .int (nI (m + n))])) ∧ sz1 = sz ∧ In G x (ca) Φ1 ∧ Fr x (fun j9 => j9 = k ∨ j9 = k + 1) Φ Φ1) := by
  refine Ct.of (cc := cX5_put) (maxL := 5) (ret := none) (by decide) rfl (Nat.le_of_ble_eq_true rfl) ?_
  intro p9 e9 s9 m9 w9 t9 k9 B
  show Z p9 l e9 _ s9 m9 _ w9 t9 k9 _ G 5 0 [(0, .ref (x + (k))), (1, .long b), (3, .int (nI n))] [] Φ sz 0 0
  refine z_iload_n B dX5_put_0 rfl 2 rfl ?_
  refine z_iconst (v := 1) B dX5_put_1 rfl ?_
  refine z_isub B dX5_put_2 ?_
  refine z_istore (lv' := [(4, .int (nI n - 1)), (0, .ref (x + (k))), (1, .long b), (3, .int (nI n))]) B dX5_put_3 (Nat.le_of_ble_eq_true rfl) rfl ?_
  refine z_lv [0, 1, 2, 3] rfl ?_
  refine z_loop (α := Nat) (fun (a9 : Nat) Φi => In G x (ca) Φi ∧ Fr x (fun j9 => j9 = k ∨ j9 = k + 1) Φ Φi ∧ (a9 ≤ n) ∧ (Φi (x + (k)) = some (o_ 7 [.ref (x + (k + 1)), .int (nI ((m + (n - a9))))])) ∧ True) (fun a9 => [(4, .int (nI a9 - 1)), (0, .ref (x + (k))), (1, .long b), (3, .int (nI n))]) (fun a9 => a9) ?_ (n) ⟨hI, fun _ _ => rfl, (show n ≤ n by omega), (hc0.trans (congrArg (fun w9 : Nat => some (o_ 7 [.ref (x + (k + 1)), .int (nI w9)])) (show m = m + (n - n) by omega))), trivial⟩
  rintro i_1 Φl1 ⟨hI1, hF1, b_1, b_2, -⟩ ih1
  replace hI1 : In G x (ca) Φl1 := hI1
  replace b_1 : i_1 ≤ n := b_1
  replace b_2 : Φl1 (x + (k)) = some (o_ 7 [.ref (x + (k + 1)), .int (nI ((m + (n - i_1))))]) := b_2
  show Z p9 l e9 _ s9 m9 _ w9 t9 k9 _ G 5 5 [(4, .int (nI i_1 - 1)), (0, .ref (x + (k))), (1, .long b), (3, .int (nI n))] [] Φl1 _ _ _
  refine z_iload B dX5_put_5 0 rfl ?_
  refine z_if_lt (tgt := 56) B dX5_put_7 rfl (fun c_1 => ?_) (fun c_1 => ?_)
  · have e_1 : i_1 = 0 := pred_zero (by omega) c_1
    exact z_ret_v B dX5_put_56 ⟨⟨rfl, (b_2.trans (congrArg (fun w9 : Nat => some (o_ 7 [.ref (x + (k + 1)), .int (nI w9)])) (show m + (n - i_1) = m + n by omega)))⟩, rfl, hI1, (fun b9 h9 => ((hF1 b9 h9).trans rfl))⟩
  · have e_2 : 1 ≤ i_1 := pred_pos c_1
    refine z_aload_n B dX5_put_10 rfl 1 rfl ?_
    refine z_get (ref := "FlowExporter$Message") (C := RX5) (T := TX5) (N := 2) (ci := 7) (v := .int (nI ((m + (n - i_1))))) B hu_X5_put_X5 rfl 1 (Nat.le_of_ble_eq_true rfl) hv_X5_put_9 rfl b_2 rfl dX5_put_11 ?_
    refine z_aload_n B dX5_put_14 rfl 1 rfl ?_
    refine z_get (ref := "FlowExporter$Message") (C := RX5) (T := TX5) (N := 2) (ci := 7) (v := .ref (x + (k + 1))) B hu_X5_put_X5 rfl 0 (Nat.le_of_ble_eq_true rfl) hv_X5_put_21 rfl b_2 rfl dX5_put_15 ?_
    obtain ⟨f_1, h_1, r_1⟩ := in2 (k := k + 1) hI1 (kd_c hk_k)
    have b_3 := cap_le (k)
    have h_2 : Φl1 (x + (k + 1)) = some (ab_ G (cap (k)) f_1) := h_1
    refine z_alen (t := 2) (v := nI (cap (k))) B rfl h_2 rfl dX5_put_18 ?_
    refine z_icmp_ge (tgt := 50) B dX5_put_19 rfl (fun c_2 => ?_) (fun c_2 => ?_)
    · have e_3 : cap (k) ≤ m + (n - i_1) := (nI_leI (a := cap (k)) (b := m + (n - i_1)) (by omega) (by omega)).mp c_2
      refine z_iinc (k := 0) (v := nI (i_1 - 1) - 1) (lv' := [(4, .int (nI (i_1 - 1) - 1)), (0, .ref (x + (k))), (1, .long b), (3, .int (nI n))]) B dX5_put_50 rfl (pred_dec (show 1 ≤ i_1 by omega)) (Nat.le_of_ble_eq_true rfl) rfl ?_
      refine z_goto (tgt := 5) B dX5_put_53 rfl ?_
      refine z_lv [0, 1, 2, 3] rfl ?_
      exact ih1 (i_1 - 1) Φl1 (show (i_1 - 1) < i_1 by omega) ⟨hI1, (fun b9 h9 => ((hF1 b9 h9).trans rfl)), (show (i_1 - 1) ≤ n by omega), (b_2.trans (congrArg (fun w9 : Nat => some (o_ 7 [.ref (x + (k + 1)), .int (nI w9)])) (show m + (n - i_1) = m + (n - (i_1 - 1)) by omega))), trivial⟩
    · have e_4 : ¬ (cap (k) ≤ m + (n - i_1)) := fun h9 => c_2 ((nI_leI (a := cap (k)) (b := m + (n - i_1)) (by omega) (by omega)).mpr h9)
      refine z_aload_n B dX5_put_22 rfl 1 rfl ?_
      refine z_get (ref := "FlowExporter$Message") (C := RX5) (T := TX5) (N := 2) (ci := 7) (v := .ref (x + (k + 1))) B hu_X5_put_X5 rfl 0 (Nat.le_of_ble_eq_true rfl) hv_X5_put_21 rfl b_2 rfl dX5_put_23 ?_
      refine z_aload_n B dX5_put_26 rfl 1 rfl ?_
      refine z_get (ref := "FlowExporter$Message") (C := RX5) (T := TX5) (N := 2) (ci := 7) (v := .int (nI ((m + (n - i_1))))) B hu_X5_put_X5 rfl 1 (Nat.le_of_ble_eq_true rfl) hv_X5_put_9 rfl b_2 rfl dX5_put_27 ?_
      refine z_lload_n B dX5_put_30 rfl 2 rfl ?_
      refine z_bipush (v := 8) B dX5_put_31 rfl ?_
      refine z_iload B dX5_put_33 0 rfl ?_
      refine z_imul B dX5_put_35 ?_
      refine z_fi (fun v_1 => ?_)
      refine z_lshr (v := b >>> ((v_1 : Int32).toInt64 &&& 63)) B dX5_put_36 rfl ?_
      refine z_fl (fun v_2 => ?_)
      refine z_l2i (v := v_2.toInt32) B dX5_put_37 rfl ?_
      refine z_fi (fun v_3 => ?_)
      refine z_i2b (v := v_3.toInt8.toInt32) B dX5_put_38 rfl ?_
      refine z_fi (fun v_4 => ?_)
      refine z_bast B h_2 (by omega) (vp_in_nI (by omega) (by omega)) dX5_put_39 (fun Φ1 hΦ1 => ?_)
      have h_3 : Φ1 (x + (k + 1)) = some (ab_ G (cap (k)) (upd f_1 (nI ((m + (n - i_1)))).toNatClampNeg (vp_nar .byte v_4))) := fset_at hΦ1
      have hI2 : In G x (ca) Φ1 := In.put (k := k + 1) hI1 hΦ1 (ok2 (k := k + 1) (kd_c hk_k) ⟨_, rfl, upd_fit r_1⟩)
      refine z_aload_n B dX5_put_40 rfl 1 rfl ?_
      refine z_dup B dX5_put_41 rfl ?_
      have h_4 : Φ1 (x + (k)) = some (o_ 7 [.ref (x + (k + 1)), .int (nI ((m + (n - i_1))))]) := ((fset_fr hΦ1 (by omega)).trans b_2)
      refine z_get (ref := "FlowExporter$Message") (C := RX5) (T := TX5) (N := 2) (ci := 7) (v := .int (nI ((m + (n - i_1))))) B hu_X5_put_X5 rfl 1 (Nat.le_of_ble_eq_true rfl) hv_X5_put_9 rfl h_4 rfl dX5_put_42 ?_
      refine z_iconst (v := 1) B dX5_put_45 rfl ?_
      refine z_iadd B dX5_put_46 ?_
      refine z_top (st1 := [.int (nI (m + (n - i_1) + 1)), .ref (x + (k))]) (congrArg (fun w9 : Int32 => ([.int w9, .ref (x + (k))] : List Value)) (nI_add (m + (n - i_1)) 1)) ?_
      refine z_put (ref := "FlowExporter$Message") (C := RX5) (T := TX5) (N := 2) (ci := 7) (v := .int (nI (m + (n - i_1) + 1))) B hu_X5_put_X5 tyX5 tyX5_ok nmX5 rfl 1 (Nat.le_of_ble_eq_true rfl) hv_X5_put_9 rfl (Or.inl rfl) h_4 (by omega) rfl rfl (Nat.le_of_ble_eq_true rfl) dX5_put_47 (fun Φ2 hΦ2 => ?_)
      have h_5 : Φ2 (x + (k)) = some (o_ 7 [.ref (x + (k + 1)), .int (nI (m + (n - i_1) + 1))]) := fset_at hΦ2
      have hI3 : In G x (ca) Φ2 := In.put (k := k) hI2 hΦ2 (ok1 (k := k) hk_k ⟨m + (n - i_1) + 1, rfl, (show m + (n - i_1) + 1 ≤ cap (k) by omega)⟩)
      refine z_iinc (k := 0) (v := nI (i_1 - 1) - 1) (lv' := [(4, .int (nI (i_1 - 1) - 1)), (0, .ref (x + (k))), (1, .long b), (3, .int (nI n))]) B dX5_put_50 rfl (pred_dec (show 1 ≤ i_1 by omega)) (Nat.le_of_ble_eq_true rfl) rfl ?_
      refine z_goto (tgt := 5) B dX5_put_53 rfl ?_
      refine z_lv [0, 1, 2, 3] rfl ?_
      exact ih1 (i_1 - 1) Φ2 (show (i_1 - 1) < i_1 by omega) ⟨hI3, (fun b9 h9 => ((fset_fr hΦ2 (fun h8 => h9 (k) h8 (show k = k ∨ k = k + 1 by omega))).trans ((fset_fr hΦ1 (fun h8 => h9 (k + 1) h8 (show (k + 1) = k ∨ (k + 1) = k + 1 by omega))).trans ((hF1 b9 h9).trans rfl)))), (show (i_1 - 1) ≤ n by omega), (h_5.trans (congrArg (fun w9 : Nat => some (o_ 7 [.ref (x + (k + 1)), .int (nI w9)])) (show m + (n - i_1) + 1 = m + (n - (i_1 - 1)) by omega))), trivial⟩

set_option maxHeartbeats 4000000 in
set_option maxRecDepth 100000 in
theorem s_X5_putFromL (G : EnvG) (l : Launch) (Φ : Hm) (sz x ca : Nat) (m : Nat) (mq : Nat) (k : Nat) (q : Nat) (i : Nat) (b : Nat) (hx : G.2.2.2 ≤ x) (hI : In G x ca Φ) (hk_k : kd k = 1) (hk_q : kd q = 1) (hc0 : Φ (x + (k)) = some (o_ 7 [.ref (x + (k + 1)), .int (nI m)])) (hc1 : Φ (x + (q)) = some (o_ 7 [.ref (x + (q + 1)), .int (nI mq)])) (hm : m + b ≤ cap k) (hi : i + b ≤ mq) (hmq : mq ≤ cap q) : Ct G l yX5_putFrom wsX5_putFrom ({ frames := 1, cells := 0, slots := 0, locals := 18 }) 0 0 [.ref (x + (k)), .ref (x + (q)), .int (nI i), .int (nI b)] Φ sz (fun v Φ1 sz1 => (v = none ∧ Φ1 (x + (k)) = some (o_ 7 [.ref (x + (k + 1)), .int (nI (m + b))])) ∧ sz1 = sz ∧ In G x (ca) Φ1 ∧ Fr x (fun j9 => j9 = k ∨ j9 = k + 1) Φ Φ1) := by
  refine Ct.of (cc := cX5_putFrom) (maxL := 5) (ret := none) (by decide) rfl (Nat.le_of_ble_eq_true rfl) ?_
  intro p9 e9 s9 m9 w9 t9 k9 B
  show Z p9 l e9 _ s9 m9 _ w9 t9 k9 _ G 5 0 [(0, .ref (x + (k))), (1, .ref (x + (q))), (2, .int (nI i)), (3, .int (nI b))] [] Φ sz 0 0
  have hcq9 := cap_le q
  refine z_iload_n B dX5_putFrom_0 rfl 3 rfl ?_
  refine z_aload_n B dX5_putFrom_1 rfl 0 rfl ?_
  refine z_get (ref := "FlowExporter$Message") (C := RX5) (T := TX5) (N := 2) (ci := 7) (v := .ref (x + (k + 1))) B hu_X5_putFrom_X5 rfl 0 (Nat.le_of_ble_eq_true rfl) hv_X5_putFrom_21 rfl hc0 rfl dX5_putFrom_2 ?_
  obtain ⟨f_1, h_1, r_1⟩ := in2 (k := k + 1) hI (kd_c hk_k)
  have b_1 := cap_le (k)
  have h_2 : Φ (x + (k + 1)) = some (ab_ G (cap (k)) f_1) := h_1
  refine z_alen (t := 2) (v := nI (cap (k))) B rfl h_2 rfl dX5_putFrom_5 ?_
  refine z_aload_n B dX5_putFrom_6 rfl 0 rfl ?_
  refine z_get (ref := "FlowExporter$Message") (C := RX5) (T := TX5) (N := 2) (ci := 7) (v := .int (nI m)) B hu_X5_putFrom_X5 rfl 1 (Nat.le_of_ble_eq_true rfl) hv_X5_putFrom_9 rfl hc0 rfl dX5_putFrom_7 ?_
  refine z_isub B dX5_putFrom_10 ?_
  refine z_top (st1 := [.int (nI ((cap (k)) - m)), .int (nI b)]) (congrArg (fun w9 : Int32 => ([.int w9, .int (nI b)] : List Value)) (nI_sub (show m ≤ cap (k) by omega))) ?_
  refine z_mmin (v := nI (min b ((cap (k)) - m))) B (by decide +kernel) (by decide +kernel) (by decide +kernel) (by decide +kernel) (nI_min (by omega) (by omega)) ⟨Nat.le_of_ble_eq_true rfl, Nat.le_of_ble_eq_true rfl⟩ ⟨Nat.le_of_ble_eq_true rfl, Nat.le_of_ble_eq_true rfl⟩ dX5_putFrom_11 ?_
  refine z_istore (lv' := [(4, .int (nI (min b ((cap (k)) - m)))), (0, .ref (x + (k))), (1, .ref (x + (q))), (2, .int (nI i)), (3, .int (nI b))]) B dX5_putFrom_14 (Nat.le_of_ble_eq_true rfl) rfl ?_
  refine z_iload B dX5_putFrom_16 0 rfl ?_
  refine z_if_le (tgt := 65) B dX5_putFrom_18 rfl (fun c_1 => ?_) (fun c_1 => ?_)
  · have e_2 : min b ((cap (k)) - m) ≤ 0 := (nI_leI (a := min b ((cap (k)) - m)) (b := 0) (by omega) (by omega)).mp c_1
    exact z_ret_v B dX5_putFrom_65 ⟨⟨rfl, (hc0.trans (congrArg (fun w9 : Nat => some (o_ 7 [.ref (x + (k + 1)), .int (nI w9)])) (show m = m + b by omega)))⟩, rfl, hI, (fun b9 h9 => rfl)⟩
  · have e_3 : ¬ (min b ((cap (k)) - m) ≤ 0) := fun h9 => c_1 ((nI_leI (a := min b ((cap (k)) - m)) (b := 0) (by omega) (by omega)).mpr h9)
    refine z_iload_n B dX5_putFrom_21 rfl 3 rfl ?_
    refine z_if_lt (tgt := 65) B dX5_putFrom_22 rfl (fun c_2 => ?_) (fun c_2 => ?_)
    · have e_4 : i < 0 := (nI_ltI (a := i) (b := 0) (by omega) (by omega)).mp c_2
      exact z_ret_v B dX5_putFrom_65 ⟨⟨rfl, (hc0.trans (congrArg (fun w9 : Nat => some (o_ 7 [.ref (x + (k + 1)), .int (nI w9)])) (show m = m + b by omega)))⟩, rfl, hI, (fun b9 h9 => rfl)⟩
    · have e_5 : ¬ (i < 0) := fun h9 => c_2 ((nI_ltI (a := i) (b := 0) (by omega) (by omega)).mpr h9)
      refine z_iload B dX5_putFrom_25 0 rfl ?_
      refine z_aload_n B dX5_putFrom_27 rfl 2 rfl ?_
      refine z_get (ref := "FlowExporter$Message") (C := RX5) (T := TX5) (N := 2) (ci := 7) (v := .int (nI mq)) B hu_X5_putFrom_X5 rfl 1 (Nat.le_of_ble_eq_true rfl) hv_X5_putFrom_9 rfl hc1 rfl dX5_putFrom_28 ?_
      refine z_iload_n B dX5_putFrom_31 rfl 3 rfl ?_
      refine z_isub B dX5_putFrom_32 ?_
      refine z_top (st1 := [.int (nI (mq - i)), .int (nI (min b ((cap (k)) - m)))]) (congrArg (fun w9 : Int32 => ([.int w9, .int (nI (min b ((cap (k)) - m)))] : List Value)) (nI_sub (show i ≤ mq by omega))) ?_
      refine z_icmp_gt (tgt := 65) B dX5_putFrom_33 rfl (fun c_3 => ?_) (fun c_3 => ?_)
      · have e_6 : mq - i < min b ((cap (k)) - m) := (nI_ltI (a := mq - i) (b := min b ((cap (k)) - m)) (by omega) (by omega)).mp c_3
        exact z_ret_v B dX5_putFrom_65 ⟨⟨rfl, (hc0.trans (congrArg (fun w9 : Nat => some (o_ 7 [.ref (x + (k + 1)), .int (nI w9)])) (show m = m + b by omega)))⟩, rfl, hI, (fun b9 h9 => rfl)⟩
      · have e_7 : ¬ (mq - i < min b ((cap (k)) - m)) := fun h9 => c_3 ((nI_ltI (a := mq - i) (b := min b ((cap (k)) - m)) (by omega) (by omega)).mpr h9)
        refine z_aload_n B dX5_putFrom_36 rfl 2 rfl ?_
        refine z_get (ref := "FlowExporter$Message") (C := RX5) (T := TX5) (N := 2) (ci := 7) (v := .ref (x + (q + 1))) B hu_X5_putFrom_X5 rfl 0 (Nat.le_of_ble_eq_true rfl) hv_X5_putFrom_21 rfl hc1 rfl dX5_putFrom_37 ?_
        refine z_iload_n B dX5_putFrom_40 rfl 3 rfl ?_
        refine z_aload_n B dX5_putFrom_41 rfl 1 rfl ?_
        refine z_get (ref := "FlowExporter$Message") (C := RX5) (T := TX5) (N := 2) (ci := 7) (v := .ref (x + (k + 1))) B hu_X5_putFrom_X5 rfl 0 (Nat.le_of_ble_eq_true rfl) hv_X5_putFrom_21 rfl hc0 rfl dX5_putFrom_42 ?_
        refine z_aload_n B dX5_putFrom_45 rfl 1 rfl ?_
        refine z_get (ref := "FlowExporter$Message") (C := RX5) (T := TX5) (N := 2) (ci := 7) (v := .int (nI m)) B hu_X5_putFrom_X5 rfl 1 (Nat.le_of_ble_eq_true rfl) hv_X5_putFrom_9 rfl hc0 rfl dX5_putFrom_46 ?_
        refine z_iload B dX5_putFrom_49 0 rfl ?_
        obtain ⟨f_2, h_3, r_2⟩ := in2 (k := q + 1) hI (kd_c hk_q)
        have b_2 := cap_le (q)
        have h_4 : Φ (x + (q + 1)) = some (ab_ G (cap (q)) f_2) := h_3
        refine z_copy (t := 2) (ty := .byte) B (by decide +kernel) (by decide +kernel) (by decide +kernel) (by decide +kernel) rfl rfl h_4 h_2 (by omega) (nI_pos (by omega)) (nI_pos (by omega)) (nI_pos (by omega)) (by rw [nI_clamp (n := i) (by omega), nI_clamp (n := min b ((cap (k)) - m)) (by omega)]; omega) (by rw [nI_clamp (n := m) (by omega), nI_clamp (n := min b ((cap (k)) - m)) (by omega)]; omega) (fun _ _ => r_2 _) (Nat.le_of_ble_eq_true rfl) (by decide +kernel) dX5_putFrom_51 (fun Φ1 hΦ1 => ?_)
        have h_5 : Φ1 (x + (k + 1)) = some (ab_ G (cap (k)) (va_cpy f_2 f_1 (nI i).toNatClampNeg (nI m).toNatClampNeg (nI (min b ((cap (k)) - m))).toNatClampNeg)) := fset_at hΦ1
        have hI1 : In G x (ca) Φ1 := In.put (k := k + 1) hI hΦ1 (ok2 (k := k + 1) (kd_c hk_k) ⟨_, rfl, cpy_fit r_2 r_1⟩)
        refine z_aload_n B dX5_putFrom_54 rfl 1 rfl ?_
        refine z_dup B dX5_putFrom_55 rfl ?_
        have h_6 : Φ1 (x + (k)) = some (o_ 7 [.ref (x + (k + 1)), .int (nI m)]) := ((fset_fr hΦ1 (by omega)).trans hc0)
        refine z_get (ref := "FlowExporter$Message") (C := RX5) (T := TX5) (N := 2) (ci := 7) (v := .int (nI m)) B hu_X5_putFrom_X5 rfl 1 (Nat.le_of_ble_eq_true rfl) hv_X5_putFrom_9 rfl h_6 rfl dX5_putFrom_56 ?_
        refine z_iload B dX5_putFrom_59 0 rfl ?_
        refine z_iadd B dX5_putFrom_61 ?_
        refine z_top (st1 := [.int (nI (m + min b ((cap (k)) - m))), .ref (x + (k))]) (congrArg (fun w9 : Int32 => ([.int w9, .ref (x + (k))] : List Value)) (nI_add m (min b ((cap (k)) - m)))) ?_
        refine z_put (ref := "FlowExporter$Message") (C := RX5) (T := TX5) (N := 2) (ci := 7) (v := .int (nI (m + min b ((cap (k)) - m)))) B hu_X5_putFrom_X5 tyX5 tyX5_ok nmX5 rfl 1 (Nat.le_of_ble_eq_true rfl) hv_X5_putFrom_9 rfl (Or.inl rfl) h_6 (by omega) rfl rfl (Nat.le_of_ble_eq_true rfl) dX5_putFrom_62 (fun Φ2 hΦ2 => ?_)
        have h_7 : Φ2 (x + (k)) = some (o_ 7 [.ref (x + (k + 1)), .int (nI (m + min b ((cap (k)) - m)))]) := fset_at hΦ2
        have hI2 : In G x (ca) Φ2 := In.put (k := k) hI1 hΦ2 (ok1 (k := k) hk_k ⟨m + min b ((cap (k)) - m), rfl, (show m + min b ((cap (k)) - m) ≤ cap (k) by omega)⟩)
        exact z_ret_v B dX5_putFrom_65 ⟨⟨rfl, (h_7.trans (congrArg (fun w9 : Nat => some (o_ 7 [.ref (x + (k + 1)), .int (nI w9)])) (show m + min b ((cap (k)) - m) = m + b by omega)))⟩, rfl, hI2, (fun b9 h9 => ((fset_fr hΦ2 (fun h8 => h9 (k) h8 (show k = k ∨ k = k + 1 by omega))).trans ((fset_fr hΦ1 (fun h8 => h9 (k + 1) h8 (show (k + 1) = k ∨ (k + 1) = k + 1 by omega))).trans rfl)))⟩

set_option maxHeartbeats 4000000 in
set_option maxRecDepth 100000 in
theorem s_X8_mustSendX (G : EnvG) (l : Launch) (Φ : Hm) (sz x ca : Nat) (pn : Nat) (ms : Int32) (rs : Int64) (sq : Int32) (fa : Nat → Int32) (fb : Nat → Int32) (t : Nat) (s : Nat) (c : Cf) (u : Nat) (b : Int32) (hx : G.2.2.2 ≤ x) (hI : In G x ca Φ) (hc0 : Φ (x + 74) = some (o_ 10 [.ref (x + 3), .ref (x + 46), .ref (x + 75), .ref (x + 77), .int (nI pn), .ref (x + 78), .ref (x + 79), .int ms, .long rs, .int sq])) (hc1 : Φ (x + 78) = some (ai_ G 4 fa)) (hc2 : Φ (x + 79) = some (ai_ G 4 fb)) (hcf0 : CfA G x t s c Φ) (hu : u < 4) (hg : CfG c) : Ct G l yX8_mustSend wsX8_mustSend ({ frames := 1, cells := 0, slots := 0, locals := 21 }) 0 0 [.ref (x + 74), .int (nI u), .int b] Φ sz (fun v Φ1 sz1 => ((v = some (.int 1) ∧ dueP c b (fa, fb, ms, rs, sq) u) ∨ (v = some (.int 0) ∧ ¬ dueP c b (fa, fb, ms, rs, sq) u)) ∧ sz1 = sz ∧ In G x (ca) Φ1 ∧ Fr x (fun j9 => False) Φ Φ1) := by
  refine Ct.of (cc := cX8_mustSend) (maxL := 3) (ret := (some .boolean)) (by decide) rfl (Nat.le_of_ble_eq_true rfl) ?_
  intro p9 e9 s9 m9 w9 t9 k9 B
  show Z p9 l e9 _ s9 m9 _ w9 t9 k9 _ G 3 0 [(0, .ref (x + 74)), (1, .int (nI u)), (2, .int b)] [] Φ sz 0 0
  refine z_iload_n B dX8_mustSend_0 rfl 1 rfl ?_
  refine z_if_lt (tgt := 23) B dX8_mustSend_1 rfl (fun c_1 => ?_) (fun c_1 => ?_)
  · have e_1 : u < 0 := (nI_ltI (a := u) (b := 0) (by omega) (by omega)).mp c_1
    refine z_iconst (v := 0) B dX8_mustSend_23 rfl ?_
    exact z_ret_z B dX8_mustSend_24 (by decide) ⟨((show False by omega).elim), rfl, hI, (fun b9 h9 => rfl)⟩
  · have e_2 : ¬ (u < 0) := fun h9 => c_1 ((nI_ltI (a := u) (b := 0) (by omega) (by omega)).mpr h9)
    refine z_iload_n B dX8_mustSend_4 rfl 1 rfl ?_
    refine z_iconst (v := 4) B dX8_mustSend_5 rfl ?_
    refine z_icmp_ge (tgt := 23) B dX8_mustSend_6 rfl (fun c_2 => ?_) (fun c_2 => ?_)
    · have e_3 : 4 ≤ u := (nI_leI (a := 4) (b := u) (by omega) (by omega)).mp c_2
      refine z_iconst (v := 0) B dX8_mustSend_23 rfl ?_
      exact z_ret_z B dX8_mustSend_24 (by decide) ⟨((show False by omega).elim), rfl, hI, (fun b9 h9 => rfl)⟩
    · have e_4 : ¬ (4 ≤ u) := fun h9 => c_2 ((nI_leI (a := 4) (b := u) (by omega) (by omega)).mpr h9)
      refine z_aload_n B dX8_mustSend_9 rfl 0 rfl ?_
      refine z_get (ref := "FlowExporter$Sender") (C := RX8) (T := TX8) (N := 10) (ci := 10) (v := .ref (x + 3)) B hu_X8_mustSend_X8 rfl 0 (Nat.le_of_ble_eq_true rfl) hv_X8_mustSend_44 rfl hc0 rfl dX8_mustSend_10 ?_
      refine z_iload_n B dX8_mustSend_13 rfl 1 rfl ?_
      obtain ⟨v_1, v_2, h_1⟩ := in3 (k := 3) hI rfl
      have h_2 : Φ (x + 3) = some (o_ 3 [.ref (x + 4), .ref (x + 5), .ref (x + 6), .ref (x + 7), .int v_1, .int v_2]) := h_1
      refine z_callV (As := [.int (nI u)]) (rest := []) B (s_X1_effective3 G l Φ sz x (ca) u hx hI (show u < 4 by omega)) (cwV 1 B.1.2.2.2.2 gX8_mustSend_X1_effective rfl rfl rfl (by decide +kernel) ⟨Nat.le_of_ble_eq_true rfl, Nat.le_of_ble_eq_true rfl⟩) h_2 rfl rfl rfl rfl (Nat.le_of_ble_eq_true rfl) dX8_mustSend_14 ⟨Nat.le_of_ble_eq_true rfl, Nat.le_of_ble_eq_true rfl⟩ (fun r_1 Φ1 sz1 st1 hp1 hs1 => ?_)
      obtain ⟨rfl, hq1, hI1, hF1⟩ := hp1
      subst sz1
      replace hs1 : st1 = [.ref (x + (10 + 4 * u))] := hs1
      subst st1
      replace hI1 : In G x (ca) Φ1 := hI1
      have hcg1 : CfA G x t s c Φ1 := (CfA.fr hcf0 hF1 (fun j9 h7 => (show False from h7).elim))
      obtain ⟨⟨v_3, f_1, h_3, h_4⟩, e_5⟩ := CfA.ec (u := u) hcg1 hg (show u < 4 by omega)
      have b_1 : esN c u ≤ 9 := e_5.1
      have b_2 : rlN c u ≤ 29 := e_5.2.1
      refine z_get (ref := "FlowExporter$Template") (C := RX10) (T := TX10) (N := 4) (ci := 12) (v := .int (nI (esN c u))) B hu_X8_mustSend_X10 rfl 1 (Nat.le_of_ble_eq_true rfl) hv_X8_mustSend_85 rfl h_3 rfl dX8_mustSend_17 ?_
      refine z_if_ne (tgt := 25) B dX8_mustSend_20 rfl (fun c_3 => ?_) (fun c_3 => ?_)
      · have e_6 : ¬ (esN c u = 0) := fun h9 => c_3 ((nI_eq (a := esN c u) (b := 0) (by omega) (by omega)).mpr h9)
        refine z_aload_n B dX8_mustSend_25 rfl 0 rfl ?_
        have h_5 : Φ1 (x + 74) = some (o_ 10 [.ref (x + 3), .ref (x + 46), .ref (x + 75), .ref (x + 77), .int (nI pn), .ref (x + 78), .ref (x + 79), .int ms, .long rs, .int sq]) := ((hF1 (x + 74) (fun j9 h8 h7 => (show False from h7).elim)).trans hc0)
        refine z_get (ref := "FlowExporter$Sender") (C := RX8) (T := TX8) (N := 10) (ci := 10) (v := .ref (x + 78)) B hu_X8_mustSend_X8 rfl 5 (Nat.le_of_ble_eq_true rfl) hv_X8_mustSend_28 rfl h_5 rfl dX8_mustSend_26 ?_
        refine z_iload_n B dX8_mustSend_29 rfl 1 rfl ?_
        have h_6 : Φ1 (x + 78) = some (ai_ G 4 fa) := ((hF1 (x + 78) (fun j9 h8 h7 => (show False from h7).elim)).trans hc1)
        refine z_iald B h_6 (vp_in_nI (by omega) (by omega)) dX8_mustSend_30 ?_
        refine z_top (st1 := [.int (fa u)]) (congrArg (fun w9 : Int32 => ([.int w9] : List Value)) (congrArg fa (nI_clamp (by omega)))) ?_
        refine z_if_eq (tgt := 75) B dX8_mustSend_31 rfl (fun c_4 => ?_) (fun c_4 => ?_)
        · refine z_iconst (v := 1) B dX8_mustSend_75 rfl ?_
          refine z_goto (tgt := 80) B dX8_mustSend_76 rfl ?_
          exact z_ret_z B dX8_mustSend_80 (by decide) ⟨(Or.inl ⟨rfl, (by omega), Or.inl c_4⟩), rfl, hI1, (fun b9 h9 => ((hF1 b9 (fun j9 h8 h7 => (show False from h7).elim)).trans rfl))⟩
        · refine z_aload_n B dX8_mustSend_34 rfl 0 rfl ?_
          refine z_get (ref := "FlowExporter$Sender") (C := RX8) (T := TX8) (N := 10) (ci := 10) (v := .int ms) B hu_X8_mustSend_X8 rfl 7 (Nat.le_of_ble_eq_true rfl) hv_X8_mustSend_34 rfl h_5 rfl dX8_mustSend_35 ?_
          refine z_aload_n B dX8_mustSend_38 rfl 0 rfl ?_
          refine z_get (ref := "FlowExporter$Sender") (C := RX8) (T := TX8) (N := 10) (ci := 10) (v := .ref (x + 78)) B hu_X8_mustSend_X8 rfl 5 (Nat.le_of_ble_eq_true rfl) hv_X8_mustSend_28 rfl h_5 rfl dX8_mustSend_39 ?_
          refine z_iload_n B dX8_mustSend_42 rfl 1 rfl ?_
          refine z_iald B h_6 (vp_in_nI (by omega) (by omega)) dX8_mustSend_43 ?_
          refine z_top (st1 := [.int (fa u), .int ms]) (congrArg (fun w9 : Int32 => ([.int w9, .int ms] : List Value)) (congrArg fa (nI_clamp (by omega)))) ?_
          refine z_isub B dX8_mustSend_44 ?_
          refine z_aload_n B dX8_mustSend_45 rfl 0 rfl ?_
          refine z_get (ref := "FlowExporter$Sender") (C := RX8) (T := TX8) (N := 10) (ci := 10) (v := .ref (x + 3)) B hu_X8_mustSend_X8 rfl 0 (Nat.le_of_ble_eq_true rfl) hv_X8_mustSend_44 rfl h_5 rfl dX8_mustSend_46 ?_
          refine z_iconst (v := 4) B dX8_mustSend_49 rfl ?_
          have h_7 : Φ1 (x + 3) = some (o_ 3 [.ref (x + 4), .ref (x + 5), .ref (x + 6), .ref (x + 7), .int v_1, .int v_2]) := ((hF1 (x + 3) (fun j9 h8 h7 => (show False from h7).elim)).trans h_2)
          refine z_callV (As := [.int 4]) (rest := [.int (ms - (fa u))]) B (s_X1_getX G l Φ1 sz x (ca) t s c 4 hx hI1 hcg1 (show 4 < 9 by omega)) (cwV 1 B.1.2.2.2.2 gX8_mustSend_X1_get rfl rfl rfl (by decide +kernel) ⟨Nat.le_of_ble_eq_true rfl, Nat.le_of_ble_eq_true rfl⟩) h_7 rfl rfl rfl rfl (Nat.le_of_ble_eq_true rfl) dX8_mustSend_50 ⟨Nat.le_of_ble_eq_true rfl, Nat.le_of_ble_eq_true rfl⟩ (fun r_2 Φ2 sz2 st2 hp2 hs2 => ?_)
          obtain ⟨rfl, hq2, hI2, hF2⟩ := hp2
          subst sz2
          replace hs2 : st2 = [.int (c 4), .int (ms - (fa u))] := hs2
          subst st2
          replace hI2 : In G x (ca) Φ2 := hI2
          refine z_icmp_ge (tgt := 75) B dX8_mustSend_53 rfl (fun c_5 => ?_) (fun c_5 => ?_)
          · refine z_iconst (v := 1) B dX8_mustSend_75 rfl ?_
            refine z_goto (tgt := 80) B dX8_mustSend_76 rfl ?_
            exact z_ret_z B dX8_mustSend_80 (by decide) ⟨(Or.inl ⟨rfl, (by omega), Or.inr (Or.inl c_5)⟩), rfl, hI2, (fun b9 h9 => ((hF2 b9 (fun j9 h8 h7 => (show False from h7).elim)).trans ((hF1 b9 (fun j9 h8 h7 => (show False from h7).elim)).trans rfl)))⟩
          · refine z_iload_n B dX8_mustSend_56 rfl 2 rfl ?_
            refine z_aload_n B dX8_mustSend_57 rfl 0 rfl ?_
            have h_8 : Φ2 (x + 74) = some (o_ 10 [.ref (x + 3), .ref (x + 46), .ref (x + 75), .ref (x + 77), .int (nI pn), .ref (x + 78), .ref (x + 79), .int ms, .long rs, .int sq]) := ((hF2 (x + 74) (fun j9 h8 h7 => (show False from h7).elim)).trans h_5)
            refine z_get (ref := "FlowExporter$Sender") (C := RX8) (T := TX8) (N := 10) (ci := 10) (v := .ref (x + 79)) B hu_X8_mustSend_X8 rfl 6 (Nat.le_of_ble_eq_true rfl) hv_X8_mustSend_31 rfl h_8 rfl dX8_mustSend_58 ?_
            refine z_iload_n B dX8_mustSend_61 rfl 1 rfl ?_
            have h_9 : Φ2 (x + 79) = some (ai_ G 4 fb) := ((hF2 (x + 79) (fun j9 h8 h7 => (show False from h7).elim)).trans ((hF1 (x + 79) (fun j9 h8 h7 => (show False from h7).elim)).trans hc2))
            refine z_iald B h_9 (vp_in_nI (by omega) (by omega)) dX8_mustSend_62 ?_
            refine z_top (st1 := [.int (fb u), .int b]) (congrArg (fun w9 : Int32 => ([.int w9, .int b] : List Value)) (congrArg fb (nI_clamp (by omega)))) ?_
            refine z_isub B dX8_mustSend_63 ?_
            refine z_aload_n B dX8_mustSend_64 rfl 0 rfl ?_
            refine z_get (ref := "FlowExporter$Sender") (C := RX8) (T := TX8) (N := 10) (ci := 10) (v := .ref (x + 3)) B hu_X8_mustSend_X8 rfl 0 (Nat.le_of_ble_eq_true rfl) hv_X8_mustSend_44 rfl h_8 rfl dX8_mustSend_65 ?_
            refine z_iconst (v := 5) B dX8_mustSend_68 rfl ?_
            have hcg2 : CfA G x t s c Φ2 := (CfA.fr hcg1 hF2 (fun j9 h7 => (show False from h7).elim))
            have h_10 : Φ2 (x + 3) = some (o_ 3 [.ref (x + 4), .ref (x + 5), .ref (x + 6), .ref (x + 7), .int v_1, .int v_2]) := ((hF2 (x + 3) (fun j9 h8 h7 => (show False from h7).elim)).trans h_7)
            refine z_callV (As := [.int 5]) (rest := [.int (b - (fb u))]) B (s_X1_getX G l Φ2 sz x (ca) t s c 5 hx hI2 hcg2 (show 5 < 9 by omega)) (cwV 1 B.1.2.2.2.2 gX8_mustSend_X1_get rfl rfl rfl (by decide +kernel) ⟨Nat.le_of_ble_eq_true rfl, Nat.le_of_ble_eq_true rfl⟩) h_10 rfl rfl rfl rfl (Nat.le_of_ble_eq_true rfl) dX8_mustSend_69 ⟨Nat.le_of_ble_eq_true rfl, Nat.le_of_ble_eq_true rfl⟩ (fun r_3 Φ3 sz3 st3 hp3 hs3 => ?_)
            obtain ⟨rfl, hq3, hI3, hF3⟩ := hp3
            subst sz3
            replace hs3 : st3 = [.int (c 5), .int (b - (fb u))] := hs3
            subst st3
            replace hI3 : In G x (ca) Φ3 := hI3
            refine z_icmp_lt (tgt := 79) B dX8_mustSend_72 rfl (fun c_6 => ?_) (fun c_6 => ?_)
            · refine z_iconst (v := 0) B dX8_mustSend_79 rfl ?_
              exact z_ret_z B dX8_mustSend_80 (by decide) ⟨(Or.inr ⟨rfl, fun h9 => h9.2.elim c_4 (fun h8 => h8.elim c_5 (fun h7 => Int32.not_le.mpr c_6 h7))⟩), rfl, hI3, (fun b9 h9 => ((hF3 b9 (fun j9 h8 h7 => (show False from h7).elim)).trans ((hF2 b9 (fun j9 h8 h7 => (show False from h7).elim)).trans ((hF1 b9 (fun j9 h8 h7 => (show False from h7).elim)).trans rfl))))⟩
            · refine z_iconst (v := 1) B dX8_mustSend_75 rfl ?_
              refine z_goto (tgt := 80) B dX8_mustSend_76 rfl ?_
              exact z_ret_z B dX8_mustSend_80 (by decide) ⟨(Or.inl ⟨rfl, (by omega), Or.inr (Or.inr (Int32.not_lt.mp c_6))⟩), rfl, hI3, (fun b9 h9 => ((hF3 b9 (fun j9 h8 h7 => (show False from h7).elim)).trans ((hF2 b9 (fun j9 h8 h7 => (show False from h7).elim)).trans ((hF1 b9 (fun j9 h8 h7 => (show False from h7).elim)).trans rfl))))⟩
      · have e_7 : esN c u = 0 := (nI_eq (a := esN c u) (b := 0) (by omega) (by omega)).mp c_3
        refine z_iconst (v := 0) B dX8_mustSend_23 rfl ?_
        exact z_ret_z B dX8_mustSend_24 (by decide) ⟨(Or.inr ⟨rfl, fun h9 => h9.1 (by omega)⟩), rfl, hI1, (fun b9 h9 => ((hF1 b9 (fun j9 h8 h7 => (show False from h7).elim)).trans rfl))⟩

set_option maxHeartbeats 4000000 in
set_option maxRecDepth 100000 in
theorem s_X8_putTemplateX (G : EnvG) (l : Launch) (Φ : Hm) (sz x ca : Nat) (m : Nat) (t : Nat) (s : Nat) (c : Cf) (k : Nat) (u : Nat) (hx : G.2.2.2 ≤ x) (hI : In G x ca Φ) (hk_k : kd k = 1) (hc0 : Φ (x + (k)) = some (o_ 7 [.ref (x + (k + 1)), .int (nI m)])) (hcf0 : CfA G x t s c Φ) (hq1 : 48 ≤ k) (hq2 : k < 73) (hcp : cap k = 600) (hu : u < 4) (hm : m + 40 ≤ 600) (hg : CfG c) : Ct G l yX8_putTemplate wsX8_putTemplate ({ frames := 1, cells := 0, slots := 0, locals := 24 }) 0 0 [.ref (x + 74), .ref (x + (k)), .int (nI u)] Φ sz (fun v Φ1 sz1 => (v = none ∧ Φ1 (x + (k)) = some (o_ 7 [.ref (x + (k + 1)), .int (nI (m + 4 + 4 * esN c u))])) ∧ sz1 = sz ∧ In G x (ca) Φ1 ∧ Fr x (fun j9 => j9 = k ∨ j9 = k + 1) Φ Φ1) := by
  refine Ct.of (cc := cX8_putTemplate) (maxL := 6) (ret := none) (by decide) rfl (Nat.le_of_ble_eq_true rfl) ?_
  intro p9 e9 s9 m9 w9 t9 k9 B
  show Z p9 l e9 _ s9 m9 _ w9 t9 k9 _ G 6 0 [(0, .ref (x + 74)), (1, .ref (x + (k))), (2, .int (nI u))] [] Φ sz 0 0
  refine z_aload_n B dX8_putTemplate_0 rfl 0 rfl ?_
  obtain ⟨n_1, v_1, v_2, v_3, h_1, b_1⟩ := in13 (k := 74) hI rfl
  have h_2 : Φ (x + 74) = some (o_ 10 [.ref (x + 3), .ref (x + 46), .ref (x + 75), .ref (x + 77), .int (nI n_1), .ref (x + 78), .ref (x + 79), .int v_1, .long v_2, .int v_3]) := h_1
  refine z_get (ref := "FlowExporter$Sender") (C := RX8) (T := TX8) (N := 10) (ci := 10) (v := .ref (x + 3)) B hu_X8_putTemplate_X8 rfl 0 (Nat.le_of_ble_eq_true rfl) hv_X8_putTemplate_44 rfl h_2 rfl dX8_putTemplate_1 ?_
  refine z_iload_n B dX8_putTemplate_4 rfl 2 rfl ?_
  obtain ⟨v_4, v_5, h_3⟩ := in3 (k := 3) hI rfl
  have h_4 : Φ (x + 3) = some (o_ 3 [.ref (x + 4), .ref (x + 5), .ref (x + 6), .ref (x + 7), .int v_4, .int v_5]) := h_3
  refine z_callV (As := [.int (nI u)]) (rest := []) B (s_X1_effective3 G l Φ sz x (ca) u hx hI (show u < 4 by omega)) (cwV 1 B.1.2.2.2.2 gX8_putTemplate_X1_effective rfl rfl rfl (by decide +kernel) ⟨Nat.le_of_ble_eq_true rfl, Nat.le_of_ble_eq_true rfl⟩) h_4 rfl rfl rfl rfl (Nat.le_of_ble_eq_true rfl) dX8_putTemplate_5 ⟨Nat.le_of_ble_eq_true rfl, Nat.le_of_ble_eq_true rfl⟩ (fun r_1 Φ1 sz1 st1 hp1 hs1 => ?_)
  obtain ⟨rfl, hq1, hI1, hF1⟩ := hp1
  subst sz1
  replace hs1 : st1 = [.ref (x + (10 + 4 * u))] := hs1
  subst st1
  replace hI1 : In G x (ca) Φ1 := hI1
  refine z_astore_n (lv' := [(3, .ref (x + (10 + 4 * u))), (0, .ref (x + 74)), (1, .ref (x + (k))), (2, .int (nI u))]) B dX8_putTemplate_8 rfl (Nat.le_of_ble_eq_true rfl) rfl ?_
  refine z_aload_n B dX8_putTemplate_9 rfl 2 rfl ?_
  refine z_sipush (v := 256) B dX8_putTemplate_10 rfl ?_
  refine z_iload_n B dX8_putTemplate_13 rfl 3 rfl ?_
  refine z_iadd B dX8_putTemplate_14 ?_
  refine z_top (st1 := [.int (nI (256 + u)), .ref (x + (k))]) (congrArg (fun w9 : Int32 => ([.int w9, .ref (x + (k))] : List Value)) (nI_add 256 u)) ?_
  refine z_i2l (v := (nI (256 + u)).toInt64) B dX8_putTemplate_15 rfl ?_
  refine z_fl (fun v_6 => ?_)
  refine z_iconst (v := 2) B dX8_putTemplate_16 rfl ?_
  have h_5 : Φ1 (x + (k)) = some (o_ 7 [.ref (x + (k + 1)), .int (nI m)]) := ((hF1 (x + (k)) (fun j9 h8 h7 => (show False from h7).elim)).trans hc0)
  refine z_callV (As := [.long v_6, .int 2]) (rest := []) B (s_X5_putL G l Φ1 sz x (ca) m k v_6 2 hx hI1 hk_k h_5 (show 2 ≤ 8 by omega) (show m + 2 ≤ cap k by omega)) (cwV 2 B.1.2.2.2.2 gX8_putTemplate_X5_put rfl rfl rfl (by decide +kernel) ⟨Nat.le_of_ble_eq_true rfl, Nat.le_of_ble_eq_true rfl⟩) h_5 rfl rfl rfl rfl (Nat.le_of_ble_eq_true rfl) dX8_putTemplate_17 ⟨Nat.le_of_ble_eq_true rfl, Nat.le_of_ble_eq_true rfl⟩ (fun r_2 Φ2 sz2 st2 hp2 hs2 => ?_)
  obtain ⟨⟨rfl, h_6⟩, hq2, hI2, hF2⟩ := hp2
  subst sz2
  replace hs2 : st2 = [] := hs2
  subst st2
  replace hI2 : In G x (ca) Φ2 := hI2
  refine z_aload_n B dX8_putTemplate_20 rfl 2 rfl ?_
  refine z_aload_n B dX8_putTemplate_21 rfl 0 rfl ?_
  have hcg1 : CfA G x t s c Φ2 := (CfA.fr (CfA.fr hcf0 hF1 (fun j9 h7 => (show False from h7).elim)) hF2 (fun j9 h7 => by have h6 : j9 = k ∨ j9 = k + 1 := h7; intros; omega))
  obtain ⟨⟨v_7, f_1, h_7, h_8⟩, e_1⟩ := CfA.ec (u := u) hcg1 hg (show u < 4 by omega)
  have b_2 : esN c u ≤ 9 := e_1.1
  have b_3 : rlN c u ≤ 29 := e_1.2.1
  refine z_get (ref := "FlowExporter$Template") (C := RX10) (T := TX10) (N := 4) (ci := 12) (v := .int (nI (esN c u))) B hu_X8_putTemplate_X10 rfl 1 (Nat.le_of_ble_eq_true rfl) hv_X8_putTemplate_85 rfl h_7 rfl dX8_putTemplate_22 ?_
  refine z_i2l (v := (nI (esN c u)).toInt64) B dX8_putTemplate_25 rfl ?_
  refine z_fl (fun v_8 => ?_)
  refine z_iconst (v := 2) B dX8_putTemplate_26 rfl ?_
  refine z_callV (As := [.long v_8, .int 2]) (rest := []) B (s_X5_putL G l Φ2 sz x (ca) (m + 2) k v_8 2 hx hI2 hk_k h_6 (show 2 ≤ 8 by omega) (show (m + 2) + 2 ≤ cap k by omega)) (cwV 2 B.1.2.2.2.2 gX8_putTemplate_X5_put rfl rfl rfl (by decide +kernel) ⟨Nat.le_of_ble_eq_true rfl, Nat.le_of_ble_eq_true rfl⟩) h_6 rfl rfl rfl rfl (Nat.le_of_ble_eq_true rfl) dX8_putTemplate_27 ⟨Nat.le_of_ble_eq_true rfl, Nat.le_of_ble_eq_true rfl⟩ (fun r_3 Φ3 sz3 st3 hp3 hs3 => ?_)
  obtain ⟨⟨rfl, h_9⟩, hq3, hI3, hF3⟩ := hp3
  subst sz3
  replace hs3 : st3 = [] := hs3
  subst st3
  replace hI3 : In G x (ca) Φ3 := hI3
  refine z_iconst (v := 0) B dX8_putTemplate_30 rfl ?_
  refine z_istore (lv' := [(4, .int 0), (3, .ref (x + (10 + 4 * u))), (0, .ref (x + 74)), (1, .ref (x + (k))), (2, .int (nI u))]) B dX8_putTemplate_31 (Nat.le_of_ble_eq_true rfl) rfl ?_
  refine z_lv [0, 1, 2, 3, 4] rfl ?_
  have hcg2 : CfA G x t s c Φ3 := (CfA.fr hcg1 hF3 (fun j9 h7 => by have h6 : j9 = k ∨ j9 = k + 1 := h7; intros; omega))
  refine z_loop (α := Nat) (fun (a9 : Nat) Φi => In G x (ca) Φi ∧ Fr x (fun j9 => j9 = k ∨ j9 = k + 1) Φ3 Φi ∧ (a9 ≤ 9) ∧ (a9 ≤ esN c u) ∧ (esN c u ≤ 9) ∧ (CfA G x t s c Φi) ∧ (Φi (x + (k)) = some (o_ 7 [.ref (x + (k + 1)), .int (nI ((m + 4 + 4 * a9)))])) ∧ True) (fun a9 => [(4, .int (nI a9)), (3, .ref (x + (10 + 4 * u))), (0, .ref (x + 74)), (1, .ref (x + (k))), (2, .int (nI u))]) (fun a9 => 9 - a9) ?_ (0) ⟨hI3, fun _ _ => rfl, (show 0 ≤ 9 by omega), (show 0 ≤ esN c u by omega), (show esN c u ≤ 9 by omega), hcg2, (h_9.trans (congrArg (fun w9 : Nat => some (o_ 7 [.ref (x + (k + 1)), .int (nI w9)])) (show (m + 2) + 2 = m + 4 + 4 * 0 by omega))), trivial⟩
  rintro i_1 Φl1 ⟨hI4, hF4, b_4, b_5, b_6, b_7, b_8, -⟩ ih1
  replace hI4 : In G x (ca) Φl1 := hI4
  replace b_4 : i_1 ≤ 9 := b_4
  replace b_5 : i_1 ≤ esN c u := b_5
  replace b_6 : esN c u ≤ 9 := b_6
  replace b_7 : CfA G x t s c Φl1 := b_7
  replace b_8 : Φl1 (x + (k)) = some (o_ 7 [.ref (x + (k + 1)), .int (nI ((m + 4 + 4 * i_1)))]) := b_8
  show Z p9 l e9 _ s9 m9 _ w9 t9 k9 _ G 6 33 [(4, .int (nI i_1)), (3, .ref (x + (10 + 4 * u))), (0, .ref (x + 74)), (1, .ref (x + (k))), (2, .int (nI u))] [] Φl1 _ _ _
  refine z_iload B dX8_putTemplate_33 0 rfl ?_
  refine z_aload_n B dX8_putTemplate_35 rfl 1 rfl ?_
  have h_10 : Φl1 (x + (10 + 4 * u)) = some (o_ 12 [.ref (x + (10 + 4 * u + 1)), .int (nI (esN c u)), .int v_7, .int (nI (rlN c u))]) := ((hF4 (x + (10 + 4 * u)) (fun j9 h8 h7 => by have h6 : j9 = k ∨ j9 = k + 1 := h7; omega)).trans ((hF3 (x + (10 + 4 * u)) (fun j9 h8 h7 => by have h6 : j9 = k ∨ j9 = k + 1 := h7; omega)).trans h_7))
  refine z_get (ref := "FlowExporter$Template") (C := RX10) (T := TX10) (N := 4) (ci := 12) (v := .int (nI (esN c u))) B hu_X8_putTemplate_X10 rfl 1 (Nat.le_of_ble_eq_true rfl) hv_X8_putTemplate_85 rfl h_10 rfl dX8_putTemplate_36 ?_
  refine z_icmp_ge (tgt := 75) B dX8_putTemplate_39 rfl (fun c_1 => ?_) (fun c_1 => ?_)
  · have e_2 : esN c u ≤ i_1 := (nI_leI (a := esN c u) (b := i_1) (by omega) (by omega)).mp c_1
    exact z_ret_v B dX8_putTemplate_75 ⟨⟨rfl, (b_8.trans (congrArg (fun w9 : Nat => some (o_ 7 [.ref (x + (k + 1)), .int (nI w9)])) (show m + 4 + 4 * i_1 = m + 4 + 4 * esN c u by omega)))⟩, rfl, hI4, (fun b9 h9 => ((hF4 b9 h9).trans ((hF3 b9 h9).trans ((hF2 b9 h9).trans ((hF1 b9 (fun j9 h8 h7 => (show False from h7).elim)).trans rfl)))))⟩
  · have e_3 : ¬ (esN c u ≤ i_1) := fun h9 => c_1 ((nI_leI (a := esN c u) (b := i_1) (by omega) (by omega)).mpr h9)
    refine z_aload_n B dX8_putTemplate_42 rfl 1 rfl ?_
    refine z_iload B dX8_putTemplate_43 0 rfl ?_
    refine z_callV (As := [.int (nI i_1)]) (rest := []) B (s_X10_field G l Φl1 sz x (ca) (10 + 4 * u) (nI i_1) hx hI4 (kd_e (k := 7) rfl (show u < 4 by omega))) (cwV 1 B.1.2.2.2.2 gX8_putTemplate_X10_field rfl rfl rfl (by decide +kernel) ⟨Nat.le_of_ble_eq_true rfl, Nat.le_of_ble_eq_true rfl⟩) h_10 rfl rfl rfl rfl (Nat.le_of_ble_eq_true rfl) dX8_putTemplate_45 ⟨Nat.le_of_ble_eq_true rfl, Nat.le_of_ble_eq_true rfl⟩ (fun r_4 Φ4 sz4 st4 hp4 hs4 => ?_)
    obtain ⟨⟨v_9, rfl⟩, hq4, hI5, hF5⟩ := hp4
    subst sz4
    replace hs4 : st4 = [.int v_9] := hs4
    subst st4
    replace hI5 : In G x (ca) Φ4 := hI5
    refine z_istore (lv' := [(5, .int v_9), (4, .int (nI i_1)), (3, .ref (x + (10 + 4 * u))), (0, .ref (x + 74)), (1, .ref (x + (k))), (2, .int (nI u))]) B dX8_putTemplate_48 (Nat.le_of_ble_eq_true rfl) rfl ?_
    refine z_aload_n B dX8_putTemplate_50 rfl 4 rfl ?_
    refine z_iload B dX8_putTemplate_51 0 rfl ?_
    refine z_i2l (v := v_9.toInt64) B dX8_putTemplate_53 rfl ?_
    refine z_fl (fun v_10 => ?_)
    refine z_iconst (v := 2) B dX8_putTemplate_54 rfl ?_
    have h_11 : Φ4 (x + (k)) = some (o_ 7 [.ref (x + (k + 1)), .int (nI ((m + 4 + 4 * i_1)))]) := ((hF5 (x + (k)) (fun j9 h8 h7 => (show False from h7).elim)).trans b_8)
    refine z_callV (As := [.long v_10, .int 2]) (rest := []) B (s_X5_putL G l Φ4 sz x (ca) (m + 4 + 4 * i_1) k v_10 2 hx hI5 hk_k h_11 (show 2 ≤ 8 by omega) (show (m + 4 + 4 * i_1) + 2 ≤ cap k by omega)) (cwV 2 B.1.2.2.2.2 gX8_putTemplate_X5_put rfl rfl rfl (by decide +kernel) ⟨Nat.le_of_ble_eq_true rfl, Nat.le_of_ble_eq_true rfl⟩) h_11 rfl rfl rfl rfl (Nat.le_of_ble_eq_true rfl) dX8_putTemplate_55 ⟨Nat.le_of_ble_eq_true rfl, Nat.le_of_ble_eq_true rfl⟩ (fun r_5 Φ5 sz5 st5 hp5 hs5 => ?_)
    obtain ⟨⟨rfl, h_12⟩, hq5, hI6, hF6⟩ := hp5
    subst sz5
    replace hs5 : st5 = [] := hs5
    subst st5
    replace hI6 : In G x (ca) Φ5 := hI6
    refine z_aload_n B dX8_putTemplate_58 rfl 4 rfl ?_
    refine z_iload B dX8_putTemplate_59 0 rfl ?_
    refine z_callSN (As := [.int v_9]) (rest := [.ref (x + (k))]) B (s_X11_lengthOf G l Φ5 sz x (ca) v_9 hx hI6 ) ⟨va_cnB 1 B.1.2.2.2.2 gX8_putTemplate_X11_lengthOf_n103 rfl rfl rfl (B.2.2.2.2.1.2.2.1 (RX8, 103, yX11_lengthOf) (by decide +kernel)) (B.1.2.2.2.2 _ (by decide +kernel)) (by decide +kernel) ⟨Nat.le_of_ble_eq_true rfl, Nat.le_of_ble_eq_true rfl⟩, B.1.2.2.2.2 _ (by decide +kernel), trivial⟩ rfl rfl (Nat.le_of_ble_eq_true rfl) dX8_putTemplate_61 ⟨Nat.le_of_ble_eq_true rfl, Nat.le_of_ble_eq_true rfl⟩ (fun r_6 Φ6 sz6 st6 hp6 hs6 => ?_)
    obtain ⟨⟨n_2, rfl, b_9⟩, hq6, hI7, hF7⟩ := hp6
    subst sz6
    replace hs6 : st6 = [.int (nI n_2), .ref (x + (k))] := hs6
    subst st6
    replace hI7 : In G x (ca) Φ6 := hI7
    replace b_9 : n_2 ≤ 8 := b_9
    refine z_i2l (v := (nI n_2).toInt64) B dX8_putTemplate_64 rfl ?_
    refine z_fl (fun v_11 => ?_)
    refine z_iconst (v := 2) B dX8_putTemplate_65 rfl ?_
    have h_13 : Φ6 (x + (k)) = some (o_ 7 [.ref (x + (k + 1)), .int (nI ((m + 4 + 4 * i_1) + 2))]) := ((hF7 (x + (k)) (fun j9 h8 h7 => (show False from h7).elim)).trans h_12)
    refine z_callV (As := [.long v_11, .int 2]) (rest := []) B (s_X5_putL G l Φ6 sz x (ca) ((m + 4 + 4 * i_1) + 2) k v_11 2 hx hI7 hk_k h_13 (show 2 ≤ 8 by omega) (show ((m + 4 + 4 * i_1) + 2) + 2 ≤ cap k by omega)) (cwV 2 B.1.2.2.2.2 gX8_putTemplate_X5_put rfl rfl rfl (by decide +kernel) ⟨Nat.le_of_ble_eq_true rfl, Nat.le_of_ble_eq_true rfl⟩) h_13 rfl rfl rfl rfl (Nat.le_of_ble_eq_true rfl) dX8_putTemplate_66 ⟨Nat.le_of_ble_eq_true rfl, Nat.le_of_ble_eq_true rfl⟩ (fun r_7 Φ7 sz7 st7 hp7 hs7 => ?_)
    obtain ⟨⟨rfl, h_14⟩, hq7, hI8, hF8⟩ := hp7
    subst sz7
    replace hs7 : st7 = [] := hs7
    subst st7
    replace hI8 : In G x (ca) Φ7 := hI8
    refine z_iinc (k := 1) (v := nI (i_1 + 1)) (lv' := [(4, .int (nI (i_1 + 1))), (5, .int v_9), (3, .ref (x + (10 + 4 * u))), (0, .ref (x + 74)), (1, .ref (x + (k))), (2, .int (nI u))]) B dX8_putTemplate_69 rfl (nI_add i_1 1) (Nat.le_of_ble_eq_true rfl) rfl ?_
    refine z_goto (tgt := 33) B dX8_putTemplate_72 rfl ?_
    refine z_lv [0, 2, 3, 4, 5] rfl ?_
    have hcg3 : CfA G x t s c Φ7 := (CfA.fr (CfA.fr (CfA.fr (CfA.fr b_7 hF5 (fun j9 h7 => (show False from h7).elim)) hF6 (fun j9 h7 => by have h6 : j9 = k ∨ j9 = k + 1 := h7; intros; omega)) hF7 (fun j9 h7 => (show False from h7).elim)) hF8 (fun j9 h7 => by have h6 : j9 = k ∨ j9 = k + 1 := h7; intros; omega))
    exact ih1 (i_1 + 1) Φ7 (show 9 - (i_1 + 1) < 9 - i_1 by omega) ⟨hI8, (fun b9 h9 => ((hF8 b9 h9).trans ((hF7 b9 (fun j9 h8 h7 => (show False from h7).elim)).trans ((hF6 b9 h9).trans ((hF5 b9 (fun j9 h8 h7 => (show False from h7).elim)).trans ((hF4 b9 h9).trans rfl)))))), (show (i_1 + 1) ≤ 9 by omega), (show (i_1 + 1) ≤ esN c u by omega), (show esN c u ≤ 9 by omega), hcg3, (h_14.trans (congrArg (fun w9 : Nat => some (o_ 7 [.ref (x + (k + 1)), .int (nI w9)])) (show ((m + 4 + 4 * i_1) + 2) + 2 = m + 4 + 4 * (i_1 + 1) by omega))), trivial⟩

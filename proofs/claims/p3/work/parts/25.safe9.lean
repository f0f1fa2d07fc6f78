set_option maxHeartbeats 4000000 in
set_option maxRecDepth 100000 in
theorem s_X0_rateOfBits (G : EnvG) (l : Launch) (Φ : Hm) (sz x ca : Nat) (a : Int32) (b : Nat) (hx : G.2.2.2 ≤ x) (hI : In G x ca Φ) (hb : b < 2 ^ 31) : Ct G l yX0_rateOfBits wsX0_rateOfBits ({ frames := 1, cells := 0, slots := 0, locals := 13 }) 0 0 [.int a, .int (nI b)] Φ sz (fun v Φ1 sz1 => (∃ n9 : Nat, v = some (.int (nI n9)) ∧ n9 < 2 ^ 31) ∧ sz1 = sz ∧ In G x (ca) Φ1 ∧ Fr x (fun j9 => False) Φ Φ1) := by
  refine Ct.of (cc := cX0_rateOfBits) (maxL := 5) (ret := (some .int)) (by decide) rfl (Nat.le_of_ble_eq_true rfl) ?_
  intro p9 e9 s9 m9 w9 t9 k9 B
  show Z p9 l e9 _ s9 m9 _ w9 t9 k9 _ G 5 0 [(0, .int a), (1, .int (nI b))] [] Φ sz 0 0
  refine z_iload_n B dX0_rateOfBits_0 rfl 0 rfl ?_
  refine z_if_le (tgt := 10) B dX0_rateOfBits_1 rfl (fun c_1 => ?_) (fun c_1 => ?_)
  · refine z_iload_n B dX0_rateOfBits_10 rfl 1 rfl ?_
    exact z_ret_i B dX0_rateOfBits_11 ⟨⟨b, rfl, (show b < 2 ^ 31 by omega)⟩, rfl, hI, (fun b9 h9 => rfl)⟩
  · obtain ⟨n_1, e_2, e_1, rfl⟩ := nI_ofp c_1
    refine z_iload_n B dX0_rateOfBits_4 rfl 0 rfl ?_
    refine z_ldc (v := 1065353216) B (by decide +kernel) dX0_rateOfBits_5 ?_
    refine z_icmp_le (tgt := 12) B dX0_rateOfBits_7 rfl (fun c_2 => ?_) (fun c_2 => ?_)
    · have e_3 : n_1 ≤ 1065353216 := (nI_leI (a := n_1) (b := 1065353216) (by omega) (by omega)).mp c_2
      refine z_iload_n B dX0_rateOfBits_12 rfl 0 rfl ?_
      refine z_bipush (v := 23) B dX0_rateOfBits_13 rfl ?_
      refine z_ishr B dX0_rateOfBits_15 ?_
      refine z_fi (fun v_1 => ?_)
      refine z_istore_n (lv' := [(2, .int v_1), (0, .int (nI n_1)), (1, .int (nI b))]) B dX0_rateOfBits_16 rfl (Nat.le_of_ble_eq_true rfl) rfl ?_
      refine z_iload_n B dX0_rateOfBits_17 rfl 0 rfl ?_
      refine z_bipush (v := 117) B dX0_rateOfBits_18 rfl ?_
      refine z_icmp_ge (tgt := 27) B dX0_rateOfBits_20 rfl (fun c_3 => ?_) (fun c_3 => ?_)
      · obtain ⟨n_2, e_5, e_4, rfl⟩ := nI_ofge (c := 117) (by omega) (Int32.not_lt.mpr c_3)
        refine z_iload_n B dX0_rateOfBits_27 rfl 1 rfl ?_
        refine z_ldc (v := 8388607) B (by decide +kernel) dX0_rateOfBits_28 ?_
        refine z_iand B dX0_rateOfBits_30 ?_
        refine z_fi (fun v_2 => ?_)
        refine z_ldc (v := 8388608) B (by decide +kernel) dX0_rateOfBits_31 ?_
        refine z_ior B dX0_rateOfBits_33 ?_
        refine z_istore_n (lv' := [(3, .int (v_2 ||| 8388608)), (2, .int (nI n_2)), (0, .int (nI n_1)), (1, .int (nI b))]) B dX0_rateOfBits_34 rfl (Nat.le_of_ble_eq_true rfl) rfl ?_
        refine z_iload_n B dX0_rateOfBits_35 rfl 0 rfl ?_
        refine z_i2f B dX0_rateOfBits_36 ?_
        refine z_lconst (v := 1) B dX0_rateOfBits_37 rfl ?_
        refine z_sipush (v := 150) B dX0_rateOfBits_38 rfl ?_
        refine z_iload_n B dX0_rateOfBits_41 rfl 1 rfl ?_
        refine z_isub B dX0_rateOfBits_42 ?_
        refine z_fi (fun v_3 => ?_)
        refine z_lshl (v := 1 <<< ((v_3 : Int32).toInt64 &&& 63)) B dX0_rateOfBits_43 rfl ?_
        refine z_l2f B dX0_rateOfBits_44 ?_
        refine z_fdiv B dX0_rateOfBits_45 (vf32_of (fdiv1 _ _)) ?_
        refine z_ffq (P := nn32) (fdiv1 _ _) (fun v_4 hu9 => ?_)
        refine z_fstore (lv' := [(4, .float v_4), (3, .int (v_2 ||| 8388608)), (2, .int (nI n_2)), (0, .int (nI n_1)), (1, .int (nI b))]) B dX0_rateOfBits_46 (Nat.le_of_ble_eq_true rfl) rfl ?_
        refine z_fload B dX0_rateOfBits_48 0 rfl ?_
        refine z_fconst0 B dX0_rateOfBits_50 ?_
        refine z_fcmp B dX0_rateOfBits_51 ?_
        refine z_if_le (tgt := 72) B dX0_rateOfBits_52 rfl (fun c_4 => ?_) (fun c_4 => ?_)
        · refine z_iload_n B dX0_rateOfBits_72 rfl 4 rfl ?_
          exact z_ret_i B dX0_rateOfBits_73 ⟨⟨b, rfl, (show b < 2 ^ 31 by omega)⟩, rfl, hI, (fun b9 h9 => rfl)⟩
        · refine z_sipush (v := 1024) B dX0_rateOfBits_55 rfl ?_
          refine z_fconst1 B dX0_rateOfBits_58 ?_
          refine z_fload B dX0_rateOfBits_59 0 rfl ?_
          refine z_fdiv B dX0_rateOfBits_61 (vf32_of (inv_nn hu9)) ?_
          refine z_ldcf (v := 1056964608) B (by decide +kernel) dX0_rateOfBits_62 ?_
          refine z_fadd B dX0_rateOfBits_64 (vf32_of (inv_add_nn hu9)) ?_
          refine z_f2i B dX0_rateOfBits_65 ?_
          obtain ⟨n_3, b_1, e_6⟩ := f2i_nat c_4
          refine z_top (st1 := [.int (nI n_3), .int 1024]) (congrArg (fun w9 : Int32 => ([.int w9, .int 1024] : List Value)) (e_6)) ?_
          refine z_mmin (v := nI (min 1024 n_3)) B (by decide +kernel) (by decide +kernel) (by decide +kernel) (by decide +kernel) (nI_min (a := 1024) (b := n_3) (by omega) (by omega)) ⟨Nat.le_of_ble_eq_true rfl, Nat.le_of_ble_eq_true rfl⟩ ⟨Nat.le_of_ble_eq_true rfl, Nat.le_of_ble_eq_true rfl⟩ dX0_rateOfBits_66 ?_
          refine z_goto (tgt := 73) B dX0_rateOfBits_69 rfl ?_
          exact z_ret_i B dX0_rateOfBits_73 ⟨⟨min 1024 n_3, rfl, (show (min 1024 n_3) < 2 ^ 31 by omega)⟩, rfl, hI, (fun b9 h9 => rfl)⟩
      · refine z_sipush (v := 1024) B dX0_rateOfBits_23 rfl ?_
        exact z_ret_i B dX0_rateOfBits_26 ⟨⟨1024, rfl, (show 1024 < 2 ^ 31 by omega)⟩, rfl, hI, (fun b9 h9 => rfl)⟩
    · have e_8 : ¬ (n_1 ≤ 1065353216) := fun h9 => c_2 ((nI_leI (a := n_1) (b := 1065353216) (by omega) (by omega)).mpr h9)
      refine z_iload_n B dX0_rateOfBits_10 rfl 1 rfl ?_
      exact z_ret_i B dX0_rateOfBits_11 ⟨⟨b, rfl, (show b < 2 ^ 31 by omega)⟩, rfl, hI, (fun b9 h9 => rfl)⟩

set_option maxHeartbeats 4000000 in
set_option maxRecDepth 100000 in
theorem s_X3_keyOf (G : EnvG) (l : Launch) (Φ : Hm) (sz x ca : Nat) (a : Int32) (b : Int32) (d : Int32) (f : Int32) (hx : G.2.2.2 ≤ x) (hI : In G x ca Φ)  : Ct G l yX3_keyOf wsX3_keyOf ({ frames := 0, cells := 0, slots := 0, locals := 0 }) 0 0 [.int a, .int b, .int d, .int f] Φ sz (fun v Φ1 sz1 => (∃ r9 : Int64, v = some (.long r9)) ∧ sz1 = sz ∧ In G x (ca) Φ1 ∧ Fr x (fun j9 => False) Φ Φ1) := by
  refine Ct.of (cc := cX3_keyOf) (maxL := 4) (ret := (some .long)) (by decide) rfl (Nat.le_of_ble_eq_true rfl) ?_
  intro p9 e9 s9 m9 w9 t9 k9 B
  show Z p9 l e9 _ s9 m9 _ w9 t9 k9 _ G 4 0 [(0, .int a), (1, .int b), (2, .int d), (3, .int f)] [] Φ sz 0 0
  refine z_iload_n B dX3_keyOf_0 rfl 0 rfl ?_
  refine z_if_lt (tgt := 22) B dX3_keyOf_1 rfl (fun c_1 => ?_) (fun c_1 => ?_)
  · refine z_ldc2 (v := (-1)) B (by decide +kernel) dX3_keyOf_22 ?_
    exact z_ret_l B dX3_keyOf_25 ⟨⟨_, rfl⟩, rfl, hI, (fun b9 h9 => rfl)⟩
  · obtain ⟨n_1, e_1, rfl⟩ := nI_of c_1
    refine z_iload_n B dX3_keyOf_4 rfl 0 rfl ?_
    refine z_sipush (v := 255) B dX3_keyOf_5 rfl ?_
    refine z_icmp_gt (tgt := 22) B dX3_keyOf_8 rfl (fun c_2 => ?_) (fun c_2 => ?_)
    · have e_2 : 255 < n_1 := (nI_ltI (a := 255) (b := n_1) (by omega) (by omega)).mp c_2
      refine z_ldc2 (v := (-1)) B (by decide +kernel) dX3_keyOf_22 ?_
      exact z_ret_l B dX3_keyOf_25 ⟨⟨_, rfl⟩, rfl, hI, (fun b9 h9 => rfl)⟩
    · have e_3 : ¬ (255 < n_1) := fun h9 => c_2 ((nI_ltI (a := 255) (b := n_1) (by omega) (by omega)).mpr h9)
      refine z_iload_n B dX3_keyOf_11 rfl 1 rfl ?_
      refine z_if_lt (tgt := 22) B dX3_keyOf_12 rfl (fun c_3 => ?_) (fun c_3 => ?_)
      · refine z_ldc2 (v := (-1)) B (by decide +kernel) dX3_keyOf_22 ?_
        exact z_ret_l B dX3_keyOf_25 ⟨⟨_, rfl⟩, rfl, hI, (fun b9 h9 => rfl)⟩
      · obtain ⟨n_2, e_4, rfl⟩ := nI_of c_3
        refine z_iload_n B dX3_keyOf_15 rfl 1 rfl ?_
        refine z_sipush (v := 255) B dX3_keyOf_16 rfl ?_
        refine z_icmp_le (tgt := 26) B dX3_keyOf_19 rfl (fun c_4 => ?_) (fun c_4 => ?_)
        · have e_5 : n_2 ≤ 255 := (nI_leI (a := n_2) (b := 255) (by omega) (by omega)).mp c_4
          refine z_iload_n B dX3_keyOf_26 rfl 2 rfl ?_
          refine z_if_lt (tgt := 47) B dX3_keyOf_27 rfl (fun c_5 => ?_) (fun c_5 => ?_)
          · refine z_ldc2 (v := (-1)) B (by decide +kernel) dX3_keyOf_47 ?_
            exact z_ret_l B dX3_keyOf_50 ⟨⟨_, rfl⟩, rfl, hI, (fun b9 h9 => rfl)⟩
          · obtain ⟨n_3, e_6, rfl⟩ := nI_of c_5
            refine z_iload_n B dX3_keyOf_30 rfl 2 rfl ?_
            refine z_ldc (v := 65535) B (by decide +kernel) dX3_keyOf_31 ?_
            refine z_icmp_gt (tgt := 47) B dX3_keyOf_33 rfl (fun c_6 => ?_) (fun c_6 => ?_)
            · have e_7 : 65535 < n_3 := (nI_ltI (a := 65535) (b := n_3) (by omega) (by omega)).mp c_6
              refine z_ldc2 (v := (-1)) B (by decide +kernel) dX3_keyOf_47 ?_
              exact z_ret_l B dX3_keyOf_50 ⟨⟨_, rfl⟩, rfl, hI, (fun b9 h9 => rfl)⟩
            · have e_8 : ¬ (65535 < n_3) := fun h9 => c_6 ((nI_ltI (a := 65535) (b := n_3) (by omega) (by omega)).mpr h9)
              refine z_iload_n B dX3_keyOf_36 rfl 3 rfl ?_
              refine z_if_lt (tgt := 47) B dX3_keyOf_37 rfl (fun c_7 => ?_) (fun c_7 => ?_)
              · refine z_ldc2 (v := (-1)) B (by decide +kernel) dX3_keyOf_47 ?_
                exact z_ret_l B dX3_keyOf_50 ⟨⟨_, rfl⟩, rfl, hI, (fun b9 h9 => rfl)⟩
              · obtain ⟨n_4, e_9, rfl⟩ := nI_of c_7
                refine z_iload_n B dX3_keyOf_40 rfl 3 rfl ?_
                refine z_sipush (v := 255) B dX3_keyOf_41 rfl ?_
                refine z_icmp_le (tgt := 51) B dX3_keyOf_44 rfl (fun c_8 => ?_) (fun c_8 => ?_)
                · have e_10 : n_4 ≤ 255 := (nI_leI (a := n_4) (b := 255) (by omega) (by omega)).mp c_8
                  refine z_iload_n B dX3_keyOf_51 rfl 0 rfl ?_
                  refine z_i2l (v := (nI n_1).toInt64) B dX3_keyOf_52 rfl ?_
                  refine z_fl (fun v_1 => ?_)
                  refine z_bipush (v := 32) B dX3_keyOf_53 rfl ?_
                  refine z_lshl (v := v_1 <<< ((32 : Int32).toInt64 &&& 63)) B dX3_keyOf_55 rfl ?_
                  refine z_fl (fun v_2 => ?_)
                  refine z_iload_n B dX3_keyOf_56 rfl 1 rfl ?_
                  refine z_i2l (v := (nI n_2).toInt64) B dX3_keyOf_57 rfl ?_
                  refine z_fl (fun v_3 => ?_)
                  refine z_bipush (v := 24) B dX3_keyOf_58 rfl ?_
                  refine z_lshl (v := v_3 <<< ((24 : Int32).toInt64 &&& 63)) B dX3_keyOf_60 rfl ?_
                  refine z_fl (fun v_4 => ?_)
                  refine z_lor B dX3_keyOf_61 ?_
                  refine z_fl (fun v_5 => ?_)
                  refine z_iload_n B dX3_keyOf_62 rfl 2 rfl ?_
                  refine z_i2l (v := (nI n_3).toInt64) B dX3_keyOf_63 rfl ?_
                  refine z_fl (fun v_6 => ?_)
                  refine z_bipush (v := 8) B dX3_keyOf_64 rfl ?_
                  refine z_lshl (v := v_6 <<< ((8 : Int32).toInt64 &&& 63)) B dX3_keyOf_66 rfl ?_
                  refine z_fl (fun v_7 => ?_)
                  refine z_lor B dX3_keyOf_67 ?_
                  refine z_fl (fun v_8 => ?_)
                  refine z_iload_n B dX3_keyOf_68 rfl 3 rfl ?_
                  refine z_i2l (v := (nI n_4).toInt64) B dX3_keyOf_69 rfl ?_
                  refine z_fl (fun v_9 => ?_)
                  refine z_lor B dX3_keyOf_70 ?_
                  refine z_fl (fun v_10 => ?_)
                  exact z_ret_l B dX3_keyOf_71 ⟨⟨_, rfl⟩, rfl, hI, (fun b9 h9 => rfl)⟩
                · have e_11 : ¬ (n_4 ≤ 255) := fun h9 => c_8 ((nI_leI (a := n_4) (b := 255) (by omega) (by omega)).mpr h9)
                  refine z_ldc2 (v := (-1)) B (by decide +kernel) dX3_keyOf_47 ?_
                  exact z_ret_l B dX3_keyOf_50 ⟨⟨_, rfl⟩, rfl, hI, (fun b9 h9 => rfl)⟩
        · have e_12 : ¬ (n_2 ≤ 255) := fun h9 => c_4 ((nI_leI (a := n_2) (b := 255) (by omega) (by omega)).mpr h9)
          refine z_ldc2 (v := (-1)) B (by decide +kernel) dX3_keyOf_22 ?_
          exact z_ret_l B dX3_keyOf_25 ⟨⟨_, rfl⟩, rfl, hI, (fun b9 h9 => rfl)⟩

set_option maxHeartbeats 4000000 in
set_option maxRecDepth 100000 in
theorem s_X0_readCandidate (G : EnvG) (l : Launch) (Φ : Hm) (sz x ca : Nat) (k : Nat) (a : Int32) (b : Int32) (hx : G.2.2.2 ≤ x) (hI : In G x ca Φ) (hk_k : kd k = 1) : Ct G l yX0_readCandidate wsX0_readCandidate ({ frames := 2, cells := 0, slots := 0, locals := 48 }) 0 0 [.ref (x + 132), .ref (x + (k)), .int a, .int b] Φ sz (fun v Φ1 sz1 => (∃ r9 : Int32, v = some (.int r9) ∧ (r9 = 0 ∨ r9 = 1)) ∧ sz1 = sz ∧ In G x (ca) Φ1 ∧ Fr x (fun j9 => (135 ≤ j9 ∧ j9 < 137)) Φ Φ1) := by
  refine Ct.of (cc := cX0_readCandidate) (maxL := 7) (ret := (some .boolean)) (by decide) rfl (Nat.le_of_ble_eq_true rfl) ?_
  intro p9 e9 s9 m9 w9 t9 k9 B
  show Z p9 l e9 _ s9 m9 _ w9 t9 k9 _ G 7 0 [(0, .ref (x + 132)), (1, .ref (x + (k))), (2, .int a), (3, .int b)] [] Φ sz 0 0
  refine z_aload_n B dX0_readCandidate_0 rfl 0 rfl ?_
  obtain ⟨n_1, v_1, v_2, h_1, b_1⟩ := in25 (k := 132) hI rfl
  have h_2 : Φ (x + 132) = some (o_ 2 [.ref (x + 3), .ref (x + 121), .ref (x + 133), .ref (x + 134), .ref (x + 135), .ref (x + 137), .ref (x + 138), .ref (x + 139), .ref (x + 140), .int (nI n_1), .int v_1, .int v_2]) := h_1
  refine z_get (ref := "FlowExporter$Collector") (C := RX0) (T := TX0) (N := 12) (ci := 2) (v := .ref (x + 135)) B (by decide +kernel) rfl 4 (by decide) (by decide +kernel) rfl h_2 rfl dX0_readCandidate_1 ?_
  obtain ⟨n_2, v_3, v_4, h_3, b_2⟩ := in8 (k := 135) hI rfl
  have h_4 : Φ (x + 135) = some (o_ 12 [.ref (x + 136), .int (nI n_2), .int v_3, .int v_4]) := h_3
  refine z_callV (As := []) (rest := []) B (s_X10_clear G l Φ sz x (ca) 135 hx hI rfl) (cwV 0 B.1.2.2.2.2 gX0_readCandidate_X10_clear rfl rfl rfl (by decide +kernel) ⟨Nat.le_of_ble_eq_true rfl, Nat.le_of_ble_eq_true rfl⟩) h_4 rfl rfl rfl rfl (Nat.le_of_ble_eq_true rfl) dX0_readCandidate_4 ⟨Nat.le_of_ble_eq_true rfl, Nat.le_of_ble_eq_true rfl⟩ (fun r_1 Φ1 sz1 st1 hp1 hs1 => ?_)
  obtain ⟨rfl, hq1, hI1, hF1⟩ := hp1
  subst sz1
  replace hs1 : st1 = [] := hs1
  subst st1
  replace hI1 : In G x (ca) Φ1 := hI1
  refine z_iconst (v := 0) B dX0_readCandidate_7 rfl ?_
  refine z_istore (lv' := [(4, .int 0), (0, .ref (x + 132)), (1, .ref (x + (k))), (2, .int a), (3, .int b)]) B dX0_readCandidate_8 (Nat.le_of_ble_eq_true rfl) rfl ?_
  refine z_lv [0, 1, 2, 3, 4] rfl ?_
  refine z_loop (α := Int32) (fun (a9 : Int32) Φi => In G x (ca) Φi ∧ Fr x (fun j9 => (135 ≤ j9 ∧ j9 < 137)) Φ1 Φi ∧ True) (fun a9 => [(4, .int a9), (0, .ref (x + 132)), (1, .ref (x + (k))), (2, .int a), (3, .int b)]) (fun a9 => ((b).toInt - (a9).toInt).toNat) ?_ (0) ⟨hI1, fun _ _ => rfl, trivial⟩
  rintro i_1 Φl1 ⟨hI2, hF2, -⟩ ih1
  replace hI2 : In G x (ca) Φl1 := hI2
  show Z p9 l e9 _ s9 m9 _ w9 t9 k9 _ G 7 10 [(4, .int i_1), (0, .ref (x + 132)), (1, .ref (x + (k))), (2, .int a), (3, .int b)] [] Φl1 _ _ _
  refine z_iload B dX0_readCandidate_10 0 rfl ?_
  refine z_iload_n B dX0_readCandidate_12 rfl 4 rfl ?_
  refine z_icmp_ge (tgt := 90) B dX0_readCandidate_13 rfl (fun c_1 => ?_) (fun c_1 => ?_)
  · refine z_aload_n B dX0_readCandidate_90 rfl 1 rfl ?_
    have h_5 : Φl1 (x + 132) = some (o_ 2 [.ref (x + 3), .ref (x + 121), .ref (x + 133), .ref (x + 134), .ref (x + 135), .ref (x + 137), .ref (x + 138), .ref (x + 139), .ref (x + 140), .int (nI n_1), .int v_1, .int v_2]) := ((hF2 (x + 132) (fun j9 h8 h7 => by have h6 : (135 ≤ j9 ∧ j9 < 137) := h7; omega)).trans ((hF1 (x + 132) (fun j9 h8 h7 => by have h6 : j9 = 135 := h7; omega)).trans h_2))
    refine z_get (ref := "FlowExporter$Collector") (C := RX0) (T := TX0) (N := 12) (ci := 2) (v := .ref (x + 135)) B (by decide +kernel) rfl 4 (by decide) (by decide +kernel) rfl h_5 rfl dX0_readCandidate_91 ?_
    obtain ⟨n_3, v_5, v_6, h_6, b_3⟩ := in8 (k := 135) hI2 rfl
    have h_7 : Φl1 (x + 135) = some (o_ 12 [.ref (x + 136), .int (nI n_3), .int v_5, .int v_6]) := h_6
    refine z_get (ref := "FlowExporter$Template") (C := RX10) (T := TX10) (N := 4) (ci := 12) (v := .int (nI n_3)) B (by decide +kernel) rfl 1 (by decide) (by decide +kernel) rfl h_7 rfl dX0_readCandidate_94 ?_
    refine z_if_le (tgt := 104) B dX0_readCandidate_97 rfl (fun c_2 => ?_) (fun c_2 => ?_)
    · have e_1 : n_3 ≤ 0 := (nI_leI (a := n_3) (b := 0) (by omega) (by omega)).mp c_2
      refine z_iconst (v := 0) B dX0_readCandidate_104 rfl ?_
      exact z_ret_z B dX0_readCandidate_105 (by decide) ⟨⟨_, rfl, by decide⟩, rfl, hI2, (fun b9 h9 => ((hF2 b9 (fun j9 h8 h7 => h9 j9 h8 (show (135 ≤ j9 ∧ j9 < 137) by have h6 : (135 ≤ j9 ∧ j9 < 137) := h7; omega))).trans ((hF1 b9 (fun j9 h8 h7 => h9 j9 h8 (show (135 ≤ j9 ∧ j9 < 137) by have h6 : j9 = 135 := h7; omega))).trans rfl)))⟩
    · have e_2 : ¬ (n_3 ≤ 0) := fun h9 => c_2 ((nI_leI (a := n_3) (b := 0) (by omega) (by omega)).mpr h9)
      refine z_iconst (v := 1) B dX0_readCandidate_100 rfl ?_
      refine z_goto (tgt := 105) B dX0_readCandidate_101 rfl ?_
      exact z_ret_z B dX0_readCandidate_105 (by decide) ⟨⟨_, rfl, by decide⟩, rfl, hI2, (fun b9 h9 => ((hF2 b9 (fun j9 h8 h7 => h9 j9 h8 (show (135 ≤ j9 ∧ j9 < 137) by have h6 : (135 ≤ j9 ∧ j9 < 137) := h7; omega))).trans ((hF1 b9 (fun j9 h8 h7 => h9 j9 h8 (show (135 ≤ j9 ∧ j9 < 137) by have h6 : j9 = 135 := h7; omega))).trans rfl)))⟩
  · refine z_aload_n B dX0_readCandidate_16 rfl 2 rfl ?_
    refine z_iload_n B dX0_readCandidate_17 rfl 3 rfl ?_
    refine z_iconst (v := 4) B dX0_readCandidate_18 rfl ?_
    refine z_iload B dX0_readCandidate_19 0 rfl ?_
    refine z_imul B dX0_readCandidate_21 ?_
    refine z_fi (fun v_7 => ?_)
    refine z_iadd B dX0_readCandidate_22 ?_
    refine z_fi (fun v_8 => ?_)
    refine z_iconst (v := 2) B dX0_readCandidate_23 rfl ?_
    obtain ⟨n_4, h_8, b_4⟩ := in1 (k := k) hI2 hk_k
    replace b_4 : n_4 ≤ cap (k) := b_4
    have b_5 := cap_le (k)
    have h_9 : Φl1 (x + (k)) = some (o_ 7 [.ref (x + (k + 1)), .int (nI n_4)]) := h_8
    refine z_callV (As := [.int v_8, .int 2]) (rest := []) B (s_X5_intAt G l Φl1 sz x (ca) k v_8 2 hx hI2 hk_k (show 2 ≤ 8 by omega)) (cwV 2 B.1.2.2.2.2 gX0_readCandidate_X5_intAt rfl rfl rfl (by decide +kernel) ⟨Nat.le_of_ble_eq_true rfl, Nat.le_of_ble_eq_true rfl⟩) h_9 rfl rfl rfl rfl (Nat.le_of_ble_eq_true rfl) dX0_readCandidate_24 ⟨Nat.le_of_ble_eq_true rfl, Nat.le_of_ble_eq_true rfl⟩ (fun r_2 Φ2 sz2 st2 hp2 hs2 => ?_)
    obtain ⟨⟨v_9, rfl⟩, hq2, hI3, hF3⟩ := hp2
    subst sz2
    replace hs2 : st2 = [.int v_9] := hs2
    subst st2
    replace hI3 : In G x (ca) Φ2 := hI3
    refine z_istore (lv' := [(5, .int v_9), (4, .int i_1), (0, .ref (x + 132)), (1, .ref (x + (k))), (2, .int a), (3, .int b)]) B dX0_readCandidate_27 (Nat.le_of_ble_eq_true rfl) rfl ?_
    refine z_aload_n B dX0_readCandidate_29 rfl 3 rfl ?_
    refine z_iload_n B dX0_readCandidate_30 rfl 4 rfl ?_
    refine z_iconst (v := 4) B dX0_readCandidate_31 rfl ?_
    refine z_iload B dX0_readCandidate_32 1 rfl ?_
    refine z_imul B dX0_readCandidate_34 ?_
    refine z_fi (fun v_10 => ?_)
    refine z_iadd B dX0_readCandidate_35 ?_
    refine z_fi (fun v_11 => ?_)
    refine z_iconst (v := 2) B dX0_readCandidate_36 rfl ?_
    refine z_iadd B dX0_readCandidate_37 ?_
    refine z_fi (fun v_12 => ?_)
    refine z_iconst (v := 2) B dX0_readCandidate_38 rfl ?_
    have h_10 : Φ2 (x + (k)) = some (o_ 7 [.ref (x + (k + 1)), .int (nI n_4)]) := ((hF3 (x + (k)) (fun j9 h8 h7 => (show False from h7).elim)).trans h_9)
    refine z_callV (As := [.int v_12, .int 2]) (rest := []) B (s_X5_intAt G l Φ2 sz x (ca) k v_12 2 hx hI3 hk_k (show 2 ≤ 8 by omega)) (cwV 2 B.1.2.2.2.2 gX0_readCandidate_X5_intAt rfl rfl rfl (by decide +kernel) ⟨Nat.le_of_ble_eq_true rfl, Nat.le_of_ble_eq_true rfl⟩) h_10 rfl rfl rfl rfl (Nat.le_of_ble_eq_true rfl) dX0_readCandidate_39 ⟨Nat.le_of_ble_eq_true rfl, Nat.le_of_ble_eq_true rfl⟩ (fun r_3 Φ3 sz3 st3 hp3 hs3 => ?_)
    obtain ⟨⟨v_13, rfl⟩, hq3, hI4, hF4⟩ := hp3
    subst sz3
    replace hs3 : st3 = [.int v_13] := hs3
    subst st3
    replace hI4 : In G x (ca) Φ3 := hI4
    refine z_istore (lv' := [(6, .int v_13), (5, .int v_9), (4, .int i_1), (0, .ref (x + 132)), (1, .ref (x + (k))), (2, .int a), (3, .int b)]) B dX0_readCandidate_42 (Nat.le_of_ble_eq_true rfl) rfl ?_
    refine z_iload B dX0_readCandidate_44 1 rfl ?_
    refine z_bipush (v := 9) B dX0_readCandidate_46 rfl ?_
    refine z_icmp_ge (tgt := 73) B dX0_readCandidate_48 rfl (fun c_3 => ?_) (fun c_3 => ?_)
    · obtain ⟨n_5, e_4, e_3, rfl⟩ := nI_ofge (c := 9) (by omega) (Int32.not_lt.mpr c_3)
      refine z_iconst (v := 0) B dX0_readCandidate_73 rfl ?_
      exact z_ret_z B dX0_readCandidate_74 (by decide) ⟨⟨_, rfl, by decide⟩, rfl, hI4, (fun b9 h9 => ((hF4 b9 (fun j9 h8 h7 => (show False from h7).elim)).trans ((hF3 b9 (fun j9 h8 h7 => (show False from h7).elim)).trans ((hF2 b9 (fun j9 h8 h7 => h9 j9 h8 (show (135 ≤ j9 ∧ j9 < 137) by have h6 : (135 ≤ j9 ∧ j9 < 137) := h7; omega))).trans ((hF1 b9 (fun j9 h8 h7 => h9 j9 h8 (show (135 ≤ j9 ∧ j9 < 137) by have h6 : j9 = 135 := h7; omega))).trans rfl)))))⟩
    · refine z_iload B dX0_readCandidate_51 0 rfl ?_
      refine z_iload B dX0_readCandidate_53 1 rfl ?_
      refine z_callSN (As := [.int v_9]) (rest := [.int v_13]) B (s_X11_lengthOf G l Φ3 sz x (ca) v_9 hx hI4 ) ⟨va_cnB 1 B.1.2.2.2.2 gX0_readCandidate_X11_lengthOf_n134 rfl rfl rfl (B.2.2.2.2.1.2.2.1 (RX0, 134, yX11_lengthOf) (by decide +kernel)) (B.1.2.2.2.2 _ (by decide +kernel)) (by decide +kernel) ⟨Nat.le_of_ble_eq_true rfl, Nat.le_of_ble_eq_true rfl⟩, B.1.2.2.2.2 _ (by decide +kernel), trivial⟩ rfl rfl (Nat.le_of_ble_eq_true rfl) dX0_readCandidate_55 ⟨Nat.le_of_ble_eq_true rfl, Nat.le_of_ble_eq_true rfl⟩ (fun r_4 Φ4 sz4 st4 hp4 hs4 => ?_)
      obtain ⟨⟨n_6, rfl, b_6⟩, hq4, hI5, hF5⟩ := hp4
      subst sz4
      replace hs4 : st4 = [.int (nI n_6), .int v_13] := hs4
      subst st4
      replace hI5 : In G x (ca) Φ4 := hI5
      replace b_6 : n_6 ≤ 8 := b_6
      refine z_icmp_ne (tgt := 73) B dX0_readCandidate_58 rfl (fun c_4 => ?_) (fun c_4 => ?_)
      · refine z_iconst (v := 0) B dX0_readCandidate_73 rfl ?_
        exact z_ret_z B dX0_readCandidate_74 (by decide) ⟨⟨_, rfl, by decide⟩, rfl, hI5, (fun b9 h9 => ((hF5 b9 (fun j9 h8 h7 => (show False from h7).elim)).trans ((hF4 b9 (fun j9 h8 h7 => (show False from h7).elim)).trans ((hF3 b9 (fun j9 h8 h7 => (show False from h7).elim)).trans ((hF2 b9 (fun j9 h8 h7 => h9 j9 h8 (show (135 ≤ j9 ∧ j9 < 137) by have h6 : (135 ≤ j9 ∧ j9 < 137) := h7; omega))).trans ((hF1 b9 (fun j9 h8 h7 => h9 j9 h8 (show (135 ≤ j9 ∧ j9 < 137) by have h6 : j9 = 135 := h7; omega))).trans rfl))))))⟩
      · refine z_aload_n B dX0_readCandidate_61 rfl 3 rfl ?_
        have h_11 : Φ4 (x + 132) = some (o_ 2 [.ref (x + 3), .ref (x + 121), .ref (x + 133), .ref (x + 134), .ref (x + 135), .ref (x + 137), .ref (x + 138), .ref (x + 139), .ref (x + 140), .int (nI n_1), .int v_1, .int v_2]) := ((hF5 (x + 132) (fun j9 h8 h7 => (show False from h7).elim)).trans ((hF4 (x + 132) (fun j9 h8 h7 => (show False from h7).elim)).trans ((hF3 (x + 132) (fun j9 h8 h7 => (show False from h7).elim)).trans ((hF2 (x + 132) (fun j9 h8 h7 => by have h6 : (135 ≤ j9 ∧ j9 < 137) := h7; omega)).trans ((hF1 (x + 132) (fun j9 h8 h7 => by have h6 : j9 = 135 := h7; omega)).trans h_2)))))
        refine z_get (ref := "FlowExporter$Collector") (C := RX0) (T := TX0) (N := 12) (ci := 2) (v := .ref (x + 135)) B (by decide +kernel) rfl 4 (by decide) (by decide +kernel) rfl h_11 rfl dX0_readCandidate_62 ?_
        refine z_iload B dX0_readCandidate_65 1 rfl ?_
        obtain ⟨n_7, v_14, v_15, h_12, b_7⟩ := in8 (k := 135) hI5 rfl
        have h_13 : Φ4 (x + 135) = some (o_ 12 [.ref (x + 136), .int (nI n_7), .int v_14, .int v_15]) := h_12
        refine z_callV (As := [.int v_9]) (rest := []) B (s_X10_has G l Φ4 sz x (ca) 135 v_9 hx hI5 rfl) (cwV 1 B.1.2.2.2.2 gX0_readCandidate_X10_has rfl rfl rfl (by decide +kernel) ⟨Nat.le_of_ble_eq_true rfl, Nat.le_of_ble_eq_true rfl⟩) h_13 rfl rfl rfl rfl (Nat.le_of_ble_eq_true rfl) dX0_readCandidate_67 ⟨Nat.le_of_ble_eq_true rfl, Nat.le_of_ble_eq_true rfl⟩ (fun r_5 Φ5 sz5 st5 hp5 hs5 => ?_)
        obtain ⟨⟨v_16, rfl, b_8⟩, hq5, hI6, hF6⟩ := hp5
        subst sz5
        replace hs5 : st5 = [.int v_16] := hs5
        subst st5
        replace hI6 : In G x (ca) Φ5 := hI6
        refine z_if_eq (tgt := 75) B dX0_readCandidate_70 rfl (fun c_5 => ?_) (fun c_5 => ?_)
        · refine z_aload_n B dX0_readCandidate_75 rfl 3 rfl ?_
          have h_14 : Φ5 (x + 132) = some (o_ 2 [.ref (x + 3), .ref (x + 121), .ref (x + 133), .ref (x + 134), .ref (x + 135), .ref (x + 137), .ref (x + 138), .ref (x + 139), .ref (x + 140), .int (nI n_1), .int v_1, .int v_2]) := ((hF6 (x + 132) (fun j9 h8 h7 => (show False from h7).elim)).trans h_11)
          refine z_get (ref := "FlowExporter$Collector") (C := RX0) (T := TX0) (N := 12) (ci := 2) (v := .ref (x + 135)) B (by decide +kernel) rfl 4 (by decide) (by decide +kernel) rfl h_14 rfl dX0_readCandidate_76 ?_
          refine z_iload B dX0_readCandidate_79 1 rfl ?_
          have h_15 : Φ5 (x + 135) = some (o_ 12 [.ref (x + 136), .int (nI n_7), .int v_14, .int v_15]) := ((hF6 (x + 135) (fun j9 h8 h7 => (show False from h7).elim)).trans h_13)
          refine z_callV (As := [.int v_9]) (rest := []) B (s_X10_addField G l Φ5 sz x (ca) 135 v_9 hx hI6 rfl) (cwV 1 B.1.2.2.2.2 gX0_readCandidate_X10_addField rfl rfl rfl (by decide +kernel) ⟨Nat.le_of_ble_eq_true rfl, Nat.le_of_ble_eq_true rfl⟩) h_15 rfl rfl rfl rfl (Nat.le_of_ble_eq_true rfl) dX0_readCandidate_81 ⟨Nat.le_of_ble_eq_true rfl, Nat.le_of_ble_eq_true rfl⟩ (fun r_6 Φ6 sz6 st6 hp6 hs6 => ?_)
          obtain ⟨rfl, hq6, hI7, hF7⟩ := hp6
          subst sz6
          replace hs6 : st6 = [] := hs6
          subst st6
          replace hI7 : In G x (ca) Φ6 := hI7
          refine z_iinc (k := 2) (v := i_1 + 1) (lv' := [(4, .int (i_1 + 1)), (6, .int v_13), (5, .int v_9), (0, .ref (x + 132)), (1, .ref (x + (k))), (2, .int a), (3, .int b)]) B dX0_readCandidate_84 rfl rfl (Nat.le_of_ble_eq_true rfl) rfl ?_
          refine z_goto (tgt := 10) B dX0_readCandidate_87 rfl ?_
          refine z_lv [0, 3, 4, 5, 6] rfl ?_
          exact ih1 (i_1 + 1) Φ6 (up_dec c_1) ⟨hI7, (fun b9 h9 => ((hF7 b9 (fun j9 h8 h7 => h9 j9 h8 (show (135 ≤ j9 ∧ j9 < 137) by have h6 : j9 = 135 ∨ j9 = 135 + 1 := h7; omega))).trans ((hF6 b9 (fun j9 h8 h7 => (show False from h7).elim)).trans ((hF5 b9 (fun j9 h8 h7 => (show False from h7).elim)).trans ((hF4 b9 (fun j9 h8 h7 => (show False from h7).elim)).trans ((hF3 b9 (fun j9 h8 h7 => (show False from h7).elim)).trans ((hF2 b9 (fun j9 h8 h7 => h9 j9 h8 (show (135 ≤ j9 ∧ j9 < 137) by have h6 : (135 ≤ j9 ∧ j9 < 137) := h7; omega))).trans rfl))))))), trivial⟩
        · refine z_iconst (v := 0) B dX0_readCandidate_73 rfl ?_
          exact z_ret_z B dX0_readCandidate_74 (by decide) ⟨⟨_, rfl, by decide⟩, rfl, hI6, (fun b9 h9 => ((hF6 b9 (fun j9 h8 h7 => (show False from h7).elim)).trans ((hF5 b9 (fun j9 h8 h7 => (show False from h7).elim)).trans ((hF4 b9 (fun j9 h8 h7 => (show False from h7).elim)).trans ((hF3 b9 (fun j9 h8 h7 => (show False from h7).elim)).trans ((hF2 b9 (fun j9 h8 h7 => h9 j9 h8 (show (135 ≤ j9 ∧ j9 < 137) by have h6 : (135 ≤ j9 ∧ j9 < 137) := h7; omega))).trans ((hF1 b9 (fun j9 h8 h7 => h9 j9 h8 (show (135 ≤ j9 ∧ j9 < 137) by have h6 : j9 = 135 := h7; omega))).trans rfl)))))))⟩

set_option maxHeartbeats 4000000 in
set_option maxRecDepth 100000 in
theorem s_X0_readTemplates (G : EnvG) (l : Launch) (Φ : Hm) (sz x ca : Nat) (k : Nat) (a : Int32) (b : Int32) (d : Int32) (hx : G.2.2.2 ≤ x) (hI : In G x ca Φ) (hk_k : kd k = 1) : Ct G l yX0_readTemplates wsX0_readTemplates ({ frames := 3, cells := 0, slots := 0, locals := 74 }) 0 0 [.ref (x + 132), .ref (x + (k)), .int a, .int b, .int d] Φ sz (fun v Φ1 sz1 => (v = none) ∧ sz1 = sz ∧ In G x (ca) Φ1 ∧ Fr x (fun j9 => (134 ≤ j9 ∧ j9 < 137) ∨ (141 ≤ j9 ∧ j9 < 149)) Φ Φ1) := by
  refine Ct.of (cc := cX0_readTemplates) (maxL := 9) (ret := none) (by decide) rfl (Nat.le_of_ble_eq_true rfl) ?_
  intro p9 e9 s9 m9 w9 t9 k9 B
  show Z p9 l e9 _ s9 m9 _ w9 t9 k9 _ G 9 0 [(0, .ref (x + 132)), (1, .ref (x + (k))), (2, .int a), (3, .int b), (4, .int d)] [] Φ sz 0 0
  refine z_iload_n B dX0_readTemplates_0 rfl 2 rfl ?_
  refine z_istore (lv' := [(5, .int a), (0, .ref (x + 132)), (1, .ref (x + (k))), (2, .int a), (3, .int b), (4, .int d)]) B dX0_readTemplates_1 (Nat.le_of_ble_eq_true rfl) rfl ?_
  refine z_iconst (v := 0) B dX0_readTemplates_3 rfl ?_
  refine z_istore (lv' := [(6, .int 0), (5, .int a), (0, .ref (x + 132)), (1, .ref (x + (k))), (2, .int a), (3, .int b), (4, .int d)]) B dX0_readTemplates_4 (Nat.le_of_ble_eq_true rfl) rfl ?_
  refine z_lv [0, 1, 2, 3, 4, 5, 6] rfl ?_
  refine z_loop (α := Nat × Int32) (fun (a9 : Nat × Int32) Φi => In G x (ca) Φi ∧ Fr x (fun j9 => (134 ≤ j9 ∧ j9 < 137) ∨ (141 ≤ j9 ∧ j9 < 149)) Φ Φi ∧ (a9.1 ≤ 701) ∧ True) (fun a9 => [(6, .int (nI (a9.1))), (5, .int a9.2), (0, .ref (x + 132)), (1, .ref (x + (k))), (2, .int a), (3, .int b), (4, .int d)]) (fun a9 => 701 - a9.1) ?_ (0, a) ⟨hI, fun _ _ => rfl, (show 0 ≤ 701 by omega), trivial⟩
  rintro ⟨i_1, i_2⟩ Φl1 ⟨hI1, hF1, b_1, -⟩ ih1
  replace hI1 : In G x (ca) Φl1 := hI1
  replace b_1 : i_1 ≤ 701 := b_1
  show Z p9 l e9 _ s9 m9 _ w9 t9 k9 _ G 9 6 [(6, .int (nI i_1)), (5, .int i_2), (0, .ref (x + 132)), (1, .ref (x + (k))), (2, .int a), (3, .int b), (4, .int d)] [] Φl1 _ _ _
  refine z_iload B dX0_readTemplates_6 0 rfl ?_
  refine z_sipush (v := 700) B dX0_readTemplates_8 rfl ?_
  refine z_icmp_gt (tgt := 126) B dX0_readTemplates_11 rfl (fun c_1 => ?_) (fun c_1 => ?_)
  · have e_1 : 700 < i_1 := (nI_ltI (a := 700) (b := i_1) (by omega) (by omega)).mp c_1
    exact z_ret_v B dX0_readTemplates_126 ⟨rfl, rfl, hI1, (fun b9 h9 => ((hF1 b9 (fun j9 h8 h7 => h9 j9 h8 (show (134 ≤ j9 ∧ j9 < 137) ∨ (141 ≤ j9 ∧ j9 < 149) by have h6 : (134 ≤ j9 ∧ j9 < 137) ∨ (141 ≤ j9 ∧ j9 < 149) := h7; omega))).trans rfl))⟩
  · have e_2 : ¬ (700 < i_1) := fun h9 => c_1 ((nI_ltI (a := 700) (b := i_1) (by omega) (by omega)).mpr h9)
    refine z_iload_n B dX0_readTemplates_14 rfl 5 rfl ?_
    refine z_iload B dX0_readTemplates_15 1 rfl ?_
    refine z_isub B dX0_readTemplates_17 ?_
    refine z_fi (fun v_1 => ?_)
    refine z_iconst (v := 4) B dX0_readTemplates_18 rfl ?_
    refine z_icmp_lt (tgt := 126) B dX0_readTemplates_19 rfl (fun c_2 => ?_) (fun c_2 => ?_)
    · exact z_ret_v B dX0_readTemplates_126 ⟨rfl, rfl, hI1, (fun b9 h9 => ((hF1 b9 (fun j9 h8 h7 => h9 j9 h8 (show (134 ≤ j9 ∧ j9 < 137) ∨ (141 ≤ j9 ∧ j9 < 149) by have h6 : (134 ≤ j9 ∧ j9 < 137) ∨ (141 ≤ j9 ∧ j9 < 149) := h7; omega))).trans rfl))⟩
    · obtain ⟨n_1, e_4, e_3, rfl⟩ := nI_ofge (c := 4) (by omega) c_2
      refine z_aload_n B dX0_readTemplates_22 rfl 3 rfl ?_
      refine z_iload B dX0_readTemplates_23 1 rfl ?_
      refine z_iconst (v := 2) B dX0_readTemplates_25 rfl ?_
      obtain ⟨n_2, h_1, b_2⟩ := in1 (k := k) hI1 hk_k
      replace b_2 : n_2 ≤ cap (k) := b_2
      have b_3 := cap_le (k)
      have h_2 : Φl1 (x + (k)) = some (o_ 7 [.ref (x + (k + 1)), .int (nI n_2)]) := h_1
      refine z_callV (As := [.int i_2, .int 2]) (rest := []) B (s_X5_intAt G l Φl1 sz x (ca) k i_2 2 hx hI1 hk_k (show 2 ≤ 8 by omega)) (cwV 2 B.1.2.2.2.2 gX0_readTemplates_X5_intAt rfl rfl rfl (by decide +kernel) ⟨Nat.le_of_ble_eq_true rfl, Nat.le_of_ble_eq_true rfl⟩) h_2 rfl rfl rfl rfl (Nat.le_of_ble_eq_true rfl) dX0_readTemplates_26 ⟨Nat.le_of_ble_eq_true rfl, Nat.le_of_ble_eq_true rfl⟩ (fun r_1 Φ1 sz1 st1 hp1 hs1 => ?_)
      obtain ⟨⟨v_2, rfl⟩, hq1, hI2, hF2⟩ := hp1
      subst sz1
      replace hs1 : st1 = [.int v_2] := hs1
      subst st1
      replace hI2 : In G x (ca) Φ1 := hI2
      refine z_sipush (v := 256) B dX0_readTemplates_29 rfl ?_
      refine z_isub B dX0_readTemplates_32 ?_
      refine z_fi (fun v_3 => ?_)
      refine z_istore (lv' := [(7, .int v_3), (6, .int (nI i_1)), (5, .int i_2), (0, .ref (x + 132)), (1, .ref (x + (k))), (2, .int a), (3, .int b), (4, .int d)]) B dX0_readTemplates_33 (Nat.le_of_ble_eq_true rfl) rfl ?_
      refine z_aload_n B dX0_readTemplates_35 rfl 4 rfl ?_
      refine z_iload B dX0_readTemplates_36 2 rfl ?_
      refine z_iconst (v := 2) B dX0_readTemplates_38 rfl ?_
      refine z_iadd B dX0_readTemplates_39 ?_
      refine z_fi (fun v_4 => ?_)
      refine z_iconst (v := 2) B dX0_readTemplates_40 rfl ?_
      have h_3 : Φ1 (x + (k)) = some (o_ 7 [.ref (x + (k + 1)), .int (nI n_2)]) := ((hF2 (x + (k)) (fun j9 h8 h7 => (show False from h7).elim)).trans h_2)
      refine z_callV (As := [.int v_4, .int 2]) (rest := []) B (s_X5_intAt G l Φ1 sz x (ca) k v_4 2 hx hI2 hk_k (show 2 ≤ 8 by omega)) (cwV 2 B.1.2.2.2.2 gX0_readTemplates_X5_intAt rfl rfl rfl (by decide +kernel) ⟨Nat.le_of_ble_eq_true rfl, Nat.le_of_ble_eq_true rfl⟩) h_3 rfl rfl rfl rfl (Nat.le_of_ble_eq_true rfl) dX0_readTemplates_41 ⟨Nat.le_of_ble_eq_true rfl, Nat.le_of_ble_eq_true rfl⟩ (fun r_2 Φ2 sz2 st2 hp2 hs2 => ?_)
      obtain ⟨⟨v_5, rfl⟩, hq2, hI3, hF3⟩ := hp2
      subst sz2
      replace hs2 : st2 = [.int v_5] := hs2
      subst st2
      replace hI3 : In G x (ca) Φ2 := hI3
      refine z_istore (lv' := [(8, .int v_5), (7, .int v_3), (6, .int (nI i_1)), (5, .int i_2), (0, .ref (x + 132)), (1, .ref (x + (k))), (2, .int a), (3, .int b), (4, .int d)]) B dX0_readTemplates_44 (Nat.le_of_ble_eq_true rfl) rfl ?_
      refine z_iinc (k := 3) (v := i_2 + 4) (lv' := [(5, .int (i_2 + 4)), (8, .int v_5), (7, .int v_3), (6, .int (nI i_1)), (0, .ref (x + 132)), (1, .ref (x + (k))), (2, .int a), (3, .int b), (4, .int d)]) B dX0_readTemplates_46 rfl rfl (Nat.le_of_ble_eq_true rfl) rfl ?_
      refine z_iload B dX0_readTemplates_49 2 rfl ?_
      refine z_if_lt (tgt := 71) B dX0_readTemplates_51 rfl (fun c_3 => ?_) (fun c_3 => ?_)
      · exact z_ret_v B dX0_readTemplates_71 ⟨rfl, rfl, hI3, (fun b9 h9 => ((hF3 b9 (fun j9 h8 h7 => (show False from h7).elim)).trans ((hF2 b9 (fun j9 h8 h7 => (show False from h7).elim)).trans ((hF1 b9 (fun j9 h8 h7 => h9 j9 h8 (show (134 ≤ j9 ∧ j9 < 137) ∨ (141 ≤ j9 ∧ j9 < 149) by have h6 : (134 ≤ j9 ∧ j9 < 137) ∨ (141 ≤ j9 ∧ j9 < 149) := h7; omega))).trans rfl))))⟩
      · obtain ⟨n_3, e_5, rfl⟩ := nI_of c_3
        refine z_iload B dX0_readTemplates_54 2 rfl ?_
        refine z_iconst (v := 4) B dX0_readTemplates_56 rfl ?_
        refine z_icmp_ge (tgt := 71) B dX0_readTemplates_57 rfl (fun c_4 => ?_) (fun c_4 => ?_)
        · have e_6 : 4 ≤ n_3 := (nI_leI (a := 4) (b := n_3) (by omega) (by omega)).mp c_4
          exact z_ret_v B dX0_readTemplates_71 ⟨rfl, rfl, hI3, (fun b9 h9 => ((hF3 b9 (fun j9 h8 h7 => (show False from h7).elim)).trans ((hF2 b9 (fun j9 h8 h7 => (show False from h7).elim)).trans ((hF1 b9 (fun j9 h8 h7 => h9 j9 h8 (show (134 ≤ j9 ∧ j9 < 137) ∨ (141 ≤ j9 ∧ j9 < 149) by have h6 : (134 ≤ j9 ∧ j9 < 137) ∨ (141 ≤ j9 ∧ j9 < 149) := h7; omega))).trans rfl))))⟩
        · have e_7 : ¬ (4 ≤ n_3) := fun h9 => c_4 ((nI_leI (a := 4) (b := n_3) (by omega) (by omega)).mpr h9)
          refine z_iconst (v := 4) B dX0_readTemplates_60 rfl ?_
          refine z_iload B dX0_readTemplates_61 1 rfl ?_
          refine z_imul B dX0_readTemplates_63 ?_
          refine z_fi (fun v_6 => ?_)
          refine z_iload_n B dX0_readTemplates_64 rfl 7 rfl ?_
          refine z_iload B dX0_readTemplates_65 0 rfl ?_
          refine z_isub B dX0_readTemplates_67 ?_
          refine z_fi (fun v_7 => ?_)
          refine z_icmp_le (tgt := 72) B dX0_readTemplates_68 rfl (fun c_5 => ?_) (fun c_5 => ?_)
          · refine z_aload_n B dX0_readTemplates_72 rfl 4 rfl ?_
            refine z_aload_n B dX0_readTemplates_73 rfl 5 rfl ?_
            refine z_iload B dX0_readTemplates_74 0 rfl ?_
            refine z_iload B dX0_readTemplates_76 1 rfl ?_
            obtain ⟨n_4, v_8, v_9, h_4, b_4⟩ := in25 (k := 132) hI3 rfl
            have h_5 : Φ2 (x + 132) = some (o_ 2 [.ref (x + 3), .ref (x + 121), .ref (x + 133), .ref (x + 134), .ref (x + 135), .ref (x + 137), .ref (x + 138), .ref (x + 139), .ref (x + 140), .int (nI n_4), .int v_8, .int v_9]) := h_4
            refine z_callV (As := [.ref (x + (k)), .int (i_2 + 4), .int v_5]) (rest := []) B (s_X0_readCandidate G l Φ2 sz x (ca) k (i_2 + 4) v_5 hx hI3 hk_k) (cwV 3 B.1.2.2.2.2 gX0_readTemplates_X0_readCandidate rfl rfl rfl (by decide +kernel) ⟨Nat.le_of_ble_eq_true rfl, Nat.le_of_ble_eq_true rfl⟩) h_5 rfl rfl rfl rfl (Nat.le_of_ble_eq_true rfl) dX0_readTemplates_78 ⟨Nat.le_of_ble_eq_true rfl, Nat.le_of_ble_eq_true rfl⟩ (fun r_3 Φ3 sz3 st3 hp3 hs3 => ?_)
            obtain ⟨⟨v_10, rfl, b_5⟩, hq3, hI4, hF4⟩ := hp3
            subst sz3
            replace hs3 : st3 = [.int v_10] := hs3
            subst st3
            replace hI4 : In G x (ca) Φ3 := hI4
            refine z_if_ne (tgt := 85) B dX0_readTemplates_81 rfl (fun c_6 => ?_) (fun c_6 => ?_)
            · refine z_aload_n B dX0_readTemplates_85 rfl 4 rfl ?_
              have h_6 : Φ3 (x + 132) = some (o_ 2 [.ref (x + 3), .ref (x + 121), .ref (x + 133), .ref (x + 134), .ref (x + 135), .ref (x + 137), .ref (x + 138), .ref (x + 139), .ref (x + 140), .int (nI n_4), .int v_8, .int v_9]) := ((hF4 (x + 132) (fun j9 h8 h7 => by have h6 : (135 ≤ j9 ∧ j9 < 137) := h7; omega)).trans h_5)
              refine z_get (ref := "FlowExporter$Collector") (C := RX0) (T := TX0) (N := 12) (ci := 2) (v := .ref (x + 133)) B (by decide +kernel) rfl 2 (by decide) (by decide +kernel) rfl h_6 rfl dX0_readTemplates_86 ?_
              refine z_iload B dX0_readTemplates_89 2 rfl ?_
              obtain ⟨f_1, h_7, r_4⟩ := in26 (k := 133) hI4 rfl
              have h_8 : Φ3 (x + 133) = some (aq_ G 4 4 f_1) := h_7
              refine z_aald (b := x + (133 + 8 + 2 * n_3)) B rfl h_8 (vp_in_nI (by omega) (by omega)) ((congrArg f_1 (nI_clamp (by omega))).trans (r_4 n_3 (by omega))) dX0_readTemplates_91 ?_
              refine z_aload_n B dX0_readTemplates_92 rfl 4 rfl ?_
              refine z_get (ref := "FlowExporter$Collector") (C := RX0) (T := TX0) (N := 12) (ci := 2) (v := .ref (x + 135)) B (by decide +kernel) rfl 4 (by decide) (by decide +kernel) rfl h_6 rfl dX0_readTemplates_93 ?_
              refine z_sipush (v := 511) B dX0_readTemplates_96 rfl ?_
              obtain ⟨n_5, v_11, v_12, h_9, b_6⟩ := in8 (k := 133 + 8 + 2 * n_3) hI4 (kd_k (by omega))
              have h_10 : Φ3 (x + (133 + 8 + 2 * n_3)) = some (o_ 12 [.ref (x + (133 + 8 + 2 * n_3 + 1)), .int (nI n_5), .int v_11, .int v_12]) := h_9
              refine z_callV (As := [.ref (x + 135), .int 511]) (rest := []) B (s_X10_copyFrom G l Φ3 sz x (ca) (133 + 8 + 2 * n_3) 135 511 hx hI4 (kd_k (by omega)) rfl (show (133 + 8 + 2 * n_3) ≠ 135 by omega) (show (133 + 8 + 2 * n_3) + 1 ≠ 135 by omega)) (cwV 2 B.1.2.2.2.2 gX0_readTemplates_X10_copyFrom rfl rfl rfl (by decide +kernel) ⟨Nat.le_of_ble_eq_true rfl, Nat.le_of_ble_eq_true rfl⟩) h_10 rfl rfl rfl rfl (Nat.le_of_ble_eq_true rfl) dX0_readTemplates_99 ⟨Nat.le_of_ble_eq_true rfl, Nat.le_of_ble_eq_true rfl⟩ (fun r_5 Φ4 sz4 st4 hp4 hs4 => ?_)
              obtain ⟨rfl, hq4, hI5, hF5⟩ := hp4
              subst sz4
              replace hs4 : st4 = [] := hs4
              subst st4
              replace hI5 : In G x (ca) Φ4 := hI5
              refine z_aload_n B dX0_readTemplates_102 rfl 4 rfl ?_
              have h_11 : Φ4 (x + 132) = some (o_ 2 [.ref (x + 3), .ref (x + 121), .ref (x + 133), .ref (x + 134), .ref (x + 135), .ref (x + 137), .ref (x + 138), .ref (x + 139), .ref (x + 140), .int (nI n_4), .int v_8, .int v_9]) := ((hF5 (x + 132) (fun j9 h8 h7 => by have h6 : j9 = (133 + 8 + 2 * n_3) ∨ j9 = (133 + 8 + 2 * n_3) + 1 := h7; omega)).trans h_6)
              refine z_get (ref := "FlowExporter$Collector") (C := RX0) (T := TX0) (N := 12) (ci := 2) (v := .ref (x + 134)) B (by decide +kernel) rfl 3 (by decide) (by decide +kernel) rfl h_11 rfl dX0_readTemplates_103 ?_
              refine z_iload B dX0_readTemplates_106 2 rfl ?_
              refine z_iload B dX0_readTemplates_108 8 rfl ?_
              obtain ⟨f_2, h_12⟩ := in15 (k := 134) hI5 rfl
              have h_13 : Φ4 (x + 134) = some (ai_ G 4 f_2) := h_12
              refine z_iast B h_13 (Nat.le_trans hx (Nat.le_add_right x 134)) (vp_in_nI (by omega) (by omega)) dX0_readTemplates_110 (fun Φ5 hΦ1 => ?_)
              have h_14 : Φ5 (x + 134) = some (ai_ G 4 (upd f_2 (nI n_3).toNatClampNeg d)) := fset_at hΦ1
              have hI6 : In G x (ca) Φ5 := In.put (k := 134) hI5 hΦ1 (ok15 (k := 134) rfl ⟨_, rfl⟩)
              refine z_iload B dX0_readTemplates_111 0 rfl ?_
              refine z_iconst (v := 4) B dX0_readTemplates_113 rfl ?_
              refine z_iload B dX0_readTemplates_114 1 rfl ?_
              refine z_imul B dX0_readTemplates_116 ?_
              refine z_fi (fun v_13 => ?_)
              refine z_iadd B dX0_readTemplates_117 ?_
              refine z_fi (fun v_14 => ?_)
              refine z_istore (lv' := [(5, .int v_14), (8, .int v_5), (7, .int (nI n_3)), (6, .int (nI i_1)), (0, .ref (x + 132)), (1, .ref (x + (k))), (2, .int a), (3, .int b), (4, .int d)]) B dX0_readTemplates_118 (Nat.le_of_ble_eq_true rfl) rfl ?_
              refine z_iinc (k := 3) (v := nI (i_1 + 1)) (lv' := [(6, .int (nI (i_1 + 1))), (5, .int v_14), (8, .int v_5), (7, .int (nI n_3)), (0, .ref (x + 132)), (1, .ref (x + (k))), (2, .int a), (3, .int b), (4, .int d)]) B dX0_readTemplates_120 rfl (nI_add i_1 1) (Nat.le_of_ble_eq_true rfl) rfl ?_
              refine z_goto (tgt := 6) B dX0_readTemplates_123 rfl ?_
              refine z_lv [0, 1, 4, 5, 6, 7, 8] rfl ?_
              exact ih1 (i_1 + 1, v_14) Φ5 (show 701 - (i_1 + 1) < 701 - i_1 by omega) ⟨hI6, (fun b9 h9 => ((fset_fr hΦ1 (fun h8 => h9 (134) h8 (show (134 ≤ 134 ∧ 134 < 137) ∨ (141 ≤ 134 ∧ 134 < 149) by omega))).trans ((hF5 b9 (fun j9 h8 h7 => h9 j9 h8 (show (134 ≤ j9 ∧ j9 < 137) ∨ (141 ≤ j9 ∧ j9 < 149) by have h6 : j9 = (133 + 8 + 2 * n_3) ∨ j9 = (133 + 8 + 2 * n_3) + 1 := h7; omega))).trans ((hF4 b9 (fun j9 h8 h7 => h9 j9 h8 (show (134 ≤ j9 ∧ j9 < 137) ∨ (141 ≤ j9 ∧ j9 < 149) by have h6 : (135 ≤ j9 ∧ j9 < 137) := h7; omega))).trans ((hF3 b9 (fun j9 h8 h7 => (show False from h7).elim)).trans ((hF2 b9 (fun j9 h8 h7 => (show False from h7).elim)).trans ((hF1 b9 (fun j9 h8 h7 => h9 j9 h8 (show (134 ≤ j9 ∧ j9 < 137) ∨ (141 ≤ j9 ∧ j9 < 149) by have h6 : (134 ≤ j9 ∧ j9 < 137) ∨ (141 ≤ j9 ∧ j9 < 149) := h7; omega))).trans rfl))))))), (show (i_1 + 1) ≤ 701 by omega), trivial⟩
            · exact z_ret_v B dX0_readTemplates_84 ⟨rfl, rfl, hI4, (fun b9 h9 => ((hF4 b9 (fun j9 h8 h7 => h9 j9 h8 (show (134 ≤ j9 ∧ j9 < 137) ∨ (141 ≤ j9 ∧ j9 < 149) by have h6 : (135 ≤ j9 ∧ j9 < 137) := h7; omega))).trans ((hF3 b9 (fun j9 h8 h7 => (show False from h7).elim)).trans ((hF2 b9 (fun j9 h8 h7 => (show False from h7).elim)).trans ((hF1 b9 (fun j9 h8 h7 => h9 j9 h8 (show (134 ≤ j9 ∧ j9 < 137) ∨ (141 ≤ j9 ∧ j9 < 149) by have h6 : (134 ≤ j9 ∧ j9 < 137) ∨ (141 ≤ j9 ∧ j9 < 149) := h7; omega))).trans rfl)))))⟩
          · exact z_ret_v B dX0_readTemplates_71 ⟨rfl, rfl, hI3, (fun b9 h9 => ((hF3 b9 (fun j9 h8 h7 => (show False from h7).elim)).trans ((hF2 b9 (fun j9 h8 h7 => (show False from h7).elim)).trans ((hF1 b9 (fun j9 h8 h7 => h9 j9 h8 (show (134 ≤ j9 ∧ j9 < 137) ∨ (141 ≤ j9 ∧ j9 < 149) by have h6 : (134 ≤ j9 ∧ j9 < 137) ∨ (141 ≤ j9 ∧ j9 < 149) := h7; omega))).trans rfl))))⟩

set_option maxHeartbeats 4000000 in
set_option maxRecDepth 100000 in
theorem s_X0_decode (G : EnvG) (l : Launch) (Φ : Hm) (sz x ca : Nat) (k : Nat) (a : Int32) (q : Nat) (hx : G.2.2.2 ≤ x) (hI : In G x ca Φ) (hk_k : kd k = 1) (hk_q : kd q = 8) (hq : 141 ≤ q) : Ct G l yX0_decode wsX0_decode ({ frames := 2, cells := 0, slots := 0, locals := 47 }) 0 0 [.ref (x + 132), .ref (x + (k)), .int a, .ref (x + (q))] Φ sz (fun v Φ1 sz1 => (v = none) ∧ sz1 = sz ∧ In G x (ca) Φ1 ∧ Fr x (fun j9 => (121 ≤ j9 ∧ j9 < 133) ∨ (139 ≤ j9 ∧ j9 < 141)) Φ Φ1) := by
  refine Ct.of (cc := cX0_decode) (maxL := 9) (ret := none) (by decide) rfl (Nat.le_of_ble_eq_true rfl) ?_
  intro p9 e9 s9 m9 w9 t9 k9 B
  show Z p9 l e9 _ s9 m9 _ w9 t9 k9 _ G 9 0 [(0, .ref (x + 132)), (1, .ref (x + (k))), (2, .int a), (3, .ref (x + (q)))] [] Φ sz 0 0
  refine z_aload_n B dX0_decode_0 rfl 0 rfl ?_
  obtain ⟨n_1, v_1, v_2, h_1, b_1⟩ := in25 (k := 132) hI rfl
  have h_2 : Φ (x + 132) = some (o_ 2 [.ref (x + 3), .ref (x + 121), .ref (x + 133), .ref (x + 134), .ref (x + 135), .ref (x + 137), .ref (x + 138), .ref (x + 139), .ref (x + 140), .int (nI n_1), .int v_1, .int v_2]) := h_1
  refine z_get (ref := "FlowExporter$Collector") (C := RX0) (T := TX0) (N := 12) (ci := 2) (v := .ref (x + 140)) B (by decide +kernel) rfl 8 (by decide) (by decide +kernel) rfl h_2 rfl dX0_decode_1 ?_
  refine z_lconst (v := 0) B dX0_decode_4 rfl ?_
  obtain ⟨f_1, h_3, r_1⟩ := in29 (k := 140) hI rfl
  have h_4 : Φ (x + 140) = some (al_ G 9 f_1) := h_3
  refine z_callS (As := [.ref (x + 140), .long 0]) (rest := []) B (c_J7_fill_d0a16 G l Φ sz (x + 140) 9 f_1 0 h_4 (Nat.le_trans hx (Nat.le_add_right x 140)) (by decide)) (va_cwS 2 B.1.2.2.2.2 gX0_decode_J7_fill_d0a16 rfl rfl rfl (by decide +kernel) ⟨Nat.le_of_ble_eq_true rfl, Nat.le_of_ble_eq_true rfl⟩) rfl rfl (Nat.le_of_ble_eq_true rfl) dX0_decode_5 ⟨Nat.le_of_ble_eq_true rfl, Nat.le_of_ble_eq_true rfl⟩ (fun r_2 Φ1 sz1 st1 hp1 hs1 => ?_)
  obtain ⟨rfl, hq1, fr1, h_5⟩ := hp1
  subst sz1
  replace hs1 : st1 = [] := hs1
  subst st1
  have hΦ1 : Φ1 = fset Φ (x + 140) (al_ G 9 (fun _ => 0)) := fset_of fr1 h_5
  have h_6 : Φ1 (x + 140) = some (al_ G 9 (fun _ => 0)) := fset_at hΦ1
  have hI1 : In G x (ca) Φ1 := In.put (k := 140) hI hΦ1 (ok29 (k := 140) rfl ⟨_, rfl, by decide⟩)
  refine z_iload_n B dX0_decode_8 rfl 2 rfl ?_
  refine z_istore (lv' := [(4, .int a), (0, .ref (x + 132)), (1, .ref (x + (k))), (2, .int a), (3, .ref (x + (q)))]) B dX0_decode_9 (Nat.le_of_ble_eq_true rfl) rfl ?_
  refine z_iconst (v := 0) B dX0_decode_11 rfl ?_
  refine z_istore (lv' := [(5, .int 0), (4, .int a), (0, .ref (x + 132)), (1, .ref (x + (k))), (2, .int a), (3, .ref (x + (q)))]) B dX0_decode_12 (Nat.le_of_ble_eq_true rfl) rfl ?_
  refine z_lv [0, 1, 2, 3, 4, 5] rfl ?_
  refine z_loop (α := Nat × Int32) (fun (a9 : Nat × Int32) Φi => In G x (ca) Φi ∧ Fr x (fun j9 => j9 = 140) Φ1 Φi ∧ (a9.1 ≤ 9) ∧ True) (fun a9 => [(5, .int (nI (a9.1))), (4, .int a9.2), (0, .ref (x + 132)), (1, .ref (x + (k))), (2, .int a), (3, .ref (x + (q)))]) (fun a9 => 9 - a9.1) ?_ (0, a) ⟨hI1, fun _ _ => rfl, (show 0 ≤ 9 by omega), trivial⟩
  rintro ⟨i_1, i_2⟩ Φl1 ⟨hI2, hF1, b_2, -⟩ ih1
  replace hI2 : In G x (ca) Φl1 := hI2
  replace b_2 : i_1 ≤ 9 := b_2
  show Z p9 l e9 _ s9 m9 _ w9 t9 k9 _ G 9 14 [(5, .int (nI i_1)), (4, .int i_2), (0, .ref (x + 132)), (1, .ref (x + (k))), (2, .int a), (3, .ref (x + (q)))] [] Φl1 _ _ _
  refine z_iload B dX0_decode_14 0 rfl ?_
  refine z_aload_n B dX0_decode_16 rfl 5 rfl ?_
  obtain ⟨n_2, v_3, v_4, h_7, b_3⟩ := in8 (k := q) hI2 hk_q
  have h_8 : Φl1 (x + (q)) = some (o_ 12 [.ref (x + (q + 1)), .int (nI n_2), .int v_3, .int v_4]) := h_7
  refine z_get (ref := "FlowExporter$Template") (C := RX10) (T := TX10) (N := 4) (ci := 12) (v := .int (nI n_2)) B (by decide +kernel) rfl 1 (by decide) (by decide +kernel) rfl h_8 rfl dX0_decode_17 ?_
  refine z_icmp_ge (tgt := 79) B dX0_decode_20 rfl (fun c_1 => ?_) (fun c_1 => ?_)
  · have e_1 : n_2 ≤ i_1 := (nI_leI (a := n_2) (b := i_1) (by omega) (by omega)).mp c_1
    refine z_aload_n B dX0_decode_79 rfl 2 rfl ?_
    have h_9 : Φl1 (x + 132) = some (o_ 2 [.ref (x + 3), .ref (x + 121), .ref (x + 133), .ref (x + 134), .ref (x + 135), .ref (x + 137), .ref (x + 138), .ref (x + 139), .ref (x + 140), .int (nI n_1), .int v_1, .int v_2]) := ((hF1 (x + 132) (fun j9 h8 h7 => by have h6 : j9 = 140 := h7; omega)).trans ((fset_fr hΦ1 (ne_off (x := x) (i := 132) (j := 140) rfl)).trans h_2))
    refine z_get (ref := "FlowExporter$Collector") (C := RX0) (T := TX0) (N := 12) (ci := 2) (v := .ref (x + 140)) B (by decide +kernel) rfl 8 (by decide) (by decide +kernel) rfl h_9 rfl dX0_decode_80 ?_
    refine z_iconst (v := 0) B dX0_decode_83 rfl ?_
    obtain ⟨f_2, h_10, r_3⟩ := in29 (k := 140) hI2 rfl
    have h_11 : Φl1 (x + 140) = some (al_ G 9 f_2) := h_10
    refine z_lald B h_11 (vin rfl) dX0_decode_84 ?_
    refine z_fl (fun v_5 => ?_)
    refine z_l2i (v := v_5.toInt32) B dX0_decode_85 rfl ?_
    refine z_fi (fun v_6 => ?_)
    refine z_aload_n B dX0_decode_86 rfl 2 rfl ?_
    refine z_get (ref := "FlowExporter$Collector") (C := RX0) (T := TX0) (N := 12) (ci := 2) (v := .ref (x + 140)) B (by decide +kernel) rfl 8 (by decide) (by decide +kernel) rfl h_9 rfl dX0_decode_87 ?_
    refine z_iconst (v := 1) B dX0_decode_90 rfl ?_
    refine z_lald B h_11 (vin rfl) dX0_decode_91 ?_
    refine z_fl (fun v_7 => ?_)
    refine z_l2i (v := v_7.toInt32) B dX0_decode_92 rfl ?_
    refine z_fi (fun v_8 => ?_)
    refine z_aload_n B dX0_decode_93 rfl 2 rfl ?_
    refine z_get (ref := "FlowExporter$Collector") (C := RX0) (T := TX0) (N := 12) (ci := 2) (v := .ref (x + 140)) B (by decide +kernel) rfl 8 (by decide) (by decide +kernel) rfl h_9 rfl dX0_decode_94 ?_
    refine z_iconst (v := 2) B dX0_decode_97 rfl ?_
    refine z_lald B h_11 (vin rfl) dX0_decode_98 ?_
    refine z_fl (fun v_9 => ?_)
    refine z_l2i (v := v_9.toInt32) B dX0_decode_99 rfl ?_
    refine z_fi (fun v_10 => ?_)
    refine z_aload_n B dX0_decode_100 rfl 2 rfl ?_
    refine z_get (ref := "FlowExporter$Collector") (C := RX0) (T := TX0) (N := 12) (ci := 2) (v := .ref (x + 140)) B (by decide +kernel) rfl 8 (by decide) (by decide +kernel) rfl h_9 rfl dX0_decode_101 ?_
    refine z_iconst (v := 3) B dX0_decode_104 rfl ?_
    refine z_lald B h_11 (vin rfl) dX0_decode_105 ?_
    refine z_fl (fun v_11 => ?_)
    refine z_l2i (v := v_11.toInt32) B dX0_decode_106 rfl ?_
    refine z_fi (fun v_12 => ?_)
    refine z_callS (As := [.int v_6, .int v_8, .int v_10, .int v_12]) (rest := []) B (s_X3_keyOf G l Φl1 sz x (ca) v_6 v_8 v_10 v_12 hx hI2 ) (va_cwS 4 B.1.2.2.2.2 gX0_decode_X3_keyOf rfl rfl rfl (by decide +kernel) ⟨Nat.le_of_ble_eq_true rfl, Nat.le_of_ble_eq_true rfl⟩) rfl rfl (Nat.le_of_ble_eq_true rfl) dX0_decode_107 ⟨Nat.le_of_ble_eq_true rfl, Nat.le_of_ble_eq_true rfl⟩ (fun r_4 Φ2 sz2 st2 hp2 hs2 => ?_)
    obtain ⟨⟨v_13, rfl⟩, hq2, hI3, hF2⟩ := hp2
    subst sz2
    replace hs2 : st2 = [.long v_13] := hs2
    subst st2
    replace hI3 : In G x (ca) Φ2 := hI3
    refine z_lstore (lv' := [(5, .long v_13), (4, .int i_2), (0, .ref (x + 132)), (1, .ref (x + (k))), (2, .int a), (3, .ref (x + (q)))]) B dX0_decode_110 (Nat.le_of_ble_eq_true rfl) rfl ?_
    refine z_aload_n B dX0_decode_112 rfl 2 rfl ?_
    have h_12 : Φ2 (x + 132) = some (o_ 2 [.ref (x + 3), .ref (x + 121), .ref (x + 133), .ref (x + 134), .ref (x + 135), .ref (x + 137), .ref (x + 138), .ref (x + 139), .ref (x + 140), .int (nI n_1), .int v_1, .int v_2]) := ((hF2 (x + 132) (fun j9 h8 h7 => (show False from h7).elim)).trans h_9)
    refine z_get (ref := "FlowExporter$Collector") (C := RX0) (T := TX0) (N := 12) (ci := 2) (v := .ref (x + 121)) B (by decide +kernel) rfl 1 (by decide) (by decide +kernel) rfl h_12 rfl dX0_decode_113 ?_
    refine z_lload B dX0_decode_116 0 rfl ?_
    obtain ⟨n_3, h_13, b_4⟩ := in20 (k := 121) hI3 rfl
    have h_14 : Φ2 (x + 121) = some (o_ 11 [.ref (x + 122), .ref (x + 123), .ref (x + 126), .ref (x + 129), .int (nI n_3)]) := h_13
    refine z_callV (As := [.long v_13]) (rest := []) B (s_X9_indexOrNew G l Φ2 sz x (ca) v_13 hx hI3 ) (cwV 1 B.1.2.2.2.2 gX0_decode_X9_indexOrNew rfl rfl rfl (by decide +kernel) ⟨Nat.le_of_ble_eq_true rfl, Nat.le_of_ble_eq_true rfl⟩) h_14 rfl rfl rfl rfl (Nat.le_of_ble_eq_true rfl) dX0_decode_118 ⟨Nat.le_of_ble_eq_true rfl, Nat.le_of_ble_eq_true rfl⟩ (fun r_5 Φ3 sz3 st3 hp3 hs3 => ?_)
    obtain ⟨⟨v_14, rfl⟩, hq3, hI4, hF3⟩ := hp3
    subst sz3
    replace hs3 : st3 = [.int v_14] := hs3
    subst st3
    replace hI4 : In G x (ca) Φ3 := hI4
    refine z_istore (lv' := [(7, .int v_14), (5, .long v_13), (4, .int i_2), (0, .ref (x + 132)), (1, .ref (x + (k))), (2, .int a), (3, .ref (x + (q)))]) B dX0_decode_121 (Nat.le_of_ble_eq_true rfl) rfl ?_
    refine z_iload B dX0_decode_123 0 rfl ?_
    refine z_iconst (v := (-1)) B dX0_decode_125 rfl ?_
    refine z_icmp_ne (tgt := 141) B dX0_decode_126 rfl (fun c_2 => ?_) (fun c_2 => ?_)
    · refine z_aload_n B dX0_decode_141 rfl 3 rfl ?_
      have h_15 : Φ3 (x + 132) = some (o_ 2 [.ref (x + 3), .ref (x + 121), .ref (x + 133), .ref (x + 134), .ref (x + 135), .ref (x + 137), .ref (x + 138), .ref (x + 139), .ref (x + 140), .int (nI n_1), .int v_1, .int v_2]) := ((hF3 (x + 132) (fun j9 h8 h7 => by have h6 : 121 ≤ j9 ∧ j9 < 132 := h7; omega)).trans h_12)
      refine z_get (ref := "FlowExporter$Collector") (C := RX0) (T := TX0) (N := 12) (ci := 2) (v := .ref (x + 140)) B (by decide +kernel) rfl 8 (by decide) (by decide +kernel) rfl h_15 rfl dX0_decode_142 ?_
      refine z_bipush (v := 8) B dX0_decode_145 rfl ?_
      have h_16 : Φ3 (x + 140) = some (al_ G 9 f_2) := ((hF3 (x + 140) (fun j9 h8 h7 => by have h6 : 121 ≤ j9 ∧ j9 < 132 := h7; omega)).trans ((hF2 (x + 140) (fun j9 h8 h7 => (show False from h7).elim)).trans h_11))
      refine z_lald B h_16 (vin rfl) dX0_decode_147 ?_
      refine z_fl (fun v_15 => ?_)
      refine z_l2i (v := v_15.toInt32) B dX0_decode_148 rfl ?_
      refine z_fi (fun v_16 => ?_)
      refine z_aload_n B dX0_decode_149 rfl 3 rfl ?_
      refine z_get (ref := "FlowExporter$Collector") (C := RX0) (T := TX0) (N := 12) (ci := 2) (v := .ref (x + 3)) B (by decide +kernel) rfl 0 (by decide) (by decide +kernel) rfl h_15 rfl dX0_decode_150 ?_
      refine z_bipush (v := 8) B dX0_decode_153 rfl ?_
      obtain ⟨v_17, v_18, h_17⟩ := in3 (k := 3) hI4 rfl
      have h_18 : Φ3 (x + 3) = some (o_ 3 [.ref (x + 4), .ref (x + 5), .ref (x + 6), .ref (x + 7), .int v_17, .int v_18]) := h_17
      refine z_callV (As := [.int 8]) (rest := [.int v_16]) B (s_X1_get G l Φ3 sz x (ca) 3 8 hx hI4 rfl) (cwV 1 B.1.2.2.2.2 gX0_decode_X1_get rfl rfl rfl (by decide +kernel) ⟨Nat.le_of_ble_eq_true rfl, Nat.le_of_ble_eq_true rfl⟩) h_18 rfl rfl rfl rfl (Nat.le_of_ble_eq_true rfl) dX0_decode_155 ⟨Nat.le_of_ble_eq_true rfl, Nat.le_of_ble_eq_true rfl⟩ (fun r_6 Φ4 sz4 st4 hp4 hs4 => ?_)
      obtain ⟨⟨n_4, rfl, b_5⟩, hq4, hI5, hF4⟩ := hp4
      subst sz4
      replace hs4 : st4 = [.int (nI n_4), .int v_16] := hs4
      subst st4
      replace hI5 : In G x (ca) Φ4 := hI5
      replace b_5 : n_4 < 2 ^ 31 := b_5
      refine z_callS (As := [.int v_16, .int (nI n_4)]) (rest := []) B (s_X0_rateOfBits G l Φ4 sz x (ca) v_16 n_4 hx hI5 (show n_4 < 2 ^ 31 by omega)) (va_cwS 2 B.1.2.2.2.2 gX0_decode_X0_rateOfBits rfl rfl rfl (by decide +kernel) ⟨Nat.le_of_ble_eq_true rfl, Nat.le_of_ble_eq_true rfl⟩) rfl rfl (Nat.le_of_ble_eq_true rfl) dX0_decode_158 ⟨Nat.le_of_ble_eq_true rfl, Nat.le_of_ble_eq_true rfl⟩ (fun r_7 Φ5 sz5 st5 hp5 hs5 => ?_)
      obtain ⟨⟨n_5, rfl, b_6⟩, hq5, hI6, hF5⟩ := hp5
      subst sz5
      replace hs5 : st5 = [.int (nI n_5)] := hs5
      subst st5
      replace hI6 : In G x (ca) Φ5 := hI6
      replace b_6 : n_5 < 2 ^ 31 := b_6
      refine z_istore (lv' := [(8, .int (nI n_5)), (7, .int v_14), (5, .long v_13), (4, .int i_2), (0, .ref (x + 132)), (1, .ref (x + (k))), (2, .int a), (3, .ref (x + (q)))]) B dX0_decode_161 (Nat.le_of_ble_eq_true rfl) rfl ?_
      refine z_aload_n B dX0_decode_163 rfl 4 rfl ?_
      have h_19 : Φ5 (x + 132) = some (o_ 2 [.ref (x + 3), .ref (x + 121), .ref (x + 133), .ref (x + 134), .ref (x + 135), .ref (x + 137), .ref (x + 138), .ref (x + 139), .ref (x + 140), .int (nI n_1), .int v_1, .int v_2]) := ((hF5 (x + 132) (fun j9 h8 h7 => (show False from h7).elim)).trans ((hF4 (x + 132) (fun j9 h8 h7 => (show False from h7).elim)).trans h_15))
      refine z_get (ref := "FlowExporter$Collector") (C := RX0) (T := TX0) (N := 12) (ci := 2) (v := .ref (x + 121)) B (by decide +kernel) rfl 1 (by decide) (by decide +kernel) rfl h_19 rfl dX0_decode_164 ?_
      refine z_iload B dX0_decode_167 1 rfl ?_
      refine z_aload_n B dX0_decode_169 rfl 4 rfl ?_
      refine z_get (ref := "FlowExporter$Collector") (C := RX0) (T := TX0) (N := 12) (ci := 2) (v := .ref (x + 140)) B (by decide +kernel) rfl 8 (by decide) (by decide +kernel) rfl h_19 rfl dX0_decode_170 ?_
      refine z_iconst (v := 4) B dX0_decode_173 rfl ?_
      have h_20 : Φ5 (x + 140) = some (al_ G 9 f_2) := ((hF5 (x + 140) (fun j9 h8 h7 => (show False from h7).elim)).trans ((hF4 (x + 140) (fun j9 h8 h7 => (show False from h7).elim)).trans h_16))
      refine z_lald B h_20 (vin rfl) dX0_decode_174 ?_
      refine z_flq (P := fun w9 => 0 ≤ w9) r_3 (fun v_19 q_1 => ?_)
      refine z_aload_n B dX0_decode_175 rfl 4 rfl ?_
      refine z_get (ref := "FlowExporter$Collector") (C := RX0) (T := TX0) (N := 12) (ci := 2) (v := .ref (x + 140)) B (by decide +kernel) rfl 8 (by decide) (by decide +kernel) rfl h_19 rfl dX0_decode_176 ?_
      refine z_iconst (v := 5) B dX0_decode_179 rfl ?_
      refine z_lald B h_20 (vin rfl) dX0_decode_180 ?_
      refine z_fl (fun v_20 => ?_)
      refine z_iload B dX0_decode_181 0 rfl ?_
      obtain ⟨n_6, h_21, b_7⟩ := in20 (k := 121) hI6 rfl
      have h_22 : Φ5 (x + 121) = some (o_ 11 [.ref (x + 122), .ref (x + 123), .ref (x + 126), .ref (x + 129), .int (nI n_6)]) := h_21
      refine z_callV (As := [.int v_14, .long v_19, .long v_20, .int (nI n_5)]) (rest := []) B (s_X9_add G l Φ5 sz x (ca) v_14 v_19 v_20 n_5 hx hI6 q_1 (show n_5 < 2 ^ 31 by omega)) (cwV 4 B.1.2.2.2.2 gX0_decode_X9_add rfl rfl rfl (by decide +kernel) ⟨Nat.le_of_ble_eq_true rfl, Nat.le_of_ble_eq_true rfl⟩) h_22 rfl rfl rfl rfl (Nat.le_of_ble_eq_true rfl) dX0_decode_183 ⟨Nat.le_of_ble_eq_true rfl, Nat.le_of_ble_eq_true rfl⟩ (fun r_8 Φ6 sz6 st6 hp6 hs6 => ?_)
      obtain ⟨rfl, hq6, hI7, hF6⟩ := hp6
      subst sz6
      replace hs6 : st6 = [] := hs6
      subst st6
      replace hI7 : In G x (ca) Φ6 := hI7
      exact z_ret_v B dX0_decode_186 ⟨rfl, rfl, hI7, (fun b9 h9 => ((hF6 b9 (fun j9 h8 h7 => h9 j9 h8 (show (121 ≤ j9 ∧ j9 < 133) ∨ (139 ≤ j9 ∧ j9 < 141) by have h6 : 124 ≤ j9 ∧ j9 < 132 := h7; omega))).trans ((hF5 b9 (fun j9 h8 h7 => (show False from h7).elim)).trans ((hF4 b9 (fun j9 h8 h7 => (show False from h7).elim)).trans ((hF3 b9 (fun j9 h8 h7 => h9 j9 h8 (show (121 ≤ j9 ∧ j9 < 133) ∨ (139 ≤ j9 ∧ j9 < 141) by have h6 : 121 ≤ j9 ∧ j9 < 132 := h7; omega))).trans ((hF2 b9 (fun j9 h8 h7 => (show False from h7).elim)).trans ((hF1 b9 (fun j9 h8 h7 => h9 j9 h8 (show (121 ≤ j9 ∧ j9 < 133) ∨ (139 ≤ j9 ∧ j9 < 141) by have h6 : j9 = 140 := h7; omega))).trans ((fset_fr hΦ1 (fun h8 => h9 (140) h8 (show (121 ≤ 140 ∧ 140 < 133) ∨ (139 ≤ 140 ∧ 140 < 141) by omega))).trans rfl))))))))⟩
    · refine z_aload_n B dX0_decode_129 rfl 3 rfl ?_
      have h_23 : Φ3 (x + 132) = some (o_ 2 [.ref (x + 3), .ref (x + 121), .ref (x + 133), .ref (x + 134), .ref (x + 135), .ref (x + 137), .ref (x + 138), .ref (x + 139), .ref (x + 140), .int (nI n_1), .int v_1, .int v_2]) := ((hF3 (x + 132) (fun j9 h8 h7 => by have h6 : 121 ≤ j9 ∧ j9 < 132 := h7; omega)).trans h_12)
      refine z_get (ref := "FlowExporter$Collector") (C := RX0) (T := TX0) (N := 12) (ci := 2) (v := .ref (x + 139)) B (by decide +kernel) rfl 7 (by decide) (by decide +kernel) rfl h_23 rfl dX0_decode_130 ?_
      refine z_bipush (v := 6) B dX0_decode_133 rfl ?_
      refine z_dup2_11 B dX0_decode_135 rfl rfl ?_
      obtain ⟨f_3, h_24⟩ := in28 (k := 139) hI4 rfl
      have h_25 : Φ3 (x + 139) = some (al_ G 9 f_3) := h_24
      refine z_lald B h_25 (vin rfl) dX0_decode_136 ?_
      refine z_fl (fun v_21 => ?_)
      refine z_lconst (v := 1) B dX0_decode_137 rfl ?_
      refine z_ladd B dX0_decode_138 ?_
      refine z_fl (fun v_22 => ?_)
      refine z_last B h_25 (Nat.le_trans hx (Nat.le_add_right x 139)) (vin rfl) dX0_decode_139 (fun Φ7 hΦ2 => ?_)
      have h_26 : Φ7 (x + 139) = some (al_ G 9 (vp_updL f_3 (6 : Int32).toNatClampNeg v_22)) := fset_at hΦ2
      have hI8 : In G x (ca) Φ7 := In.put (k := 139) hI4 hΦ2 (ok28 (k := 139) rfl ⟨_, rfl⟩)
      exact z_ret_v B dX0_decode_140 ⟨rfl, rfl, hI8, (fun b9 h9 => ((fset_fr hΦ2 (fun h8 => h9 (139) h8 (show (121 ≤ 139 ∧ 139 < 133) ∨ (139 ≤ 139 ∧ 139 < 141) by omega))).trans ((hF3 b9 (fun j9 h8 h7 => h9 j9 h8 (show (121 ≤ j9 ∧ j9 < 133) ∨ (139 ≤ j9 ∧ j9 < 141) by have h6 : 121 ≤ j9 ∧ j9 < 132 := h7; omega))).trans ((hF2 b9 (fun j9 h8 h7 => (show False from h7).elim)).trans ((hF1 b9 (fun j9 h8 h7 => h9 j9 h8 (show (121 ≤ j9 ∧ j9 < 133) ∨ (139 ≤ j9 ∧ j9 < 141) by have h6 : j9 = 140 := h7; omega))).trans ((fset_fr hΦ1 (fun h8 => h9 (140) h8 (show (121 ≤ 140 ∧ 140 < 133) ∨ (139 ≤ 140 ∧ 140 < 141) by omega))).trans rfl))))))⟩
  · have e_2 : ¬ (n_2 ≤ i_1) := fun h9 => c_1 ((nI_leI (a := n_2) (b := i_1) (by omega) (by omega)).mpr h9)
    refine z_aload_n B dX0_decode_23 rfl 5 rfl ?_
    refine z_iload B dX0_decode_24 0 rfl ?_
    refine z_callV (As := [.int (nI i_1)]) (rest := []) B (s_X10_field G l Φl1 sz x (ca) q (nI i_1) hx hI2 hk_q) (cwV 1 B.1.2.2.2.2 gX0_decode_X10_field rfl rfl rfl (by decide +kernel) ⟨Nat.le_of_ble_eq_true rfl, Nat.le_of_ble_eq_true rfl⟩) h_8 rfl rfl rfl rfl (Nat.le_of_ble_eq_true rfl) dX0_decode_26 ⟨Nat.le_of_ble_eq_true rfl, Nat.le_of_ble_eq_true rfl⟩ (fun r_9 Φ8 sz7 st7 hp7 hs7 => ?_)
    obtain ⟨⟨v_23, rfl⟩, hq7, hI9, hF7⟩ := hp7
    subst sz7
    replace hs7 : st7 = [.int v_23] := hs7
    subst st7
    replace hI9 : In G x (ca) Φ8 := hI9
    refine z_istore (lv' := [(6, .int v_23), (5, .int (nI i_1)), (4, .int i_2), (0, .ref (x + 132)), (1, .ref (x + (k))), (2, .int a), (3, .ref (x + (q)))]) B dX0_decode_29 (Nat.le_of_ble_eq_true rfl) rfl ?_
    refine z_iload B dX0_decode_31 0 rfl ?_
    refine z_if_lt (tgt := 73) B dX0_decode_33 rfl (fun c_3 => ?_) (fun c_3 => ?_)
    · refine z_iinc (k := 1) (v := nI (i_1 + 1)) (lv' := [(5, .int (nI (i_1 + 1))), (6, .int v_23), (4, .int i_2), (0, .ref (x + 132)), (1, .ref (x + (k))), (2, .int a), (3, .ref (x + (q)))]) B dX0_decode_73 rfl (nI_add i_1 1) (Nat.le_of_ble_eq_true rfl) rfl ?_
      refine z_goto (tgt := 14) B dX0_decode_76 rfl ?_
      refine z_lv [0, 2, 3, 4, 5, 6] rfl ?_
      exact ih1 (i_1 + 1, i_2) Φ8 (show 9 - (i_1 + 1) < 9 - i_1 by omega) ⟨hI9, (fun b9 h9 => ((hF7 b9 (fun j9 h8 h7 => (show False from h7).elim)).trans ((hF1 b9 (fun j9 h8 h7 => h9 j9 h8 (show j9 = 140 by have h6 : j9 = 140 := h7; omega))).trans rfl))), (show (i_1 + 1) ≤ 9 by omega), trivial⟩
    · obtain ⟨n_7, e_3, rfl⟩ := nI_of c_3
      refine z_iload B dX0_decode_36 0 rfl ?_
      refine z_bipush (v := 9) B dX0_decode_38 rfl ?_
      refine z_icmp_ge (tgt := 73) B dX0_decode_40 rfl (fun c_4 => ?_) (fun c_4 => ?_)
      · have e_4 : 9 ≤ n_7 := (nI_leI (a := 9) (b := n_7) (by omega) (by omega)).mp c_4
        refine z_iinc (k := 1) (v := nI (i_1 + 1)) (lv' := [(5, .int (nI (i_1 + 1))), (6, .int (nI n_7)), (4, .int i_2), (0, .ref (x + 132)), (1, .ref (x + (k))), (2, .int a), (3, .ref (x + (q)))]) B dX0_decode_73 rfl (nI_add i_1 1) (Nat.le_of_ble_eq_true rfl) rfl ?_
        refine z_goto (tgt := 14) B dX0_decode_76 rfl ?_
        refine z_lv [0, 2, 3, 4, 5, 6] rfl ?_
        exact ih1 (i_1 + 1, i_2) Φ8 (show 9 - (i_1 + 1) < 9 - i_1 by omega) ⟨hI9, (fun b9 h9 => ((hF7 b9 (fun j9 h8 h7 => (show False from h7).elim)).trans ((hF1 b9 (fun j9 h8 h7 => h9 j9 h8 (show j9 = 140 by have h6 : j9 = 140 := h7; omega))).trans rfl))), (show (i_1 + 1) ≤ 9 by omega), trivial⟩
      · have e_5 : ¬ (9 ≤ n_7) := fun h9 => c_4 ((nI_leI (a := 9) (b := n_7) (by omega) (by omega)).mpr h9)
        refine z_aload_n B dX0_decode_43 rfl 3 rfl ?_
        have h_27 : Φ8 (x + 132) = some (o_ 2 [.ref (x + 3), .ref (x + 121), .ref (x + 133), .ref (x + 134), .ref (x + 135), .ref (x + 137), .ref (x + 138), .ref (x + 139), .ref (x + 140), .int (nI n_1), .int v_1, .int v_2]) := ((hF7 (x + 132) (fun j9 h8 h7 => (show False from h7).elim)).trans ((hF1 (x + 132) (fun j9 h8 h7 => by have h6 : j9 = 140 := h7; omega)).trans ((fset_fr hΦ1 (ne_off (x := x) (i := 132) (j := 140) rfl)).trans h_2)))
        refine z_get (ref := "FlowExporter$Collector") (C := RX0) (T := TX0) (N := 12) (ci := 2) (v := .ref (x + 140)) B (by decide +kernel) rfl 8 (by decide) (by decide +kernel) rfl h_27 rfl dX0_decode_44 ?_
        refine z_iload B dX0_decode_47 0 rfl ?_
        refine z_aload_n B dX0_decode_49 rfl 4 rfl ?_
        refine z_iload B dX0_decode_50 2 rfl ?_
        refine z_staN (n := "FIELD_BYTES") B B.2.2.2.2.2.1.1.1 (by decide +kernel) dX0_decode_52 ?_
        refine z_iload B dX0_decode_55 0 rfl ?_
        refine z_sald B B.2.2.2.2.2.1.2.2.2.1.1 (B.2.2.2.2.2.1.2.2.2.2 0 (by decide)) (vp_in_nI (by omega) (by omega)) dX0_decode_57 ?_
        obtain ⟨n_8, b_8, e_6, e_7⟩ := fbT_nat4 (show n_7 < 9 by omega)
        refine z_top (st1 := [.int (nI n_8), .int i_2, .ref (x + (k)), .int (nI n_7), .ref (x + 140)]) (congrArg (fun w9 : Int32 => ([.int w9, .int i_2, .ref (x + (k)), .int (nI n_7), .ref (x + 140)] : List Value)) ((congrArg fbT (nI_clamp (by omega))).trans e_6)) ?_
        obtain ⟨n_9, h_28, b_9⟩ := in1 (k := k) hI9 hk_k
        replace b_9 : n_9 ≤ cap (k) := b_9
        have b_10 := cap_le (k)
        have h_29 : Φ8 (x + (k)) = some (o_ 7 [.ref (x + (k + 1)), .int (nI n_9)]) := h_28
        refine z_callV (As := [.int i_2, .int (nI n_8)]) (rest := [.int (nI n_7), .ref (x + 140)]) B (s_X5_numberAt G l Φ8 sz x (ca) k i_2 n_8 hx hI9 hk_k (show n_8 ≤ 8 by omega)) (cwV 2 B.1.2.2.2.2 gX0_decode_X5_numberAt rfl rfl rfl (by decide +kernel) ⟨Nat.le_of_ble_eq_true rfl, Nat.le_of_ble_eq_true rfl⟩) h_29 rfl rfl rfl rfl (Nat.le_of_ble_eq_true rfl) dX0_decode_58 ⟨Nat.le_of_ble_eq_true rfl, Nat.le_of_ble_eq_true rfl⟩ (fun r_10 Φ9 sz8 st8 hp8 hs8 => ?_)
        obtain ⟨⟨v_24, rfl, q_2⟩, hq8, hI10, hF8⟩ := hp8
        subst sz8
        replace hs8 : st8 = [.long v_24, .int (nI n_7), .ref (x + 140)] := hs8
        subst st8
        replace hI10 : In G x (ca) Φ9 := hI10
        obtain ⟨f_4, h_30, r_11⟩ := in29 (k := 140) hI10 rfl
        have h_31 : Φ9 (x + 140) = some (al_ G 9 f_4) := h_30
        refine z_last B h_31 (Nat.le_trans hx (Nat.le_add_right x 140)) (vp_in_nI (by omega) (by omega)) dX0_decode_61 (fun Φ10 hΦ3 => ?_)
        have h_32 : Φ10 (x + 140) = some (al_ G 9 (vp_updL f_4 (nI n_7).toNatClampNeg v_24)) := fset_at hΦ3
        have hI11 : In G x (ca) Φ10 := In.put (k := 140) hI10 hΦ3 (ok29 (k := 140) rfl ⟨_, rfl, upd4 r_11 (fun h9 => np_nn q_2 (e_7 (by have h8 : (nI n_7).toNatClampNeg = n_7 := nI_clamp (by omega); omega)))⟩)
        refine z_iload B dX0_decode_62 2 rfl ?_
        refine z_staN (n := "FIELD_BYTES") B B.2.2.2.2.2.1.1.1 (by decide +kernel) dX0_decode_64 ?_
        refine z_iload B dX0_decode_67 0 rfl ?_
        refine z_sald B B.2.2.2.2.2.1.2.2.2.1.1 (B.2.2.2.2.2.1.2.2.2.2 0 (by decide)) (vp_in_nI (by omega) (by omega)) dX0_decode_69 ?_
        obtain ⟨n_10, b_11, e_8⟩ := fbT_nat (show n_7 < 9 by omega)
        refine z_top (st1 := [.int (nI n_10), .int i_2]) (congrArg (fun w9 : Int32 => ([.int w9, .int i_2] : List Value)) ((congrArg fbT (nI_clamp (by omega))).trans e_8)) ?_
        refine z_iadd B dX0_decode_70 ?_
        refine z_fi (fun v_25 => ?_)
        refine z_istore (lv' := [(4, .int v_25), (6, .int (nI n_7)), (5, .int (nI i_1)), (0, .ref (x + 132)), (1, .ref (x + (k))), (2, .int a), (3, .ref (x + (q)))]) B dX0_decode_71 (Nat.le_of_ble_eq_true rfl) rfl ?_
        refine z_iinc (k := 2) (v := nI (i_1 + 1)) (lv' := [(5, .int (nI (i_1 + 1))), (4, .int v_25), (6, .int (nI n_7)), (0, .ref (x + 132)), (1, .ref (x + (k))), (2, .int a), (3, .ref (x + (q)))]) B dX0_decode_73 rfl (nI_add i_1 1) (Nat.le_of_ble_eq_true rfl) rfl ?_
        refine z_goto (tgt := 14) B dX0_decode_76 rfl ?_
        refine z_lv [0, 1, 3, 4, 5, 6] rfl ?_
        exact ih1 (i_1 + 1, v_25) Φ10 (show 9 - (i_1 + 1) < 9 - i_1 by omega) ⟨hI11, (fun b9 h9 => ((fset_fr hΦ3 (fun h8 => h9 (140) h8 (show 140 = 140 by omega))).trans ((hF8 b9 (fun j9 h8 h7 => (show False from h7).elim)).trans ((hF7 b9 (fun j9 h8 h7 => (show False from h7).elim)).trans ((hF1 b9 (fun j9 h8 h7 => h9 j9 h8 (show j9 = 140 by have h6 : j9 = 140 := h7; omega))).trans rfl))))), (show (i_1 + 1) ≤ 9 by omega), trivial⟩

set_option maxHeartbeats 4000000 in
set_option maxRecDepth 100000 in
theorem s_X0_readData (G : EnvG) (l : Launch) (Φ : Hm) (sz x ca : Nat) (k : Nat) (a : Nat) (b : Nat) (d : Int32) (f : Int32) (hx : G.2.2.2 ≤ x) (hI : In G x ca Φ) (hk_k : kd k = 1) (hab : a ≤ b) (hb : b ≤ 700) : Ct G l yX0_readData wsX0_readData ({ frames := 3, cells := 0, slots := 0, locals := 75 }) 0 0 [.ref (x + 132), .ref (x + (k)), .int (nI a), .int (nI b), .int d, .int f] Φ sz (fun v Φ1 sz1 => (∃ r9 : Int32, v = some (.int r9)) ∧ sz1 = sz ∧ In G x (ca) Φ1 ∧ Fr x (fun j9 => (121 ≤ j9 ∧ j9 < 133) ∨ (139 ≤ j9 ∧ j9 < 141)) Φ Φ1) := by
  refine Ct.of (cc := cX0_readData) (maxL := 9) (ret := (some .int)) (by decide) rfl (Nat.le_of_ble_eq_true rfl) ?_
  intro p9 e9 s9 m9 w9 t9 k9 B
  show Z p9 l e9 _ s9 m9 _ w9 t9 k9 _ G 9 0 [(0, .ref (x + 132)), (1, .ref (x + (k))), (2, .int (nI a)), (3, .int (nI b)), (4, .int d), (5, .int f)] [] Φ sz 0 0
  refine z_iload B dX0_readData_0 4 rfl ?_
  refine z_if_lt (tgt := 22) B dX0_readData_2 rfl (fun c_1 => ?_) (fun c_1 => ?_)
  · refine z_aload_n B dX0_readData_22 rfl 0 rfl ?_
    obtain ⟨n_1, v_1, v_2, h_1, b_1⟩ := in25 (k := 132) hI rfl
    have h_2 : Φ (x + 132) = some (o_ 2 [.ref (x + 3), .ref (x + 121), .ref (x + 133), .ref (x + 134), .ref (x + 135), .ref (x + 137), .ref (x + 138), .ref (x + 139), .ref (x + 140), .int (nI n_1), .int v_1, .int v_2]) := h_1
    refine z_get (ref := "FlowExporter$Collector") (C := RX0) (T := TX0) (N := 12) (ci := 2) (v := .ref (x + 139)) B (by decide +kernel) rfl 7 (by decide) (by decide +kernel) rfl h_2 rfl dX0_readData_23 ?_
    refine z_iconst (v := 3) B dX0_readData_26 rfl ?_
    refine z_dup2_11 B dX0_readData_27 rfl rfl ?_
    obtain ⟨f_1, h_3⟩ := in28 (k := 139) hI rfl
    have h_4 : Φ (x + 139) = some (al_ G 9 f_1) := h_3
    refine z_lald B h_4 (vin rfl) dX0_readData_28 ?_
    refine z_fl (fun v_3 => ?_)
    refine z_lconst (v := 1) B dX0_readData_29 rfl ?_
    refine z_ladd B dX0_readData_30 ?_
    refine z_fl (fun v_4 => ?_)
    refine z_last B h_4 (Nat.le_trans hx (Nat.le_add_right x 139)) (vin rfl) dX0_readData_31 (fun Φ1 hΦ1 => ?_)
    have h_5 : Φ1 (x + 139) = some (al_ G 9 (vp_updL f_1 (3 : Int32).toNatClampNeg v_4)) := fset_at hΦ1
    have hI1 : In G x (ca) Φ1 := In.put (k := 139) hI hΦ1 (ok28 (k := 139) rfl ⟨_, rfl⟩)
    refine z_iconst (v := 0) B dX0_readData_32 rfl ?_
    exact z_ret_i B dX0_readData_33 ⟨⟨_, rfl⟩, rfl, hI1, (fun b9 h9 => ((fset_fr hΦ1 (fun h8 => h9 (139) h8 (show (121 ≤ 139 ∧ 139 < 133) ∨ (139 ≤ 139 ∧ 139 < 141) by omega))).trans rfl))⟩
  · obtain ⟨n_2, e_1, rfl⟩ := nI_of c_1
    refine z_iload B dX0_readData_5 4 rfl ?_
    refine z_iconst (v := 4) B dX0_readData_7 rfl ?_
    refine z_icmp_ge (tgt := 22) B dX0_readData_8 rfl (fun c_2 => ?_) (fun c_2 => ?_)
    · have e_2 : 4 ≤ n_2 := (nI_leI (a := 4) (b := n_2) (by omega) (by omega)).mp c_2
      refine z_aload_n B dX0_readData_22 rfl 0 rfl ?_
      obtain ⟨n_3, v_5, v_6, h_6, b_2⟩ := in25 (k := 132) hI rfl
      have h_7 : Φ (x + 132) = some (o_ 2 [.ref (x + 3), .ref (x + 121), .ref (x + 133), .ref (x + 134), .ref (x + 135), .ref (x + 137), .ref (x + 138), .ref (x + 139), .ref (x + 140), .int (nI n_3), .int v_5, .int v_6]) := h_6
      refine z_get (ref := "FlowExporter$Collector") (C := RX0) (T := TX0) (N := 12) (ci := 2) (v := .ref (x + 139)) B (by decide +kernel) rfl 7 (by decide) (by decide +kernel) rfl h_7 rfl dX0_readData_23 ?_
      refine z_iconst (v := 3) B dX0_readData_26 rfl ?_
      refine z_dup2_11 B dX0_readData_27 rfl rfl ?_
      obtain ⟨f_2, h_8⟩ := in28 (k := 139) hI rfl
      have h_9 : Φ (x + 139) = some (al_ G 9 f_2) := h_8
      refine z_lald B h_9 (vin rfl) dX0_readData_28 ?_
      refine z_fl (fun v_7 => ?_)
      refine z_lconst (v := 1) B dX0_readData_29 rfl ?_
      refine z_ladd B dX0_readData_30 ?_
      refine z_fl (fun v_8 => ?_)
      refine z_last B h_9 (Nat.le_trans hx (Nat.le_add_right x 139)) (vin rfl) dX0_readData_31 (fun Φ2 hΦ2 => ?_)
      have h_10 : Φ2 (x + 139) = some (al_ G 9 (vp_updL f_2 (3 : Int32).toNatClampNeg v_8)) := fset_at hΦ2
      have hI2 : In G x (ca) Φ2 := In.put (k := 139) hI hΦ2 (ok28 (k := 139) rfl ⟨_, rfl⟩)
      refine z_iconst (v := 0) B dX0_readData_32 rfl ?_
      exact z_ret_i B dX0_readData_33 ⟨⟨_, rfl⟩, rfl, hI2, (fun b9 h9 => ((fset_fr hΦ2 (fun h8 => h9 (139) h8 (show (121 ≤ 139 ∧ 139 < 133) ∨ (139 ≤ 139 ∧ 139 < 141) by omega))).trans rfl))⟩
    · have e_3 : ¬ (4 ≤ n_2) := fun h9 => c_2 ((nI_leI (a := 4) (b := n_2) (by omega) (by omega)).mpr h9)
      refine z_aload_n B dX0_readData_11 rfl 0 rfl ?_
      refine z_iload B dX0_readData_12 4 rfl ?_
      refine z_iload B dX0_readData_14 5 rfl ?_
      obtain ⟨n_4, v_9, v_10, h_11, b_3⟩ := in25 (k := 132) hI rfl
      have h_12 : Φ (x + 132) = some (o_ 2 [.ref (x + 3), .ref (x + 121), .ref (x + 133), .ref (x + 134), .ref (x + 135), .ref (x + 137), .ref (x + 138), .ref (x + 139), .ref (x + 140), .int (nI n_4), .int v_9, .int v_10]) := h_11
      refine z_callV (As := [.int (nI n_2), .int f]) (rest := []) B (s_X0_isUsable G l Φ sz x (ca) (nI n_2) f hx hI ) (cwV 2 B.1.2.2.2.2 gX0_readData_X0_isUsable rfl rfl rfl (by decide +kernel) ⟨Nat.le_of_ble_eq_true rfl, Nat.le_of_ble_eq_true rfl⟩) h_12 rfl rfl rfl rfl (Nat.le_of_ble_eq_true rfl) dX0_readData_16 ⟨Nat.le_of_ble_eq_true rfl, Nat.le_of_ble_eq_true rfl⟩ (fun r_1 Φ3 sz1 st1 hp1 hs1 => ?_)
      obtain ⟨⟨v_11, rfl, b_4⟩, hq1, hI3, hF1⟩ := hp1
      subst sz1
      replace hs1 : st1 = [.int v_11] := hs1
      subst st1
      replace hI3 : In G x (ca) Φ3 := hI3
      refine z_if_ne (tgt := 34) B dX0_readData_19 rfl (fun c_3 => ?_) (fun c_3 => ?_)
      · refine z_aload_n B dX0_readData_34 rfl 0 rfl ?_
        have h_13 : Φ3 (x + 132) = some (o_ 2 [.ref (x + 3), .ref (x + 121), .ref (x + 133), .ref (x + 134), .ref (x + 135), .ref (x + 137), .ref (x + 138), .ref (x + 139), .ref (x + 140), .int (nI n_4), .int v_9, .int v_10]) := ((hF1 (x + 132) (fun j9 h8 h7 => (show False from h7).elim)).trans h_12)
        refine z_get (ref := "FlowExporter$Collector") (C := RX0) (T := TX0) (N := 12) (ci := 2) (v := .ref (x + 133)) B (by decide +kernel) rfl 2 (by decide) (by decide +kernel) rfl h_13 rfl dX0_readData_35 ?_
        refine z_iload B dX0_readData_38 4 rfl ?_
        obtain ⟨f_3, h_14, r_2⟩ := in26 (k := 133) hI3 rfl
        have h_15 : Φ3 (x + 133) = some (aq_ G 4 4 f_3) := h_14
        refine z_aald (b := x + (133 + 8 + 2 * n_2)) B rfl h_15 (vp_in_nI (by omega) (by omega)) ((congrArg f_3 (nI_clamp (by omega))).trans (r_2 n_2 (by omega))) dX0_readData_40 ?_
        refine z_astore (lv' := [(6, .ref (x + (133 + 8 + 2 * n_2))), (0, .ref (x + 132)), (1, .ref (x + (k))), (2, .int (nI a)), (3, .int (nI b)), (4, .int (nI n_2)), (5, .int f)]) B dX0_readData_41 (Nat.le_of_ble_eq_true rfl) rfl ?_
        refine z_iconst (v := 0) B dX0_readData_43 rfl ?_
        refine z_istore (lv' := [(7, .int 0), (6, .ref (x + (133 + 8 + 2 * n_2))), (0, .ref (x + 132)), (1, .ref (x + (k))), (2, .int (nI a)), (3, .int (nI b)), (4, .int (nI n_2)), (5, .int f)]) B dX0_readData_44 (Nat.le_of_ble_eq_true rfl) rfl ?_
        refine z_iload_n B dX0_readData_46 rfl 4 rfl ?_
        refine z_istore (lv' := [(8, .int (nI a)), (7, .int 0), (6, .ref (x + (133 + 8 + 2 * n_2))), (0, .ref (x + 132)), (1, .ref (x + (k))), (2, .int (nI a)), (3, .int (nI b)), (4, .int (nI n_2)), (5, .int f)]) B dX0_readData_47 (Nat.le_of_ble_eq_true rfl) rfl ?_
        refine z_lv [0, 1, 2, 3, 4, 5, 6, 7, 8] rfl ?_
        refine z_loop (α := Nat × Int32) (fun (a9 : Nat × Int32) Φi => In G x (ca) Φi ∧ Fr x (fun j9 => (121 ≤ j9 ∧ j9 < 133) ∨ (139 ≤ j9 ∧ j9 < 141)) Φ3 Φi ∧ (a9.1 ≤ b) ∧ True) (fun a9 => [(8, .int (nI (a9.1))), (7, .int a9.2), (6, .ref (x + (133 + 8 + 2 * n_2))), (0, .ref (x + 132)), (1, .ref (x + (k))), (2, .int (nI a)), (3, .int (nI b)), (4, .int (nI n_2)), (5, .int f)]) (fun a9 => b - a9.1) ?_ (a, 0) ⟨hI3, fun _ _ => rfl, (show a ≤ b by omega), trivial⟩
        rintro ⟨i_1, i_2⟩ Φl1 ⟨hI4, hF2, b_5, -⟩ ih1
        replace hI4 : In G x (ca) Φl1 := hI4
        replace b_5 : i_1 ≤ b := b_5
        show Z p9 l e9 _ s9 m9 _ w9 t9 k9 _ G 9 49 [(8, .int (nI i_1)), (7, .int i_2), (6, .ref (x + (133 + 8 + 2 * n_2))), (0, .ref (x + 132)), (1, .ref (x + (k))), (2, .int (nI a)), (3, .int (nI b)), (4, .int (nI n_2)), (5, .int f)] [] Φl1 _ _ _
        refine z_aload B dX0_readData_49 2 rfl ?_
        obtain ⟨n_5, v_12, v_13, h_16, b_6⟩ := in8 (k := 133 + 8 + 2 * n_2) hI4 (kd_k (by omega))
        have h_17 : Φl1 (x + (133 + 8 + 2 * n_2)) = some (o_ 12 [.ref (x + (133 + 8 + 2 * n_2 + 1)), .int (nI n_5), .int v_12, .int v_13]) := h_16
        refine z_get (ref := "FlowExporter$Template") (C := RX10) (T := TX10) (N := 4) (ci := 12) (v := .int v_13) B (by decide +kernel) rfl 3 (by decide) (by decide +kernel) rfl h_17 rfl dX0_readData_51 ?_
        refine z_if_le (tgt := 94) B dX0_readData_54 rfl (fun c_4 => ?_) (fun c_4 => ?_)
        · refine z_aload_n B dX0_readData_94 rfl 3 rfl ?_
          obtain ⟨n_6, v_14, v_15, h_18, b_7⟩ := in25 (k := 132) hI4 rfl
          have h_19 : Φl1 (x + 132) = some (o_ 2 [.ref (x + 3), .ref (x + 121), .ref (x + 133), .ref (x + 134), .ref (x + 135), .ref (x + 137), .ref (x + 138), .ref (x + 139), .ref (x + 140), .int (nI n_6), .int v_14, .int v_15]) := h_18
          refine z_get (ref := "FlowExporter$Collector") (C := RX0) (T := TX0) (N := 12) (ci := 2) (v := .ref (x + 139)) B (by decide +kernel) rfl 7 (by decide) (by decide +kernel) rfl h_19 rfl dX0_readData_95 ?_
          refine z_bipush (v := 7) B dX0_readData_98 rfl ?_
          refine z_dup2_11 B dX0_readData_100 rfl rfl ?_
          obtain ⟨f_4, h_20⟩ := in28 (k := 139) hI4 rfl
          have h_21 : Φl1 (x + 139) = some (al_ G 9 f_4) := h_20
          refine z_lald B h_21 (vin rfl) dX0_readData_101 ?_
          refine z_fl (fun v_16 => ?_)
          refine z_iload B dX0_readData_102 1 rfl ?_
          refine z_i2l (v := i_2.toInt64) B dX0_readData_104 rfl ?_
          refine z_fl (fun v_17 => ?_)
          refine z_ladd B dX0_readData_105 ?_
          refine z_fl (fun v_18 => ?_)
          refine z_last B h_21 (Nat.le_trans hx (Nat.le_add_right x 139)) (vin rfl) dX0_readData_106 (fun Φ4 hΦ3 => ?_)
          have h_22 : Φ4 (x + 139) = some (al_ G 9 (vp_updL f_4 (7 : Int32).toNatClampNeg v_18)) := fset_at hΦ3
          have hI5 : In G x (ca) Φ4 := In.put (k := 139) hI4 hΦ3 (ok28 (k := 139) rfl ⟨_, rfl⟩)
          refine z_iload B dX0_readData_107 1 rfl ?_
          exact z_ret_i B dX0_readData_109 ⟨⟨_, rfl⟩, rfl, hI5, (fun b9 h9 => ((fset_fr hΦ3 (fun h8 => h9 (139) h8 (show (121 ≤ 139 ∧ 139 < 133) ∨ (139 ≤ 139 ∧ 139 < 141) by omega))).trans ((hF2 b9 (fun j9 h8 h7 => h9 j9 h8 (show (121 ≤ j9 ∧ j9 < 133) ∨ (139 ≤ j9 ∧ j9 < 141) by have h6 : (121 ≤ j9 ∧ j9 < 133) ∨ (139 ≤ j9 ∧ j9 < 141) := h7; omega))).trans ((hF1 b9 (fun j9 h8 h7 => (show False from h7).elim)).trans rfl))))⟩
        · obtain ⟨n_7, e_5, e_4, rfl⟩ := nI_ofp c_4
          refine z_iload_n B dX0_readData_57 rfl 6 rfl ?_
          refine z_iload B dX0_readData_58 0 rfl ?_
          refine z_isub B dX0_readData_60 ?_
          refine z_top (st1 := [.int (nI (b - i_1))]) (congrArg (fun w9 : Int32 => ([.int w9] : List Value)) (nI_sub (show i_1 ≤ b by omega))) ?_
          refine z_aload B dX0_readData_61 2 rfl ?_
          refine z_get (ref := "FlowExporter$Template") (C := RX10) (T := TX10) (N := 4) (ci := 12) (v := .int (nI n_7)) B (by decide +kernel) rfl 3 (by decide) (by decide +kernel) rfl h_17 rfl dX0_readData_63 ?_
          refine z_icmp_lt (tgt := 94) B dX0_readData_66 rfl (fun c_5 => ?_) (fun c_5 => ?_)
          · have e_6 : b - i_1 < n_7 := (nI_ltI (a := b - i_1) (b := n_7) (by omega) (by omega)).mp c_5
            refine z_aload_n B dX0_readData_94 rfl 3 rfl ?_
            obtain ⟨n_8, v_19, v_20, h_23, b_8⟩ := in25 (k := 132) hI4 rfl
            have h_24 : Φl1 (x + 132) = some (o_ 2 [.ref (x + 3), .ref (x + 121), .ref (x + 133), .ref (x + 134), .ref (x + 135), .ref (x + 137), .ref (x + 138), .ref (x + 139), .ref (x + 140), .int (nI n_8), .int v_19, .int v_20]) := h_23
            refine z_get (ref := "FlowExporter$Collector") (C := RX0) (T := TX0) (N := 12) (ci := 2) (v := .ref (x + 139)) B (by decide +kernel) rfl 7 (by decide) (by decide +kernel) rfl h_24 rfl dX0_readData_95 ?_
            refine z_bipush (v := 7) B dX0_readData_98 rfl ?_
            refine z_dup2_11 B dX0_readData_100 rfl rfl ?_
            obtain ⟨f_5, h_25⟩ := in28 (k := 139) hI4 rfl
            have h_26 : Φl1 (x + 139) = some (al_ G 9 f_5) := h_25
            refine z_lald B h_26 (vin rfl) dX0_readData_101 ?_
            refine z_fl (fun v_21 => ?_)
            refine z_iload B dX0_readData_102 1 rfl ?_
            refine z_i2l (v := i_2.toInt64) B dX0_readData_104 rfl ?_
            refine z_fl (fun v_22 => ?_)
            refine z_ladd B dX0_readData_105 ?_
            refine z_fl (fun v_23 => ?_)
            refine z_last B h_26 (Nat.le_trans hx (Nat.le_add_right x 139)) (vin rfl) dX0_readData_106 (fun Φ5 hΦ4 => ?_)
            have h_27 : Φ5 (x + 139) = some (al_ G 9 (vp_updL f_5 (7 : Int32).toNatClampNeg v_23)) := fset_at hΦ4
            have hI6 : In G x (ca) Φ5 := In.put (k := 139) hI4 hΦ4 (ok28 (k := 139) rfl ⟨_, rfl⟩)
            refine z_iload B dX0_readData_107 1 rfl ?_
            exact z_ret_i B dX0_readData_109 ⟨⟨_, rfl⟩, rfl, hI6, (fun b9 h9 => ((fset_fr hΦ4 (fun h8 => h9 (139) h8 (show (121 ≤ 139 ∧ 139 < 133) ∨ (139 ≤ 139 ∧ 139 < 141) by omega))).trans ((hF2 b9 (fun j9 h8 h7 => h9 j9 h8 (show (121 ≤ j9 ∧ j9 < 133) ∨ (139 ≤ j9 ∧ j9 < 141) by have h6 : (121 ≤ j9 ∧ j9 < 133) ∨ (139 ≤ j9 ∧ j9 < 141) := h7; omega))).trans ((hF1 b9 (fun j9 h8 h7 => (show False from h7).elim)).trans rfl))))⟩
          · have e_7 : ¬ (b - i_1 < n_7) := fun h9 => c_5 ((nI_ltI (a := b - i_1) (b := n_7) (by omega) (by omega)).mpr h9)
            refine z_aload_n B dX0_readData_69 rfl 3 rfl ?_
            refine z_aload_n B dX0_readData_70 rfl 4 rfl ?_
            refine z_iload B dX0_readData_71 0 rfl ?_
            refine z_aload B dX0_readData_73 2 rfl ?_
            obtain ⟨n_9, v_24, v_25, h_28, b_9⟩ := in25 (k := 132) hI4 rfl
            have h_29 : Φl1 (x + 132) = some (o_ 2 [.ref (x + 3), .ref (x + 121), .ref (x + 133), .ref (x + 134), .ref (x + 135), .ref (x + 137), .ref (x + 138), .ref (x + 139), .ref (x + 140), .int (nI n_9), .int v_24, .int v_25]) := h_28
            refine z_callV (As := [.ref (x + (k)), .int (nI i_1), .ref (x + (133 + 8 + 2 * n_2))]) (rest := []) B (s_X0_decode G l Φl1 sz x (ca) k (nI i_1) (133 + 8 + 2 * n_2) hx hI4 hk_k (kd_k (by omega)) (show 141 ≤ (133 + 8 + 2 * n_2) by omega)) (cwV 3 B.1.2.2.2.2 gX0_readData_X0_decode rfl rfl rfl (by decide +kernel) ⟨Nat.le_of_ble_eq_true rfl, Nat.le_of_ble_eq_true rfl⟩) h_29 rfl rfl rfl rfl (Nat.le_of_ble_eq_true rfl) dX0_readData_75 ⟨Nat.le_of_ble_eq_true rfl, Nat.le_of_ble_eq_true rfl⟩ (fun r_3 Φ6 sz2 st2 hp2 hs2 => ?_)
            obtain ⟨rfl, hq2, hI7, hF3⟩ := hp2
            subst sz2
            replace hs2 : st2 = [] := hs2
            subst st2
            replace hI7 : In G x (ca) Φ6 := hI7
            refine z_iinc (k := 1) (v := i_2 + 1) (lv' := [(7, .int (i_2 + 1)), (8, .int (nI i_1)), (6, .ref (x + (133 + 8 + 2 * n_2))), (0, .ref (x + 132)), (1, .ref (x + (k))), (2, .int (nI a)), (3, .int (nI b)), (4, .int (nI n_2)), (5, .int f)]) B dX0_readData_78 rfl rfl (Nat.le_of_ble_eq_true rfl) rfl ?_
            refine z_iload B dX0_readData_81 1 rfl ?_
            refine z_aload B dX0_readData_83 2 rfl ?_
            have h_30 : Φ6 (x + (133 + 8 + 2 * n_2)) = some (o_ 12 [.ref (x + (133 + 8 + 2 * n_2 + 1)), .int (nI n_5), .int v_12, .int (nI n_7)]) := ((hF3 (x + (133 + 8 + 2 * n_2)) (fun j9 h8 h7 => by have h6 : (121 ≤ j9 ∧ j9 < 133) ∨ (139 ≤ j9 ∧ j9 < 141) := h7; omega)).trans h_17)
            refine z_get (ref := "FlowExporter$Template") (C := RX10) (T := TX10) (N := 4) (ci := 12) (v := .int (nI n_7)) B (by decide +kernel) rfl 3 (by decide) (by decide +kernel) rfl h_30 rfl dX0_readData_85 ?_
            refine z_iadd B dX0_readData_88 ?_
            refine z_top (st1 := [.int (nI (i_1 + n_7))]) (congrArg (fun w9 : Int32 => ([.int w9] : List Value)) (nI_add i_1 n_7)) ?_
            refine z_istore (lv' := [(8, .int (nI (i_1 + n_7))), (7, .int (i_2 + 1)), (6, .ref (x + (133 + 8 + 2 * n_2))), (0, .ref (x + 132)), (1, .ref (x + (k))), (2, .int (nI a)), (3, .int (nI b)), (4, .int (nI n_2)), (5, .int f)]) B dX0_readData_89 (Nat.le_of_ble_eq_true rfl) rfl ?_
            refine z_goto (tgt := 49) B dX0_readData_91 rfl ?_
            refine z_lv [0, 1, 2, 3, 4, 5, 6, 7, 8] rfl ?_
            exact ih1 (i_1 + n_7, i_2 + 1) Φ6 (show b - (i_1 + n_7) < b - i_1 by omega) ⟨hI7, (fun b9 h9 => ((hF3 b9 (fun j9 h8 h7 => h9 j9 h8 (show (121 ≤ j9 ∧ j9 < 133) ∨ (139 ≤ j9 ∧ j9 < 141) by have h6 : (121 ≤ j9 ∧ j9 < 133) ∨ (139 ≤ j9 ∧ j9 < 141) := h7; omega))).trans ((hF2 b9 (fun j9 h8 h7 => h9 j9 h8 (show (121 ≤ j9 ∧ j9 < 133) ∨ (139 ≤ j9 ∧ j9 < 141) by have h6 : (121 ≤ j9 ∧ j9 < 133) ∨ (139 ≤ j9 ∧ j9 < 141) := h7; omega))).trans rfl))), (show (i_1 + n_7) ≤ b by omega), trivial⟩
      · refine z_aload_n B dX0_readData_22 rfl 0 rfl ?_
        have h_31 : Φ3 (x + 132) = some (o_ 2 [.ref (x + 3), .ref (x + 121), .ref (x + 133), .ref (x + 134), .ref (x + 135), .ref (x + 137), .ref (x + 138), .ref (x + 139), .ref (x + 140), .int (nI n_4), .int v_9, .int v_10]) := ((hF1 (x + 132) (fun j9 h8 h7 => (show False from h7).elim)).trans h_12)
        refine z_get (ref := "FlowExporter$Collector") (C := RX0) (T := TX0) (N := 12) (ci := 2) (v := .ref (x + 139)) B (by decide +kernel) rfl 7 (by decide) (by decide +kernel) rfl h_31 rfl dX0_readData_23 ?_
        refine z_iconst (v := 3) B dX0_readData_26 rfl ?_
        refine z_dup2_11 B dX0_readData_27 rfl rfl ?_
        obtain ⟨f_6, h_32⟩ := in28 (k := 139) hI3 rfl
        have h_33 : Φ3 (x + 139) = some (al_ G 9 f_6) := h_32
        refine z_lald B h_33 (vin rfl) dX0_readData_28 ?_
        refine z_fl (fun v_26 => ?_)
        refine z_lconst (v := 1) B dX0_readData_29 rfl ?_
        refine z_ladd B dX0_readData_30 ?_
        refine z_fl (fun v_27 => ?_)
        refine z_last B h_33 (Nat.le_trans hx (Nat.le_add_right x 139)) (vin rfl) dX0_readData_31 (fun Φ7 hΦ5 => ?_)
        have h_34 : Φ7 (x + 139) = some (al_ G 9 (vp_updL f_6 (3 : Int32).toNatClampNeg v_27)) := fset_at hΦ5
        have hI8 : In G x (ca) Φ7 := In.put (k := 139) hI3 hΦ5 (ok28 (k := 139) rfl ⟨_, rfl⟩)
        refine z_iconst (v := 0) B dX0_readData_32 rfl ?_
        exact z_ret_i B dX0_readData_33 ⟨⟨_, rfl⟩, rfl, hI8, (fun b9 h9 => ((fset_fr hΦ5 (fun h8 => h9 (139) h8 (show (121 ≤ 139 ∧ 139 < 133) ∨ (139 ≤ 139 ∧ 139 < 141) by omega))).trans ((hF1 b9 (fun j9 h8 h7 => (show False from h7).elim)).trans rfl)))⟩

set_option maxHeartbeats 4000000 in
set_option maxRecDepth 100000 in
theorem s_X0_readSets (G : EnvG) (l : Launch) (Φ : Hm) (sz x ca : Nat) (k : Nat) (a : Int32) (hx : G.2.2.2 ≤ x) (hI : In G x ca Φ) (hk_k : kd k = 1) : Ct G l yX0_readSets wsX0_readSets ({ frames := 4, cells := 0, slots := 0, locals := 103 }) 0 0 [.ref (x + 132), .ref (x + (k)), .int a] Φ sz (fun v Φ1 sz1 => (∃ r9 : Int32, v = some (.int r9)) ∧ sz1 = sz ∧ In G x (ca) Φ1 ∧ Fr x (fun j9 => (121 ≤ j9 ∧ j9 < 149)) Φ Φ1) := by
  refine Ct.of (cc := cX0_readSets) (maxL := 10) (ret := (some .int)) (by decide) rfl (Nat.le_of_ble_eq_true rfl) ?_
  intro p9 e9 s9 m9 w9 t9 k9 B
  show Z p9 l e9 _ s9 m9 _ w9 t9 k9 _ G 10 0 [(0, .ref (x + 132)), (1, .ref (x + (k))), (2, .int a)] [] Φ sz 0 0
  refine z_iconst (v := 0) B dX0_readSets_0 rfl ?_
  refine z_istore_n (lv' := [(3, .int 0), (0, .ref (x + 132)), (1, .ref (x + (k))), (2, .int a)]) B dX0_readSets_1 rfl (Nat.le_of_ble_eq_true rfl) rfl ?_
  refine z_bipush (v := 16) B dX0_readSets_2 rfl ?_
  refine z_istore (lv' := [(4, .int 16), (3, .int 0), (0, .ref (x + 132)), (1, .ref (x + (k))), (2, .int a)]) B dX0_readSets_4 (Nat.le_of_ble_eq_true rfl) rfl ?_
  refine z_iconst (v := 0) B dX0_readSets_6 rfl ?_
  refine z_istore (lv' := [(5, .int 0), (4, .int 16), (3, .int 0), (0, .ref (x + 132)), (1, .ref (x + (k))), (2, .int a)]) B dX0_readSets_7 (Nat.le_of_ble_eq_true rfl) rfl ?_
  refine z_lv [0, 1, 2, 3, 4, 5] rfl ?_
  refine z_loop (α := Nat × Nat × Int32) (fun (a9 : Nat × Nat × Int32) Φi => In G x (ca) Φi ∧ Fr x (fun j9 => (121 ≤ j9 ∧ j9 < 149)) Φ Φi ∧ (a9.1 ≤ 701) ∧ (a9.2.1 ≤ 700) ∧ True) (fun a9 => [(5, .int (nI (a9.1))), (4, .int (nI (a9.2.1))), (3, .int a9.2.2), (0, .ref (x + 132)), (1, .ref (x + (k))), (2, .int a)]) (fun a9 => 701 - a9.1) ?_ (0, 16, 0) ⟨hI, fun _ _ => rfl, (show 0 ≤ 701 by omega), (show 16 ≤ 700 by omega), trivial⟩
  rintro ⟨i_1, i_2, i_3⟩ Φl1 ⟨hI1, hF1, b_1, b_2, -⟩ ih1
  replace hI1 : In G x (ca) Φl1 := hI1
  replace b_1 : i_1 ≤ 701 := b_1
  replace b_2 : i_2 ≤ 700 := b_2
  show Z p9 l e9 _ s9 m9 _ w9 t9 k9 _ G 10 9 [(5, .int (nI i_1)), (4, .int (nI i_2)), (3, .int i_3), (0, .ref (x + 132)), (1, .ref (x + (k))), (2, .int a)] [] Φl1 _ _ _
  refine z_iload B dX0_readSets_9 0 rfl ?_
  refine z_sipush (v := 700) B dX0_readSets_11 rfl ?_
  refine z_icmp_gt (tgt := 163) B dX0_readSets_14 rfl (fun c_1 => ?_) (fun c_1 => ?_)
  · have e_1 : 700 < i_1 := (nI_ltI (a := 700) (b := i_1) (by omega) (by omega)).mp c_1
    refine z_iload_n B dX0_readSets_163 rfl 2 rfl ?_
    exact z_ret_i B dX0_readSets_164 ⟨⟨_, rfl⟩, rfl, hI1, (fun b9 h9 => ((hF1 b9 (fun j9 h8 h7 => h9 j9 h8 (show (121 ≤ j9 ∧ j9 < 149) by have h6 : (121 ≤ j9 ∧ j9 < 149) := h7; omega))).trans rfl))⟩
  · have e_2 : ¬ (700 < i_1) := fun h9 => c_1 ((nI_ltI (a := 700) (b := i_1) (by omega) (by omega)).mpr h9)
    refine z_iload B dX0_readSets_17 1 rfl ?_
    refine z_aload_n B dX0_readSets_19 rfl 4 rfl ?_
    obtain ⟨n_1, h_1, b_3⟩ := in1 (k := k) hI1 hk_k
    replace b_3 : n_1 ≤ cap (k) := b_3
    have b_4 := cap_le (k)
    have h_2 : Φl1 (x + (k)) = some (o_ 7 [.ref (x + (k + 1)), .int (nI n_1)]) := h_1
    refine z_get (ref := "FlowExporter$Message") (C := RX5) (T := TX5) (N := 2) (ci := 7) (v := .int (nI n_1)) B (by decide +kernel) rfl 1 (by decide) (by decide +kernel) rfl h_2 rfl dX0_readSets_20 ?_
    refine z_icmp_ge (tgt := 163) B dX0_readSets_23 rfl (fun c_2 => ?_) (fun c_2 => ?_)
    · have e_3 : n_1 ≤ i_2 := (nI_leI (a := n_1) (b := i_2) (by omega) (by omega)).mp c_2
      refine z_iload_n B dX0_readSets_163 rfl 2 rfl ?_
      exact z_ret_i B dX0_readSets_164 ⟨⟨_, rfl⟩, rfl, hI1, (fun b9 h9 => ((hF1 b9 (fun j9 h8 h7 => h9 j9 h8 (show (121 ≤ j9 ∧ j9 < 149) by have h6 : (121 ≤ j9 ∧ j9 < 149) := h7; omega))).trans rfl))⟩
    · have e_4 : ¬ (n_1 ≤ i_2) := fun h9 => c_2 ((nI_leI (a := n_1) (b := i_2) (by omega) (by omega)).mpr h9)
      refine z_aload_n B dX0_readSets_26 rfl 4 rfl ?_
      refine z_get (ref := "FlowExporter$Message") (C := RX5) (T := TX5) (N := 2) (ci := 7) (v := .int (nI n_1)) B (by decide +kernel) rfl 1 (by decide) (by decide +kernel) rfl h_2 rfl dX0_readSets_27 ?_
      refine z_iload B dX0_readSets_30 1 rfl ?_
      refine z_isub B dX0_readSets_32 ?_
      refine z_top (st1 := [.int (nI (n_1 - i_2))]) (congrArg (fun w9 : Int32 => ([.int w9] : List Value)) (nI_sub (show i_2 ≤ n_1 by omega))) ?_
      refine z_istore (lv' := [(6, .int (nI (n_1 - i_2))), (5, .int (nI i_1)), (4, .int (nI i_2)), (3, .int i_3), (0, .ref (x + 132)), (1, .ref (x + (k))), (2, .int a)]) B dX0_readSets_33 (Nat.le_of_ble_eq_true rfl) rfl ?_
      refine z_iload B dX0_readSets_35 0 rfl ?_
      refine z_iconst (v := 4) B dX0_readSets_37 rfl ?_
      refine z_icmp_ge (tgt := 45) B dX0_readSets_38 rfl (fun c_3 => ?_) (fun c_3 => ?_)
      · have e_5 : 4 ≤ n_1 - i_2 := (nI_leI (a := 4) (b := n_1 - i_2) (by omega) (by omega)).mp c_3
        refine z_aload_n B dX0_readSets_45 rfl 5 rfl ?_
        refine z_iload B dX0_readSets_46 2 rfl ?_
        refine z_iconst (v := 2) B dX0_readSets_48 rfl ?_
        refine z_iadd B dX0_readSets_49 ?_
        refine z_top (st1 := [.int (nI (i_2 + 2)), .ref (x + (k))]) (congrArg (fun w9 : Int32 => ([.int w9, .ref (x + (k))] : List Value)) (nI_add i_2 2)) ?_
        refine z_iconst (v := 2) B dX0_readSets_50 rfl ?_
        refine z_callV (As := [.int (nI (i_2 + 2)), .int 2]) (rest := []) B (s_X5_intAt G l Φl1 sz x (ca) k (nI (i_2 + 2)) 2 hx hI1 hk_k (show 2 ≤ 8 by omega)) (cwV 2 B.1.2.2.2.2 gX0_readSets_X5_intAt rfl rfl rfl (by decide +kernel) ⟨Nat.le_of_ble_eq_true rfl, Nat.le_of_ble_eq_true rfl⟩) h_2 rfl rfl rfl rfl (Nat.le_of_ble_eq_true rfl) dX0_readSets_51 ⟨Nat.le_of_ble_eq_true rfl, Nat.le_of_ble_eq_true rfl⟩ (fun r_1 Φ1 sz1 st1 hp1 hs1 => ?_)
        obtain ⟨⟨v_1, rfl⟩, hq1, hI2, hF2⟩ := hp1
        subst sz1
        replace hs1 : st1 = [.int v_1] := hs1
        subst st1
        replace hI2 : In G x (ca) Φ1 := hI2
        refine z_istore (lv' := [(7, .int v_1), (6, .int (nI (n_1 - i_2))), (5, .int (nI i_1)), (4, .int (nI i_2)), (3, .int i_3), (0, .ref (x + 132)), (1, .ref (x + (k))), (2, .int a)]) B dX0_readSets_54 (Nat.le_of_ble_eq_true rfl) rfl ?_
        refine z_iload B dX0_readSets_56 0 rfl ?_
        refine z_iconst (v := 4) B dX0_readSets_58 rfl ?_
        refine z_icmp_lt (tgt := 69) B dX0_readSets_59 rfl (fun c_4 => ?_) (fun c_4 => ?_)
        · refine z_aload_n B dX0_readSets_69 rfl 5 rfl ?_
          obtain ⟨n_2, v_2, v_3, h_3, b_5⟩ := in25 (k := 132) hI2 rfl
          have h_4 : Φ1 (x + 132) = some (o_ 2 [.ref (x + 3), .ref (x + 121), .ref (x + 133), .ref (x + 134), .ref (x + 135), .ref (x + 137), .ref (x + 138), .ref (x + 139), .ref (x + 140), .int (nI n_2), .int v_2, .int v_3]) := h_3
          refine z_get (ref := "FlowExporter$Collector") (C := RX0) (T := TX0) (N := 12) (ci := 2) (v := .ref (x + 139)) B (by decide +kernel) rfl 7 (by decide) (by decide +kernel) rfl h_4 rfl dX0_readSets_70 ?_
          refine z_iconst (v := 4) B dX0_readSets_73 rfl ?_
          refine z_dup2_11 B dX0_readSets_74 rfl rfl ?_
          obtain ⟨f_1, h_5⟩ := in28 (k := 139) hI2 rfl
          have h_6 : Φ1 (x + 139) = some (al_ G 9 f_1) := h_5
          refine z_lald B h_6 (vin rfl) dX0_readSets_75 ?_
          refine z_fl (fun v_4 => ?_)
          refine z_lconst (v := 1) B dX0_readSets_76 rfl ?_
          refine z_ladd B dX0_readSets_77 ?_
          refine z_fl (fun v_5 => ?_)
          refine z_last B h_6 (Nat.le_trans hx (Nat.le_add_right x 139)) (vin rfl) dX0_readSets_78 (fun Φ2 hΦ1 => ?_)
          have h_7 : Φ2 (x + 139) = some (al_ G 9 (vp_updL f_1 (4 : Int32).toNatClampNeg v_5)) := fset_at hΦ1
          have hI3 : In G x (ca) Φ2 := In.put (k := 139) hI2 hΦ1 (ok28 (k := 139) rfl ⟨_, rfl⟩)
          refine z_iload_n B dX0_readSets_79 rfl 4 rfl ?_
          exact z_ret_i B dX0_readSets_80 ⟨⟨_, rfl⟩, rfl, hI3, (fun b9 h9 => ((fset_fr hΦ1 (fun h8 => h9 (139) h8 (show (121 ≤ 139 ∧ 139 < 149) by omega))).trans ((hF2 b9 (fun j9 h8 h7 => (show False from h7).elim)).trans ((hF1 b9 (fun j9 h8 h7 => h9 j9 h8 (show (121 ≤ j9 ∧ j9 < 149) by have h6 : (121 ≤ j9 ∧ j9 < 149) := h7; omega))).trans rfl))))⟩
        · obtain ⟨n_3, e_7, e_6, rfl⟩ := nI_ofge (c := 4) (by omega) c_4
          refine z_iload B dX0_readSets_62 0 rfl ?_
          refine z_iload B dX0_readSets_64 1 rfl ?_
          refine z_icmp_le (tgt := 81) B dX0_readSets_66 rfl (fun c_5 => ?_) (fun c_5 => ?_)
          · have e_8 : n_3 ≤ n_1 - i_2 := (nI_leI (a := n_3) (b := n_1 - i_2) (by omega) (by omega)).mp c_5
            refine z_aload_n B dX0_readSets_81 rfl 6 rfl ?_
            refine z_iload B dX0_readSets_82 3 rfl ?_
            refine z_iconst (v := 2) B dX0_readSets_84 rfl ?_
            have h_8 : Φ1 (x + (k)) = some (o_ 7 [.ref (x + (k + 1)), .int (nI n_1)]) := ((hF2 (x + (k)) (fun j9 h8 h7 => (show False from h7).elim)).trans h_2)
            refine z_callV (As := [.int (nI i_2), .int 2]) (rest := []) B (s_X5_intAt G l Φ1 sz x (ca) k (nI i_2) 2 hx hI2 hk_k (show 2 ≤ 8 by omega)) (cwV 2 B.1.2.2.2.2 gX0_readSets_X5_intAt rfl rfl rfl (by decide +kernel) ⟨Nat.le_of_ble_eq_true rfl, Nat.le_of_ble_eq_true rfl⟩) h_8 rfl rfl rfl rfl (Nat.le_of_ble_eq_true rfl) dX0_readSets_85 ⟨Nat.le_of_ble_eq_true rfl, Nat.le_of_ble_eq_true rfl⟩ (fun r_2 Φ3 sz2 st2 hp2 hs2 => ?_)
            obtain ⟨⟨v_6, rfl⟩, hq2, hI4, hF3⟩ := hp2
            subst sz2
            replace hs2 : st2 = [.int v_6] := hs2
            subst st2
            replace hI4 : In G x (ca) Φ3 := hI4
            refine z_istore (lv' := [(8, .int v_6), (7, .int (nI n_3)), (6, .int (nI (n_1 - i_2))), (5, .int (nI i_1)), (4, .int (nI i_2)), (3, .int i_3), (0, .ref (x + 132)), (1, .ref (x + (k))), (2, .int a)]) B dX0_readSets_88 (Nat.le_of_ble_eq_true rfl) rfl ?_
            refine z_iload B dX0_readSets_90 4 rfl ?_
            refine z_iconst (v := 4) B dX0_readSets_92 rfl ?_
            refine z_iadd B dX0_readSets_93 ?_
            refine z_top (st1 := [.int (nI (i_2 + 4))]) (congrArg (fun w9 : Int32 => ([.int w9] : List Value)) (nI_add i_2 4)) ?_
            refine z_istore (lv' := [(9, .int (nI (i_2 + 4))), (8, .int v_6), (7, .int (nI n_3)), (6, .int (nI (n_1 - i_2))), (5, .int (nI i_1)), (4, .int (nI i_2)), (3, .int i_3), (0, .ref (x + 132)), (1, .ref (x + (k))), (2, .int a)]) B dX0_readSets_94 (Nat.le_of_ble_eq_true rfl) rfl ?_
            refine z_iload B dX0_readSets_96 5 rfl ?_
            refine z_iload B dX0_readSets_98 2 rfl ?_
            refine z_iadd B dX0_readSets_100 ?_
            refine z_top (st1 := [.int (nI (i_2 + n_3))]) (congrArg (fun w9 : Int32 => ([.int w9] : List Value)) (nI_add i_2 n_3)) ?_
            refine z_istore (lv' := [(4, .int (nI (i_2 + n_3))), (9, .int (nI (i_2 + 4))), (8, .int v_6), (7, .int (nI n_3)), (6, .int (nI (n_1 - i_2))), (5, .int (nI i_1)), (3, .int i_3), (0, .ref (x + 132)), (1, .ref (x + (k))), (2, .int a)]) B dX0_readSets_101 (Nat.le_of_ble_eq_true rfl) rfl ?_
            refine z_iload B dX0_readSets_103 2 rfl ?_
            refine z_iconst (v := 2) B dX0_readSets_105 rfl ?_
            refine z_icmp_ne (tgt := 122) B dX0_readSets_106 rfl (fun c_6 => ?_) (fun c_6 => ?_)
            · refine z_iload B dX0_readSets_122 2 rfl ?_
              refine z_sipush (v := 256) B dX0_readSets_124 rfl ?_
              refine z_icmp_lt (tgt := 157) B dX0_readSets_127 rfl (fun c_7 => ?_) (fun c_7 => ?_)
              · refine z_iinc (k := 5) (v := nI (i_1 + 1)) (lv' := [(5, .int (nI (i_1 + 1))), (4, .int (nI (i_2 + n_3))), (9, .int (nI (i_2 + 4))), (8, .int v_6), (7, .int (nI n_3)), (6, .int (nI (n_1 - i_2))), (3, .int i_3), (0, .ref (x + 132)), (1, .ref (x + (k))), (2, .int a)]) B dX0_readSets_157 rfl (nI_add i_1 1) (Nat.le_of_ble_eq_true rfl) rfl ?_
                refine z_goto (tgt := 9) B dX0_readSets_160 rfl ?_
                refine z_lv [0, 1, 6, 7, 8, 9] rfl ?_
                exact ih1 (i_1 + 1, i_2 + n_3, i_3) Φ3 (show 701 - (i_1 + 1) < 701 - i_1 by omega) ⟨hI4, (fun b9 h9 => ((hF3 b9 (fun j9 h8 h7 => (show False from h7).elim)).trans ((hF2 b9 (fun j9 h8 h7 => (show False from h7).elim)).trans ((hF1 b9 (fun j9 h8 h7 => h9 j9 h8 (show (121 ≤ j9 ∧ j9 < 149) by have h6 : (121 ≤ j9 ∧ j9 < 149) := h7; omega))).trans rfl)))), (show (i_1 + 1) ≤ 701 by omega), (show (i_2 + n_3) ≤ 700 by omega), trivial⟩
              · obtain ⟨n_4, e_10, e_9, rfl⟩ := nI_ofge (c := 256) (by omega) c_7
                refine z_iload B dX0_readSets_130 2 rfl ?_
                refine z_sipush (v := 260) B dX0_readSets_132 rfl ?_
                refine z_icmp_ge (tgt := 157) B dX0_readSets_135 rfl (fun c_8 => ?_) (fun c_8 => ?_)
                · have e_11 : 260 ≤ n_4 := (nI_leI (a := 260) (b := n_4) (by omega) (by omega)).mp c_8
                  refine z_iinc (k := 5) (v := nI (i_1 + 1)) (lv' := [(5, .int (nI (i_1 + 1))), (4, .int (nI (i_2 + n_3))), (9, .int (nI (i_2 + 4))), (8, .int (nI n_4)), (7, .int (nI n_3)), (6, .int (nI (n_1 - i_2))), (3, .int i_3), (0, .ref (x + 132)), (1, .ref (x + (k))), (2, .int a)]) B dX0_readSets_157 rfl (nI_add i_1 1) (Nat.le_of_ble_eq_true rfl) rfl ?_
                  refine z_goto (tgt := 9) B dX0_readSets_160 rfl ?_
                  refine z_lv [0, 1, 6, 7, 8, 9] rfl ?_
                  exact ih1 (i_1 + 1, i_2 + n_3, i_3) Φ3 (show 701 - (i_1 + 1) < 701 - i_1 by omega) ⟨hI4, (fun b9 h9 => ((hF3 b9 (fun j9 h8 h7 => (show False from h7).elim)).trans ((hF2 b9 (fun j9 h8 h7 => (show False from h7).elim)).trans ((hF1 b9 (fun j9 h8 h7 => h9 j9 h8 (show (121 ≤ j9 ∧ j9 < 149) by have h6 : (121 ≤ j9 ∧ j9 < 149) := h7; omega))).trans rfl)))), (show (i_1 + 1) ≤ 701 by omega), (show (i_2 + n_3) ≤ 700 by omega), trivial⟩
                · have e_12 : ¬ (260 ≤ n_4) := fun h9 => c_8 ((nI_leI (a := 260) (b := n_4) (by omega) (by omega)).mpr h9)
                  refine z_iload_n B dX0_readSets_138 rfl 6 rfl ?_
                  refine z_aload_n B dX0_readSets_139 rfl 7 rfl ?_
                  refine z_aload_n B dX0_readSets_140 rfl 8 rfl ?_
                  refine z_iload B dX0_readSets_141 1 rfl ?_
                  refine z_iload B dX0_readSets_143 0 rfl ?_
                  refine z_iload B dX0_readSets_145 2 rfl ?_
                  refine z_sipush (v := 256) B dX0_readSets_147 rfl ?_
                  refine z_isub B dX0_readSets_150 ?_
                  refine z_top (st1 := [.int (nI (n_4 - 256)), .int (nI (i_2 + n_3)), .int (nI (i_2 + 4)), .ref (x + (k)), .ref (x + 132), .int i_3]) (congrArg (fun w9 : Int32 => ([.int w9, .int (nI (i_2 + n_3)), .int (nI (i_2 + 4)), .ref (x + (k)), .ref (x + 132), .int i_3] : List Value)) (nI_sub (show 256 ≤ n_4 by omega))) ?_
                  refine z_iload_n B dX0_readSets_151 rfl 9 rfl ?_
                  obtain ⟨n_5, v_7, v_8, h_9, b_6⟩ := in25 (k := 132) hI4 rfl
                  have h_10 : Φ3 (x + 132) = some (o_ 2 [.ref (x + 3), .ref (x + 121), .ref (x + 133), .ref (x + 134), .ref (x + 135), .ref (x + 137), .ref (x + 138), .ref (x + 139), .ref (x + 140), .int (nI n_5), .int v_7, .int v_8]) := h_9
                  refine z_callV (As := [.ref (x + (k)), .int (nI (i_2 + 4)), .int (nI (i_2 + n_3)), .int (nI (n_4 - 256)), .int a]) (rest := [.int i_3]) B (s_X0_readData G l Φ3 sz x (ca) k (i_2 + 4) (i_2 + n_3) (nI (n_4 - 256)) a hx hI4 hk_k (show (i_2 + 4) ≤ (i_2 + n_3) by omega) (show (i_2 + n_3) ≤ 700 by omega)) (cwV 5 B.1.2.2.2.2 gX0_readSets_X0_readData rfl rfl rfl (by decide +kernel) ⟨Nat.le_of_ble_eq_true rfl, Nat.le_of_ble_eq_true rfl⟩) h_10 rfl rfl rfl rfl (Nat.le_of_ble_eq_true rfl) dX0_readSets_152 ⟨Nat.le_of_ble_eq_true rfl, Nat.le_of_ble_eq_true rfl⟩ (fun r_3 Φ4 sz3 st3 hp3 hs3 => ?_)
                  obtain ⟨⟨v_9, rfl⟩, hq3, hI5, hF4⟩ := hp3
                  subst sz3
                  replace hs3 : st3 = [.int v_9, .int i_3] := hs3
                  subst st3
                  replace hI5 : In G x (ca) Φ4 := hI5
                  refine z_iadd B dX0_readSets_155 ?_
                  refine z_fi (fun v_10 => ?_)
                  refine z_istore_n (lv' := [(3, .int v_10), (4, .int (nI (i_2 + n_3))), (9, .int (nI (i_2 + 4))), (8, .int (nI n_4)), (7, .int (nI n_3)), (6, .int (nI (n_1 - i_2))), (5, .int (nI i_1)), (0, .ref (x + 132)), (1, .ref (x + (k))), (2, .int a)]) B dX0_readSets_156 rfl (Nat.le_of_ble_eq_true rfl) rfl ?_
                  refine z_iinc (k := 6) (v := nI (i_1 + 1)) (lv' := [(5, .int (nI (i_1 + 1))), (3, .int v_10), (4, .int (nI (i_2 + n_3))), (9, .int (nI (i_2 + 4))), (8, .int (nI n_4)), (7, .int (nI n_3)), (6, .int (nI (n_1 - i_2))), (0, .ref (x + 132)), (1, .ref (x + (k))), (2, .int a)]) B dX0_readSets_157 rfl (nI_add i_1 1) (Nat.le_of_ble_eq_true rfl) rfl ?_
                  refine z_goto (tgt := 9) B dX0_readSets_160 rfl ?_
                  refine z_lv [0, 2, 1, 7, 8, 9] rfl ?_
                  exact ih1 (i_1 + 1, i_2 + n_3, v_10) Φ4 (show 701 - (i_1 + 1) < 701 - i_1 by omega) ⟨hI5, (fun b9 h9 => ((hF4 b9 (fun j9 h8 h7 => h9 j9 h8 (show (121 ≤ j9 ∧ j9 < 149) by have h6 : (121 ≤ j9 ∧ j9 < 133) ∨ (139 ≤ j9 ∧ j9 < 141) := h7; omega))).trans ((hF3 b9 (fun j9 h8 h7 => (show False from h7).elim)).trans ((hF2 b9 (fun j9 h8 h7 => (show False from h7).elim)).trans ((hF1 b9 (fun j9 h8 h7 => h9 j9 h8 (show (121 ≤ j9 ∧ j9 < 149) by have h6 : (121 ≤ j9 ∧ j9 < 149) := h7; omega))).trans rfl))))), (show (i_1 + 1) ≤ 701 by omega), (show (i_2 + n_3) ≤ 700 by omega), trivial⟩
            · refine z_aload_n B dX0_readSets_109 rfl 7 rfl ?_
              refine z_aload_n B dX0_readSets_110 rfl 8 rfl ?_
              refine z_iload B dX0_readSets_111 1 rfl ?_
              refine z_iload B dX0_readSets_113 0 rfl ?_
              refine z_iload_n B dX0_readSets_115 rfl 9 rfl ?_
              obtain ⟨n_6, v_11, v_12, h_11, b_7⟩ := in25 (k := 132) hI4 rfl
              have h_12 : Φ3 (x + 132) = some (o_ 2 [.ref (x + 3), .ref (x + 121), .ref (x + 133), .ref (x + 134), .ref (x + 135), .ref (x + 137), .ref (x + 138), .ref (x + 139), .ref (x + 140), .int (nI n_6), .int v_11, .int v_12]) := h_11
              refine z_callV (As := [.ref (x + (k)), .int (nI (i_2 + 4)), .int (nI (i_2 + n_3)), .int a]) (rest := []) B (s_X0_readTemplates G l Φ3 sz x (ca) k (nI (i_2 + 4)) (nI (i_2 + n_3)) a hx hI4 hk_k) (cwV 4 B.1.2.2.2.2 gX0_readSets_X0_readTemplates rfl rfl rfl (by decide +kernel) ⟨Nat.le_of_ble_eq_true rfl, Nat.le_of_ble_eq_true rfl⟩) h_12 rfl rfl rfl rfl (Nat.le_of_ble_eq_true rfl) dX0_readSets_116 ⟨Nat.le_of_ble_eq_true rfl, Nat.le_of_ble_eq_true rfl⟩ (fun r_4 Φ5 sz4 st4 hp4 hs4 => ?_)
              obtain ⟨rfl, hq4, hI6, hF5⟩ := hp4
              subst sz4
              replace hs4 : st4 = [] := hs4
              subst st4
              replace hI6 : In G x (ca) Φ5 := hI6
              refine z_goto (tgt := 157) B dX0_readSets_119 rfl ?_
              refine z_iinc (k := 5) (v := nI (i_1 + 1)) (lv' := [(5, .int (nI (i_1 + 1))), (4, .int (nI (i_2 + n_3))), (9, .int (nI (i_2 + 4))), (8, .int v_6), (7, .int (nI n_3)), (6, .int (nI (n_1 - i_2))), (3, .int i_3), (0, .ref (x + 132)), (1, .ref (x + (k))), (2, .int a)]) B dX0_readSets_157 rfl (nI_add i_1 1) (Nat.le_of_ble_eq_true rfl) rfl ?_
              refine z_goto (tgt := 9) B dX0_readSets_160 rfl ?_
              refine z_lv [0, 1, 6, 7, 8, 9] rfl ?_
              exact ih1 (i_1 + 1, i_2 + n_3, i_3) Φ5 (show 701 - (i_1 + 1) < 701 - i_1 by omega) ⟨hI6, (fun b9 h9 => ((hF5 b9 (fun j9 h8 h7 => h9 j9 h8 (show (121 ≤ j9 ∧ j9 < 149) by have h6 : (134 ≤ j9 ∧ j9 < 137) ∨ (141 ≤ j9 ∧ j9 < 149) := h7; omega))).trans ((hF3 b9 (fun j9 h8 h7 => (show False from h7).elim)).trans ((hF2 b9 (fun j9 h8 h7 => (show False from h7).elim)).trans ((hF1 b9 (fun j9 h8 h7 => h9 j9 h8 (show (121 ≤ j9 ∧ j9 < 149) by have h6 : (121 ≤ j9 ∧ j9 < 149) := h7; omega))).trans rfl))))), (show (i_1 + 1) ≤ 701 by omega), (show (i_2 + n_3) ≤ 700 by omega), trivial⟩
          · have e_13 : ¬ (n_3 ≤ n_1 - i_2) := fun h9 => c_5 ((nI_leI (a := n_3) (b := n_1 - i_2) (by omega) (by omega)).mpr h9)
            refine z_aload_n B dX0_readSets_69 rfl 5 rfl ?_
            obtain ⟨n_7, v_13, v_14, h_13, b_8⟩ := in25 (k := 132) hI2 rfl
            have h_14 : Φ1 (x + 132) = some (o_ 2 [.ref (x + 3), .ref (x + 121), .ref (x + 133), .ref (x + 134), .ref (x + 135), .ref (x + 137), .ref (x + 138), .ref (x + 139), .ref (x + 140), .int (nI n_7), .int v_13, .int v_14]) := h_13
            refine z_get (ref := "FlowExporter$Collector") (C := RX0) (T := TX0) (N := 12) (ci := 2) (v := .ref (x + 139)) B (by decide +kernel) rfl 7 (by decide) (by decide +kernel) rfl h_14 rfl dX0_readSets_70 ?_
            refine z_iconst (v := 4) B dX0_readSets_73 rfl ?_
            refine z_dup2_11 B dX0_readSets_74 rfl rfl ?_
            obtain ⟨f_2, h_15⟩ := in28 (k := 139) hI2 rfl
            have h_16 : Φ1 (x + 139) = some (al_ G 9 f_2) := h_15
            refine z_lald B h_16 (vin rfl) dX0_readSets_75 ?_
            refine z_fl (fun v_15 => ?_)
            refine z_lconst (v := 1) B dX0_readSets_76 rfl ?_
            refine z_ladd B dX0_readSets_77 ?_
            refine z_fl (fun v_16 => ?_)
            refine z_last B h_16 (Nat.le_trans hx (Nat.le_add_right x 139)) (vin rfl) dX0_readSets_78 (fun Φ6 hΦ2 => ?_)
            have h_17 : Φ6 (x + 139) = some (al_ G 9 (vp_updL f_2 (4 : Int32).toNatClampNeg v_16)) := fset_at hΦ2
            have hI7 : In G x (ca) Φ6 := In.put (k := 139) hI2 hΦ2 (ok28 (k := 139) rfl ⟨_, rfl⟩)
            refine z_iload_n B dX0_readSets_79 rfl 4 rfl ?_
            exact z_ret_i B dX0_readSets_80 ⟨⟨_, rfl⟩, rfl, hI7, (fun b9 h9 => ((fset_fr hΦ2 (fun h8 => h9 (139) h8 (show (121 ≤ 139 ∧ 139 < 149) by omega))).trans ((hF2 b9 (fun j9 h8 h7 => (show False from h7).elim)).trans ((hF1 b9 (fun j9 h8 h7 => h9 j9 h8 (show (121 ≤ j9 ∧ j9 < 149) by have h6 : (121 ≤ j9 ∧ j9 < 149) := h7; omega))).trans rfl))))⟩
      · have e_14 : ¬ (4 ≤ n_1 - i_2) := fun h9 => c_3 ((nI_leI (a := 4) (b := n_1 - i_2) (by omega) (by omega)).mpr h9)
        refine z_iconst (v := 0) B dX0_readSets_41 rfl ?_
        refine z_goto (tgt := 54) B dX0_readSets_42 rfl ?_
        refine z_istore (lv' := [(7, .int 0), (6, .int (nI (n_1 - i_2))), (5, .int (nI i_1)), (4, .int (nI i_2)), (3, .int i_3), (0, .ref (x + 132)), (1, .ref (x + (k))), (2, .int a)]) B dX0_readSets_54 (Nat.le_of_ble_eq_true rfl) rfl ?_
        refine z_iload B dX0_readSets_56 0 rfl ?_
        refine z_iconst (v := 4) B dX0_readSets_58 rfl ?_
        refine z_icmp_lt (tgt := 69) B dX0_readSets_59 rfl (fun c_9 => ?_) (fun h9 => absurd (by decide) h9)
        refine z_aload_n B dX0_readSets_69 rfl 5 rfl ?_
        obtain ⟨n_8, v_17, v_18, h_18, b_9⟩ := in25 (k := 132) hI1 rfl
        have h_19 : Φl1 (x + 132) = some (o_ 2 [.ref (x + 3), .ref (x + 121), .ref (x + 133), .ref (x + 134), .ref (x + 135), .ref (x + 137), .ref (x + 138), .ref (x + 139), .ref (x + 140), .int (nI n_8), .int v_17, .int v_18]) := h_18
        refine z_get (ref := "FlowExporter$Collector") (C := RX0) (T := TX0) (N := 12) (ci := 2) (v := .ref (x + 139)) B (by decide +kernel) rfl 7 (by decide) (by decide +kernel) rfl h_19 rfl dX0_readSets_70 ?_
        refine z_iconst (v := 4) B dX0_readSets_73 rfl ?_
        refine z_dup2_11 B dX0_readSets_74 rfl rfl ?_
        obtain ⟨f_3, h_20⟩ := in28 (k := 139) hI1 rfl
        have h_21 : Φl1 (x + 139) = some (al_ G 9 f_3) := h_20
        refine z_lald B h_21 (vin rfl) dX0_readSets_75 ?_
        refine z_fl (fun v_19 => ?_)
        refine z_lconst (v := 1) B dX0_readSets_76 rfl ?_
        refine z_ladd B dX0_readSets_77 ?_
        refine z_fl (fun v_20 => ?_)
        refine z_last B h_21 (Nat.le_trans hx (Nat.le_add_right x 139)) (vin rfl) dX0_readSets_78 (fun Φ7 hΦ3 => ?_)
        have h_22 : Φ7 (x + 139) = some (al_ G 9 (vp_updL f_3 (4 : Int32).toNatClampNeg v_20)) := fset_at hΦ3
        have hI8 : In G x (ca) Φ7 := In.put (k := 139) hI1 hΦ3 (ok28 (k := 139) rfl ⟨_, rfl⟩)
        refine z_iload_n B dX0_readSets_79 rfl 4 rfl ?_
        exact z_ret_i B dX0_readSets_80 ⟨⟨_, rfl⟩, rfl, hI8, (fun b9 h9 => ((fset_fr hΦ3 (fun h8 => h9 (139) h8 (show (121 ≤ 139 ∧ 139 < 149) by omega))).trans ((hF1 b9 (fun j9 h8 h7 => h9 j9 h8 (show (121 ≤ j9 ∧ j9 < 149) by have h6 : (121 ≤ j9 ∧ j9 < 149) := h7; omega))).trans rfl)))⟩

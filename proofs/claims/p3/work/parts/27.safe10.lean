set_option maxHeartbeats 4000000 in
set_option maxRecDepth 100000 in
theorem s_X0_take (G : EnvG) (l : Launch) (Φ : Hm) (sz x ca : Nat) (k : Nat) (a : Int32) (hx : G.2.2.2 ≤ x) (hI : In G x ca Φ) (hk_k : kd k = 1) (hca : ca < 1000000) : Ct G l yX0_take wsX0_take ({ frames := 5, cells := 0, slots := 0, locals := 132 }) 0 0 [.ref (x + 132), .ref (x + (k)), .int a] Φ sz (fun v Φ1 sz1 => (∃ r9 : Int32, v = some (.int r9)) ∧ sz1 = sz ∧ In G x (ca + 1) Φ1 ∧ Fr x (fun j9 => (121 ≤ j9 ∧ j9 < 149)) Φ Φ1) := by
  refine Ct.of (cc := cX0_take) (maxL := 5) (ret := (some .int)) (by decide) rfl (Nat.le_of_ble_eq_true rfl) ?_
  intro p9 e9 s9 m9 w9 t9 k9 B
  show Z p9 l e9 _ s9 m9 _ w9 t9 k9 _ G 5 0 [(0, .ref (x + 132)), (1, .ref (x + (k))), (2, .int a)] [] Φ sz 0 0
  refine z_aload_n B dX0_take_0 rfl 0 rfl ?_
  obtain ⟨n_1, v_1, v_2, h_1, b_1⟩ := in25 (k := 132) hI rfl
  have h_2 : Φ (x + 132) = some (o_ 2 [.ref (x + 3), .ref (x + 121), .ref (x + 133), .ref (x + 134), .ref (x + 135), .ref (x + 137), .ref (x + 138), .ref (x + 139), .ref (x + 140), .int (nI n_1), .int v_1, .int v_2]) := h_1
  refine z_get (ref := "FlowExporter$Collector") (C := RX0) (T := TX0) (N := 12) (ci := 2) (v := .ref (x + 139)) B (by decide +kernel) rfl 7 (by decide) (by decide +kernel) rfl h_2 rfl dX0_take_1 ?_
  refine z_bipush (v := 8) B dX0_take_4 rfl ?_
  refine z_dup2_11 B dX0_take_6 rfl rfl ?_
  obtain ⟨f_1, h_3⟩ := in28 (k := 139) hI rfl
  have h_4 : Φ (x + 139) = some (al_ G 9 f_1) := h_3
  refine z_lald B h_4 (vin rfl) dX0_take_7 ?_
  refine z_fl (fun v_3 => ?_)
  refine z_lconst (v := 1) B dX0_take_8 rfl ?_
  refine z_ladd B dX0_take_9 ?_
  refine z_fl (fun v_4 => ?_)
  refine z_last B h_4 (Nat.le_trans hx (Nat.le_add_right x 139)) (vin rfl) dX0_take_10 (fun Φ1 hΦ1 => ?_)
  have h_5 : Φ1 (x + 139) = some (al_ G 9 (vp_updL f_1 (8 : Int32).toNatClampNeg v_4)) := fset_at hΦ1
  have hI1 : In G x (ca) Φ1 := In.put (k := 139) hI hΦ1 (ok28 (k := 139) rfl ⟨_, rfl⟩)
  refine z_aload_n B dX0_take_11 rfl 1 rfl ?_
  obtain ⟨n_2, h_6, b_2⟩ := in1 (k := k) hI1 hk_k
  replace b_2 : n_2 ≤ cap (k) := b_2
  have b_3 := cap_le (k)
  have h_7 : Φ1 (x + (k)) = some (o_ 7 [.ref (x + (k + 1)), .int (nI n_2)]) := h_6
  refine z_get (ref := "FlowExporter$Message") (C := RX5) (T := TX5) (N := 2) (ci := 7) (v := .int (nI n_2)) B (by decide +kernel) rfl 1 (by decide) (by decide +kernel) rfl h_7 rfl dX0_take_12 ?_
  refine z_bipush (v := 16) B dX0_take_15 rfl ?_
  refine z_icmp_lt (tgt := 44) B dX0_take_17 rfl (fun c_1 => ?_) (fun c_1 => ?_)
  · have e_1 : n_2 < 16 := (nI_ltI (a := n_2) (b := 16) (by omega) (by omega)).mp c_1
    refine z_aload_n B dX0_take_44 rfl 0 rfl ?_
    have h_8 : Φ1 (x + 132) = some (o_ 2 [.ref (x + 3), .ref (x + 121), .ref (x + 133), .ref (x + 134), .ref (x + 135), .ref (x + 137), .ref (x + 138), .ref (x + 139), .ref (x + 140), .int (nI n_1), .int v_1, .int v_2]) := ((fset_fr hΦ1 (ne_off (x := x) (i := 132) (j := 139) rfl)).trans h_2)
    refine z_get (ref := "FlowExporter$Collector") (C := RX0) (T := TX0) (N := 12) (ci := 2) (v := .ref (x + 139)) B (by decide +kernel) rfl 7 (by decide) (by decide +kernel) rfl h_8 rfl dX0_take_45 ?_
    refine z_iconst (v := 4) B dX0_take_48 rfl ?_
    refine z_dup2_11 B dX0_take_49 rfl rfl ?_
    obtain ⟨f_2, h_9⟩ := in28 (k := 139) hI1 rfl
    have h_10 : Φ1 (x + 139) = some (al_ G 9 f_2) := h_9
    refine z_lald B h_10 (vin rfl) dX0_take_50 ?_
    refine z_fl (fun v_5 => ?_)
    refine z_lconst (v := 1) B dX0_take_51 rfl ?_
    refine z_ladd B dX0_take_52 ?_
    refine z_fl (fun v_6 => ?_)
    refine z_last B h_10 (Nat.le_trans hx (Nat.le_add_right x 139)) (vin rfl) dX0_take_53 (fun Φ2 hΦ2 => ?_)
    have h_11 : Φ2 (x + 139) = some (al_ G 9 (vp_updL f_2 (4 : Int32).toNatClampNeg v_6)) := fset_at hΦ2
    have hI2 : In G x (ca) Φ2 := In.put (k := 139) hI1 hΦ2 (ok28 (k := 139) rfl ⟨_, rfl⟩)
    refine z_iconst (v := 0) B dX0_take_54 rfl ?_
    exact z_ret_i B dX0_take_55 ⟨⟨_, rfl⟩, rfl, (In.mono hI2 (by omega)), (fun b9 h9 => ((fset_fr hΦ2 (fun h8 => h9 (139) h8 (show (121 ≤ 139 ∧ 139 < 149) by omega))).trans ((fset_fr hΦ1 (fun h8 => h9 (139) h8 (show (121 ≤ 139 ∧ 139 < 149) by omega))).trans rfl)))⟩
  · have e_2 : ¬ (n_2 < 16) := fun h9 => c_1 ((nI_ltI (a := n_2) (b := 16) (by omega) (by omega)).mpr h9)
    refine z_aload_n B dX0_take_20 rfl 1 rfl ?_
    refine z_iconst (v := 0) B dX0_take_21 rfl ?_
    refine z_iconst (v := 2) B dX0_take_22 rfl ?_
    refine z_callV (As := [.int 0, .int 2]) (rest := []) B (s_X5_intAt G l Φ1 sz x (ca) k 0 2 hx hI1 hk_k (show 2 ≤ 8 by omega)) (cwV 2 B.1.2.2.2.2 gX0_take_X5_intAt rfl rfl rfl (by decide +kernel) ⟨Nat.le_of_ble_eq_true rfl, Nat.le_of_ble_eq_true rfl⟩) h_7 rfl rfl rfl rfl (Nat.le_of_ble_eq_true rfl) dX0_take_23 ⟨Nat.le_of_ble_eq_true rfl, Nat.le_of_ble_eq_true rfl⟩ (fun r_1 Φ3 sz1 st1 hp1 hs1 => ?_)
    obtain ⟨⟨v_7, rfl⟩, hq1, hI3, hF1⟩ := hp1
    subst sz1
    replace hs1 : st1 = [.int v_7] := hs1
    subst st1
    replace hI3 : In G x (ca) Φ3 := hI3
    refine z_bipush (v := 10) B dX0_take_26 rfl ?_
    refine z_icmp_ne (tgt := 44) B dX0_take_28 rfl (fun c_2 => ?_) (fun c_2 => ?_)
    · refine z_aload_n B dX0_take_44 rfl 0 rfl ?_
      have h_12 : Φ3 (x + 132) = some (o_ 2 [.ref (x + 3), .ref (x + 121), .ref (x + 133), .ref (x + 134), .ref (x + 135), .ref (x + 137), .ref (x + 138), .ref (x + 139), .ref (x + 140), .int (nI n_1), .int v_1, .int v_2]) := ((hF1 (x + 132) (fun j9 h8 h7 => (show False from h7).elim)).trans ((fset_fr hΦ1 (ne_off (x := x) (i := 132) (j := 139) rfl)).trans h_2))
      refine z_get (ref := "FlowExporter$Collector") (C := RX0) (T := TX0) (N := 12) (ci := 2) (v := .ref (x + 139)) B (by decide +kernel) rfl 7 (by decide) (by decide +kernel) rfl h_12 rfl dX0_take_45 ?_
      refine z_iconst (v := 4) B dX0_take_48 rfl ?_
      refine z_dup2_11 B dX0_take_49 rfl rfl ?_
      obtain ⟨f_3, h_13⟩ := in28 (k := 139) hI3 rfl
      have h_14 : Φ3 (x + 139) = some (al_ G 9 f_3) := h_13
      refine z_lald B h_14 (vin rfl) dX0_take_50 ?_
      refine z_fl (fun v_8 => ?_)
      refine z_lconst (v := 1) B dX0_take_51 rfl ?_
      refine z_ladd B dX0_take_52 ?_
      refine z_fl (fun v_9 => ?_)
      refine z_last B h_14 (Nat.le_trans hx (Nat.le_add_right x 139)) (vin rfl) dX0_take_53 (fun Φ4 hΦ3 => ?_)
      have h_15 : Φ4 (x + 139) = some (al_ G 9 (vp_updL f_3 (4 : Int32).toNatClampNeg v_9)) := fset_at hΦ3
      have hI4 : In G x (ca) Φ4 := In.put (k := 139) hI3 hΦ3 (ok28 (k := 139) rfl ⟨_, rfl⟩)
      refine z_iconst (v := 0) B dX0_take_54 rfl ?_
      exact z_ret_i B dX0_take_55 ⟨⟨_, rfl⟩, rfl, (In.mono hI4 (by omega)), (fun b9 h9 => ((fset_fr hΦ3 (fun h8 => h9 (139) h8 (show (121 ≤ 139 ∧ 139 < 149) by omega))).trans ((hF1 b9 (fun j9 h8 h7 => (show False from h7).elim)).trans ((fset_fr hΦ1 (fun h8 => h9 (139) h8 (show (121 ≤ 139 ∧ 139 < 149) by omega))).trans rfl))))⟩
    · refine z_aload_n B dX0_take_31 rfl 1 rfl ?_
      refine z_iconst (v := 2) B dX0_take_32 rfl ?_
      refine z_iconst (v := 2) B dX0_take_33 rfl ?_
      have h_16 : Φ3 (x + (k)) = some (o_ 7 [.ref (x + (k + 1)), .int (nI n_2)]) := ((hF1 (x + (k)) (fun j9 h8 h7 => (show False from h7).elim)).trans h_7)
      refine z_callV (As := [.int 2, .int 2]) (rest := []) B (s_X5_intAt G l Φ3 sz x (ca) k 2 2 hx hI3 hk_k (show 2 ≤ 8 by omega)) (cwV 2 B.1.2.2.2.2 gX0_take_X5_intAt rfl rfl rfl (by decide +kernel) ⟨Nat.le_of_ble_eq_true rfl, Nat.le_of_ble_eq_true rfl⟩) h_16 rfl rfl rfl rfl (Nat.le_of_ble_eq_true rfl) dX0_take_34 ⟨Nat.le_of_ble_eq_true rfl, Nat.le_of_ble_eq_true rfl⟩ (fun r_2 Φ5 sz2 st2 hp2 hs2 => ?_)
      obtain ⟨⟨v_10, rfl⟩, hq2, hI5, hF2⟩ := hp2
      subst sz2
      replace hs2 : st2 = [.int v_10] := hs2
      subst st2
      replace hI5 : In G x (ca) Φ5 := hI5
      refine z_aload_n B dX0_take_37 rfl 1 rfl ?_
      have h_17 : Φ5 (x + (k)) = some (o_ 7 [.ref (x + (k + 1)), .int (nI n_2)]) := ((hF2 (x + (k)) (fun j9 h8 h7 => (show False from h7).elim)).trans h_16)
      refine z_get (ref := "FlowExporter$Message") (C := RX5) (T := TX5) (N := 2) (ci := 7) (v := .int (nI n_2)) B (by decide +kernel) rfl 1 (by decide) (by decide +kernel) rfl h_17 rfl dX0_take_38 ?_
      refine z_icmp_eq (tgt := 56) B dX0_take_41 rfl (fun c_3 => ?_) (fun c_3 => ?_)
      · refine z_aload_n B dX0_take_56 rfl 1 rfl ?_
        refine z_iconst (v := 4) B dX0_take_57 rfl ?_
        refine z_iconst (v := 4) B dX0_take_58 rfl ?_
        refine z_callV (As := [.int 4, .int 4]) (rest := []) B (s_X5_intAt G l Φ5 sz x (ca) k 4 4 hx hI5 hk_k (show 4 ≤ 8 by omega)) (cwV 2 B.1.2.2.2.2 gX0_take_X5_intAt rfl rfl rfl (by decide +kernel) ⟨Nat.le_of_ble_eq_true rfl, Nat.le_of_ble_eq_true rfl⟩) h_17 rfl rfl rfl rfl (Nat.le_of_ble_eq_true rfl) dX0_take_59 ⟨Nat.le_of_ble_eq_true rfl, Nat.le_of_ble_eq_true rfl⟩ (fun r_3 Φ6 sz3 st3 hp3 hs3 => ?_)
        obtain ⟨⟨v_11, rfl⟩, hq3, hI6, hF3⟩ := hp3
        subst sz3
        replace hs3 : st3 = [.int v_11] := hs3
        subst st3
        replace hI6 : In G x (ca) Φ6 := hI6
        refine z_istore_n (lv' := [(3, .int v_11), (0, .ref (x + 132)), (1, .ref (x + (k))), (2, .int a)]) B dX0_take_62 rfl (Nat.le_of_ble_eq_true rfl) rfl ?_
        refine z_aload_n B dX0_take_63 rfl 2 rfl ?_
        refine z_bipush (v := 8) B dX0_take_64 rfl ?_
        refine z_iconst (v := 4) B dX0_take_66 rfl ?_
        have h_18 : Φ6 (x + (k)) = some (o_ 7 [.ref (x + (k + 1)), .int (nI n_2)]) := ((hF3 (x + (k)) (fun j9 h8 h7 => (show False from h7).elim)).trans h_17)
        refine z_callV (As := [.int 8, .int 4]) (rest := []) B (s_X5_intAt G l Φ6 sz x (ca) k 8 4 hx hI6 hk_k (show 4 ≤ 8 by omega)) (cwV 2 B.1.2.2.2.2 gX0_take_X5_intAt rfl rfl rfl (by decide +kernel) ⟨Nat.le_of_ble_eq_true rfl, Nat.le_of_ble_eq_true rfl⟩) h_18 rfl rfl rfl rfl (Nat.le_of_ble_eq_true rfl) dX0_take_67 ⟨Nat.le_of_ble_eq_true rfl, Nat.le_of_ble_eq_true rfl⟩ (fun r_4 Φ7 sz4 st4 hp4 hs4 => ?_)
        obtain ⟨⟨v_12, rfl⟩, hq4, hI7, hF4⟩ := hp4
        subst sz4
        replace hs4 : st4 = [.int v_12] := hs4
        subst st4
        replace hI7 : In G x (ca) Φ7 := hI7
        refine z_istore (lv' := [(4, .int v_12), (3, .int v_11), (0, .ref (x + 132)), (1, .ref (x + (k))), (2, .int a)]) B dX0_take_70 (Nat.le_of_ble_eq_true rfl) rfl ?_
        refine z_aload_n B dX0_take_72 rfl 2 rfl ?_
        refine z_iload B dX0_take_73 0 rfl ?_
        refine z_iload_n B dX0_take_75 rfl 1 rfl ?_
        have h_19 : Φ7 (x + 132) = some (o_ 2 [.ref (x + 3), .ref (x + 121), .ref (x + 133), .ref (x + 134), .ref (x + 135), .ref (x + 137), .ref (x + 138), .ref (x + 139), .ref (x + 140), .int (nI n_1), .int v_1, .int v_2]) := ((hF4 (x + 132) (fun j9 h8 h7 => (show False from h7).elim)).trans ((hF3 (x + 132) (fun j9 h8 h7 => (show False from h7).elim)).trans ((hF2 (x + 132) (fun j9 h8 h7 => (show False from h7).elim)).trans ((hF1 (x + 132) (fun j9 h8 h7 => (show False from h7).elim)).trans ((fset_fr hΦ1 (ne_off (x := x) (i := 132) (j := 139) rfl)).trans h_2)))))
        refine z_callV (As := [.int v_12, .int v_11]) (rest := []) B (s_X0_isRecent G l Φ7 sz x (ca) v_12 v_11 hx hI7 (show ca < 1000000 by omega)) (cwV 2 B.1.2.2.2.2 gX0_take_X0_isRecent rfl rfl rfl (by decide +kernel) ⟨Nat.le_of_ble_eq_true rfl, Nat.le_of_ble_eq_true rfl⟩) h_19 rfl rfl rfl rfl (Nat.le_of_ble_eq_true rfl) dX0_take_76 ⟨Nat.le_of_ble_eq_true rfl, Nat.le_of_ble_eq_true rfl⟩ (fun r_5 Φ8 sz5 st5 hp5 hs5 => ?_)
        obtain ⟨⟨v_13, rfl, b_4⟩, hq5, hI8, hF5⟩ := hp5
        subst sz5
        replace hs5 : st5 = [.int v_13] := hs5
        subst st5
        replace hI8 : In G x (ca) Φ8 := hI8
        refine z_if_eq (tgt := 94) B dX0_take_79 rfl (fun c_4 => ?_) (fun c_4 => ?_)
        · refine z_aload_n B dX0_take_94 rfl 2 rfl ?_
          refine z_iload B dX0_take_95 0 rfl ?_
          refine z_iload_n B dX0_take_97 rfl 1 rfl ?_
          refine z_iconst (v := 0) B dX0_take_98 rfl ?_
          refine z_aload_n B dX0_take_99 rfl 3 rfl ?_
          refine z_bipush (v := 12) B dX0_take_100 rfl ?_
          refine z_iconst (v := 4) B dX0_take_102 rfl ?_
          have h_20 : Φ8 (x + (k)) = some (o_ 7 [.ref (x + (k + 1)), .int (nI n_2)]) := ((hF5 (x + (k)) (fun j9 h8 h7 => (show False from h7).elim)).trans ((hF4 (x + (k)) (fun j9 h8 h7 => (show False from h7).elim)).trans h_18))
          refine z_callV (As := [.int 12, .int 4]) (rest := [.int 0, .int v_11, .int v_12, .ref (x + 132)]) B (s_X5_intAt G l Φ8 sz x (ca) k 12 4 hx hI8 hk_k (show 4 ≤ 8 by omega)) (cwV 2 B.1.2.2.2.2 gX0_take_X5_intAt rfl rfl rfl (by decide +kernel) ⟨Nat.le_of_ble_eq_true rfl, Nat.le_of_ble_eq_true rfl⟩) h_20 rfl rfl rfl rfl (Nat.le_of_ble_eq_true rfl) dX0_take_103 ⟨Nat.le_of_ble_eq_true rfl, Nat.le_of_ble_eq_true rfl⟩ (fun r_6 Φ9 sz6 st6 hp6 hs6 => ?_)
          obtain ⟨⟨v_14, rfl⟩, hq6, hI9, hF6⟩ := hp6
          subst sz6
          replace hs6 : st6 = [.int v_14, .int 0, .int v_11, .int v_12, .ref (x + 132)] := hs6
          subst st6
          replace hI9 : In G x (ca) Φ9 := hI9
          refine z_mmax B (by decide +kernel) (by decide +kernel) (by decide +kernel) (by decide +kernel) rfl ⟨Nat.le_of_ble_eq_true rfl, Nat.le_of_ble_eq_true rfl⟩ ⟨Nat.le_of_ble_eq_true rfl, Nat.le_of_ble_eq_true rfl⟩ dX0_take_106 ?_
          refine z_fi (fun v_15 => ?_)
          have h_21 : Φ9 (x + 132) = some (o_ 2 [.ref (x + 3), .ref (x + 121), .ref (x + 133), .ref (x + 134), .ref (x + 135), .ref (x + 137), .ref (x + 138), .ref (x + 139), .ref (x + 140), .int (nI n_1), .int v_1, .int v_2]) := ((hF6 (x + 132) (fun j9 h8 h7 => (show False from h7).elim)).trans ((hF5 (x + 132) (fun j9 h8 h7 => (show False from h7).elim)).trans h_19))
          refine z_callV (As := [.int v_12, .int v_11, .int v_15]) (rest := []) B (s_X0_account G l Φ9 sz x (ca) v_12 v_11 v_15 hx hI9 (show ca < 1000000 by omega)) (cwV 3 B.1.2.2.2.2 gX0_take_X0_account rfl rfl rfl (by decide +kernel) ⟨Nat.le_of_ble_eq_true rfl, Nat.le_of_ble_eq_true rfl⟩) h_21 rfl rfl rfl rfl (Nat.le_of_ble_eq_true rfl) dX0_take_109 ⟨Nat.le_of_ble_eq_true rfl, Nat.le_of_ble_eq_true rfl⟩ (fun r_7 Φ10 sz7 st7 hp7 hs7 => ?_)
          obtain ⟨rfl, hq7, hI10, hF7⟩ := hp7
          subst sz7
          replace hs7 : st7 = [] := hs7
          subst st7
          replace hI10 : In G x (ca + 1) Φ10 := hI10
          refine z_aload_n B dX0_take_112 rfl 2 rfl ?_
          refine z_aload_n B dX0_take_113 rfl 3 rfl ?_
          refine z_iload_n B dX0_take_114 rfl 4 rfl ?_
          obtain ⟨n_3, v_16, v_17, h_22, b_5⟩ := in25 (k := 132) hI10 rfl
          have h_23 : Φ10 (x + 132) = some (o_ 2 [.ref (x + 3), .ref (x + 121), .ref (x + 133), .ref (x + 134), .ref (x + 135), .ref (x + 137), .ref (x + 138), .ref (x + 139), .ref (x + 140), .int (nI n_3), .int v_16, .int v_17]) := h_22
          refine z_callV (As := [.ref (x + (k)), .int a]) (rest := []) B (s_X0_readSets G l Φ10 sz x (ca + 1) k a hx hI10 hk_k) (cwV 2 B.1.2.2.2.2 gX0_take_X0_readSets rfl rfl rfl (by decide +kernel) ⟨Nat.le_of_ble_eq_true rfl, Nat.le_of_ble_eq_true rfl⟩) h_23 rfl rfl rfl rfl (Nat.le_of_ble_eq_true rfl) dX0_take_115 ⟨Nat.le_of_ble_eq_true rfl, Nat.le_of_ble_eq_true rfl⟩ (fun r_8 Φ11 sz8 st8 hp8 hs8 => ?_)
          obtain ⟨⟨v_18, rfl⟩, hq8, hI11, hF8⟩ := hp8
          subst sz8
          replace hs8 : st8 = [.int v_18] := hs8
          subst st8
          replace hI11 : In G x (ca + 1) Φ11 := hI11
          exact z_ret_i B dX0_take_118 ⟨⟨_, rfl⟩, rfl, hI11, (fun b9 h9 => ((hF8 b9 (fun j9 h8 h7 => h9 j9 h8 (show (121 ≤ j9 ∧ j9 < 149) by have h6 : (121 ≤ j9 ∧ j9 < 149) := h7; omega))).trans ((hF7 b9 (fun j9 h8 h7 => h9 j9 h8 (show (121 ≤ j9 ∧ j9 < 149) by have h6 : 132 ≤ j9 ∧ j9 < 140 := h7; omega))).trans ((hF6 b9 (fun j9 h8 h7 => (show False from h7).elim)).trans ((hF5 b9 (fun j9 h8 h7 => (show False from h7).elim)).trans ((hF4 b9 (fun j9 h8 h7 => (show False from h7).elim)).trans ((hF3 b9 (fun j9 h8 h7 => (show False from h7).elim)).trans ((hF2 b9 (fun j9 h8 h7 => (show False from h7).elim)).trans ((hF1 b9 (fun j9 h8 h7 => (show False from h7).elim)).trans ((fset_fr hΦ1 (fun h8 => h9 (139) h8 (show (121 ≤ 139 ∧ 139 < 149) by omega))).trans rfl))))))))))⟩
        · refine z_aload_n B dX0_take_82 rfl 2 rfl ?_
          have h_24 : Φ8 (x + 132) = some (o_ 2 [.ref (x + 3), .ref (x + 121), .ref (x + 133), .ref (x + 134), .ref (x + 135), .ref (x + 137), .ref (x + 138), .ref (x + 139), .ref (x + 140), .int (nI n_1), .int v_1, .int v_2]) := ((hF5 (x + 132) (fun j9 h8 h7 => (show False from h7).elim)).trans h_19)
          refine z_get (ref := "FlowExporter$Collector") (C := RX0) (T := TX0) (N := 12) (ci := 2) (v := .ref (x + 139)) B (by decide +kernel) rfl 7 (by decide) (by decide +kernel) rfl h_24 rfl dX0_take_83 ?_
          refine z_iconst (v := 2) B dX0_take_86 rfl ?_
          refine z_dup2_11 B dX0_take_87 rfl rfl ?_
          obtain ⟨f_4, h_25⟩ := in28 (k := 139) hI8 rfl
          have h_26 : Φ8 (x + 139) = some (al_ G 9 f_4) := h_25
          refine z_lald B h_26 (vin rfl) dX0_take_88 ?_
          refine z_fl (fun v_19 => ?_)
          refine z_lconst (v := 1) B dX0_take_89 rfl ?_
          refine z_ladd B dX0_take_90 ?_
          refine z_fl (fun v_20 => ?_)
          refine z_last B h_26 (Nat.le_trans hx (Nat.le_add_right x 139)) (vin rfl) dX0_take_91 (fun Φ12 hΦ4 => ?_)
          have h_27 : Φ12 (x + 139) = some (al_ G 9 (vp_updL f_4 (2 : Int32).toNatClampNeg v_20)) := fset_at hΦ4
          have hI12 : In G x (ca) Φ12 := In.put (k := 139) hI8 hΦ4 (ok28 (k := 139) rfl ⟨_, rfl⟩)
          refine z_iconst (v := 0) B dX0_take_92 rfl ?_
          exact z_ret_i B dX0_take_93 ⟨⟨_, rfl⟩, rfl, (In.mono hI12 (by omega)), (fun b9 h9 => ((fset_fr hΦ4 (fun h8 => h9 (139) h8 (show (121 ≤ 139 ∧ 139 < 149) by omega))).trans ((hF5 b9 (fun j9 h8 h7 => (show False from h7).elim)).trans ((hF4 b9 (fun j9 h8 h7 => (show False from h7).elim)).trans ((hF3 b9 (fun j9 h8 h7 => (show False from h7).elim)).trans ((hF2 b9 (fun j9 h8 h7 => (show False from h7).elim)).trans ((hF1 b9 (fun j9 h8 h7 => (show False from h7).elim)).trans ((fset_fr hΦ1 (fun h8 => h9 (139) h8 (show (121 ≤ 139 ∧ 139 < 149) by omega))).trans rfl))))))))⟩
      · refine z_aload_n B dX0_take_44 rfl 0 rfl ?_
        have h_28 : Φ5 (x + 132) = some (o_ 2 [.ref (x + 3), .ref (x + 121), .ref (x + 133), .ref (x + 134), .ref (x + 135), .ref (x + 137), .ref (x + 138), .ref (x + 139), .ref (x + 140), .int (nI n_1), .int v_1, .int v_2]) := ((hF2 (x + 132) (fun j9 h8 h7 => (show False from h7).elim)).trans ((hF1 (x + 132) (fun j9 h8 h7 => (show False from h7).elim)).trans ((fset_fr hΦ1 (ne_off (x := x) (i := 132) (j := 139) rfl)).trans h_2)))
        refine z_get (ref := "FlowExporter$Collector") (C := RX0) (T := TX0) (N := 12) (ci := 2) (v := .ref (x + 139)) B (by decide +kernel) rfl 7 (by decide) (by decide +kernel) rfl h_28 rfl dX0_take_45 ?_
        refine z_iconst (v := 4) B dX0_take_48 rfl ?_
        refine z_dup2_11 B dX0_take_49 rfl rfl ?_
        obtain ⟨f_5, h_29⟩ := in28 (k := 139) hI5 rfl
        have h_30 : Φ5 (x + 139) = some (al_ G 9 f_5) := h_29
        refine z_lald B h_30 (vin rfl) dX0_take_50 ?_
        refine z_fl (fun v_21 => ?_)
        refine z_lconst (v := 1) B dX0_take_51 rfl ?_
        refine z_ladd B dX0_take_52 ?_
        refine z_fl (fun v_22 => ?_)
        refine z_last B h_30 (Nat.le_trans hx (Nat.le_add_right x 139)) (vin rfl) dX0_take_53 (fun Φ13 hΦ5 => ?_)
        have h_31 : Φ13 (x + 139) = some (al_ G 9 (vp_updL f_5 (4 : Int32).toNatClampNeg v_22)) := fset_at hΦ5
        have hI13 : In G x (ca) Φ13 := In.put (k := 139) hI5 hΦ5 (ok28 (k := 139) rfl ⟨_, rfl⟩)
        refine z_iconst (v := 0) B dX0_take_54 rfl ?_
        exact z_ret_i B dX0_take_55 ⟨⟨_, rfl⟩, rfl, (In.mono hI13 (by omega)), (fun b9 h9 => ((fset_fr hΦ5 (fun h8 => h9 (139) h8 (show (121 ≤ 139 ∧ 139 < 149) by omega))).trans ((hF2 b9 (fun j9 h8 h7 => (show False from h7).elim)).trans ((hF1 b9 (fun j9 h8 h7 => (show False from h7).elim)).trans ((fset_fr hΦ1 (fun h8 => h9 (139) h8 (show (121 ≤ 139 ∧ 139 < 149) by omega))).trans rfl)))))⟩

set_option maxHeartbeats 4000000 in
set_option maxRecDepth 100000 in
theorem s_X11_startAnew (G : EnvG) (l : Launch) (Φ : Hm) (sz x ca : Nat)  (hx : G.2.2.2 ≤ x) (hI : In G x ca Φ)  : Ct G l yX11_startAnew wsX11_startAnew ({ frames := 4, cells := 0, slots := 0, locals := 89 }) 0 0 [.ref x] Φ sz (fun v Φ1 sz1 => (v = none) ∧ sz1 = sz ∧ In G x (ca) Φ1 ∧ Fr x (fun j9 => 2 ≤ j9 ∧ j9 < 149) Φ Φ1) := by
  refine Ct.of (cc := cX11_startAnew) (maxL := 1) (ret := none) (by decide) rfl (Nat.le_of_ble_eq_true rfl) ?_
  intro p9 e9 s9 m9 w9 t9 k9 B
  show Z p9 l e9 _ s9 m9 _ w9 t9 k9 _ G 1 0 [(0, .ref x)] [] Φ sz 0 0
  refine z_aload_n B dX11_startAnew_0 rfl 0 rfl ?_
  have h_1 := in0 (k := 0) hI rfl
  have h_2 : Φ x = some (o_ 13 [.ref (x + 1), .ref (x + 3), .ref (x + 24), .ref (x + 46), .ref (x + 74), .ref (x + 80), .ref (x + 132), .ref (x + 121)]) := h_1
  refine z_get (ref := "FlowExporter") (C := RX11) (T := TX11) (N := 8) (ci := 13) (v := .ref (x + 3)) B (by decide +kernel) rfl 1 (by decide) (by decide +kernel) rfl h_2 rfl dX11_startAnew_1 ?_
  refine z_aload_n B dX11_startAnew_4 rfl 0 rfl ?_
  refine z_get (ref := "FlowExporter") (C := RX11) (T := TX11) (N := 8) (ci := 13) (v := .ref (x + 24)) B (by decide +kernel) rfl 2 (by decide) (by decide +kernel) rfl h_2 rfl dX11_startAnew_5 ?_
  obtain ⟨v_1, v_2, v_3, v_4, v_5, v_6, h_3⟩ := in10 (k := 24) hI rfl
  have h_4 : Φ (x + 24) = some (o_ 8 [.ref (x + 25), .int v_1, .int v_2, .ref (x + 1), .int v_3, .int v_4, .int v_5, .int v_6]) := h_3
  refine z_get (ref := "FlowExporter$Parser") (C := RX6) (T := TX6) (N := 8) (ci := 8) (v := .ref (x + 25)) B (by decide +kernel) rfl 0 (by decide) (by decide +kernel) rfl h_4 rfl dX11_startAnew_8 ?_
  obtain ⟨v_7, v_8, h_5⟩ := in3 (k := 3) hI rfl
  have h_6 : Φ (x + 3) = some (o_ 3 [.ref (x + 4), .ref (x + 5), .ref (x + 6), .ref (x + 7), .int v_7, .int v_8]) := h_5
  refine z_callV (As := [.ref (x + 25)]) (rest := []) B (s_X1_copyFrom G l Φ sz x (ca)  hx hI ) (cwV 1 B.1.2.2.2.2 gX11_startAnew_X1_copyFrom rfl rfl rfl (by decide +kernel) ⟨Nat.le_of_ble_eq_true rfl, Nat.le_of_ble_eq_true rfl⟩) h_6 rfl rfl rfl rfl (Nat.le_of_ble_eq_true rfl) dX11_startAnew_11 ⟨Nat.le_of_ble_eq_true rfl, Nat.le_of_ble_eq_true rfl⟩ (fun r_1 Φ1 sz1 st1 hp1 hs1 => ?_)
  obtain ⟨rfl, hq1, hI1, hF1⟩ := hp1
  subst sz1
  replace hs1 : st1 = [] := hs1
  subst st1
  replace hI1 : In G x (ca) Φ1 := hI1
  refine z_aload_n B dX11_startAnew_14 rfl 0 rfl ?_
  have h_7 : Φ1 x = some (o_ 13 [.ref (x + 1), .ref (x + 3), .ref (x + 24), .ref (x + 46), .ref (x + 74), .ref (x + 80), .ref (x + 132), .ref (x + 121)]) := ((hF1 x (fun j9 h8 h7 => by have h6 : 3 ≤ j9 ∧ j9 < 24 := h7; omega)).trans h_2)
  refine z_get (ref := "FlowExporter") (C := RX11) (T := TX11) (N := 8) (ci := 13) (v := .ref (x + 46)) B (by decide +kernel) rfl 3 (by decide) (by decide +kernel) rfl h_7 rfl dX11_startAnew_15 ?_
  obtain ⟨n_1, v_9, h_8, b_1⟩ := in11 (k := 46) hI1 rfl
  have h_9 : Φ1 (x + 46) = some (o_ 9 [.ref (x + 47), .int (nI n_1), .int v_9]) := h_8
  refine z_callV (As := []) (rest := []) B (s_X7_clear G l Φ1 sz x (ca)  hx hI1 ) (cwV 0 B.1.2.2.2.2 gX11_startAnew_X7_clear rfl rfl rfl (by decide +kernel) ⟨Nat.le_of_ble_eq_true rfl, Nat.le_of_ble_eq_true rfl⟩) h_9 rfl rfl rfl rfl (Nat.le_of_ble_eq_true rfl) dX11_startAnew_18 ⟨Nat.le_of_ble_eq_true rfl, Nat.le_of_ble_eq_true rfl⟩ (fun r_2 Φ2 sz2 st2 hp2 hs2 => ?_)
  obtain ⟨rfl, hq2, hI2, hF2⟩ := hp2
  subst sz2
  replace hs2 : st2 = [] := hs2
  subst st2
  replace hI2 : In G x (ca) Φ2 := hI2
  refine z_aload_n B dX11_startAnew_21 rfl 0 rfl ?_
  have h_10 : Φ2 x = some (o_ 13 [.ref (x + 1), .ref (x + 3), .ref (x + 24), .ref (x + 46), .ref (x + 74), .ref (x + 80), .ref (x + 132), .ref (x + 121)]) := ((hF2 x (fun j9 h8 h7 => by have h6 : j9 = 46 := h7; omega)).trans h_7)
  refine z_get (ref := "FlowExporter") (C := RX11) (T := TX11) (N := 8) (ci := 13) (v := .ref (x + 74)) B (by decide +kernel) rfl 4 (by decide) (by decide +kernel) rfl h_10 rfl dX11_startAnew_22 ?_
  obtain ⟨n_2, v_10, v_11, v_12, h_11, b_2⟩ := in13 (k := 74) hI2 rfl
  have h_12 : Φ2 (x + 74) = some (o_ 10 [.ref (x + 3), .ref (x + 46), .ref (x + 75), .ref (x + 77), .int (nI n_2), .ref (x + 78), .ref (x + 79), .int v_10, .long v_11, .int v_12]) := h_11
  refine z_callV (As := []) (rest := []) B (s_X8_clear G l Φ2 sz x (ca)  hx hI2 ) (cwV 0 B.1.2.2.2.2 gX11_startAnew_X8_clear rfl rfl rfl (by decide +kernel) ⟨Nat.le_of_ble_eq_true rfl, Nat.le_of_ble_eq_true rfl⟩) h_12 rfl rfl rfl rfl (Nat.le_of_ble_eq_true rfl) dX11_startAnew_25 ⟨Nat.le_of_ble_eq_true rfl, Nat.le_of_ble_eq_true rfl⟩ (fun r_3 Φ3 sz3 st3 hp3 hs3 => ?_)
  obtain ⟨rfl, hq3, hI3, hF3⟩ := hp3
  subst sz3
  replace hs3 : st3 = [] := hs3
  subst st3
  replace hI3 : In G x (ca) Φ3 := hI3
  refine z_aload_n B dX11_startAnew_28 rfl 0 rfl ?_
  have h_13 : Φ3 x = some (o_ 13 [.ref (x + 1), .ref (x + 3), .ref (x + 24), .ref (x + 46), .ref (x + 74), .ref (x + 80), .ref (x + 132), .ref (x + 121)]) := ((hF3 x (fun j9 h8 h7 => by have h6 : 74 ≤ j9 ∧ j9 < 80 := h7; omega)).trans h_10)
  refine z_get (ref := "FlowExporter") (C := RX11) (T := TX11) (N := 8) (ci := 13) (v := .ref (x + 80)) B (by decide +kernel) rfl 5 (by decide) (by decide +kernel) rfl h_13 rfl dX11_startAnew_29 ?_
  obtain ⟨v_13, v_14, v_15, v_16, v_17, v_18, v_19, v_20, v_21, h_14, b_3⟩ := in16 (k := 80) hI3 rfl
  have h_15 : Φ3 (x + 80) = some (o_ 4 [.ref (x + 3), .ref (x + 74), .ref (x + 81), .ref (x + 95), .int v_13, .int v_14, .int v_15, .int v_16, .int v_17, .int v_18, .long v_19, .long v_20, .long v_21]) := h_14
  refine z_callV (As := []) (rest := []) B (s_X2_clear G l Φ3 sz x (ca)  hx hI3 ) (cwV 0 B.1.2.2.2.2 gX11_startAnew_X2_clear rfl rfl rfl (by decide +kernel) ⟨Nat.le_of_ble_eq_true rfl, Nat.le_of_ble_eq_true rfl⟩) h_15 rfl rfl rfl rfl (Nat.le_of_ble_eq_true rfl) dX11_startAnew_32 ⟨Nat.le_of_ble_eq_true rfl, Nat.le_of_ble_eq_true rfl⟩ (fun r_4 Φ4 sz4 st4 hp4 hs4 => ?_)
  obtain ⟨rfl, hq4, hI4, hF4⟩ := hp4
  subst sz4
  replace hs4 : st4 = [] := hs4
  subst st4
  replace hI4 : In G x (ca) Φ4 := hI4
  refine z_aload_n B dX11_startAnew_35 rfl 0 rfl ?_
  have h_16 : Φ4 x = some (o_ 13 [.ref (x + 1), .ref (x + 3), .ref (x + 24), .ref (x + 46), .ref (x + 74), .ref (x + 80), .ref (x + 132), .ref (x + 121)]) := ((hF4 x (fun j9 h8 h7 => by have h6 : j9 = 80 ∨ j9 = 81 ∨ j9 = 95 := h7; omega)).trans h_13)
  refine z_get (ref := "FlowExporter") (C := RX11) (T := TX11) (N := 8) (ci := 13) (v := .ref (x + 121)) B (by decide +kernel) rfl 7 (by decide) (by decide +kernel) rfl h_16 rfl dX11_startAnew_36 ?_
  refine z_iconst (v := 0) B dX11_startAnew_39 rfl ?_
  obtain ⟨n_3, h_17, b_4⟩ := in20 (k := 121) hI4 rfl
  have h_18 : Φ4 (x + 121) = some (o_ 11 [.ref (x + 122), .ref (x + 123), .ref (x + 126), .ref (x + 129), .int (nI n_3)]) := h_17
  refine z_put (ref := "FlowExporter$Sums") (C := RX9) (T := TX9) (N := 5) (ci := 11) (v := .int 0) B (by decide +kernel) tyX9 tyX9_ok nmX9 rfl 4 (by decide) (by decide +kernel) rfl (Or.inl rfl) h_18 (Nat.le_trans hx (Nat.le_add_right x 121)) rfl rfl (Nat.le_of_ble_eq_true rfl) dX11_startAnew_40 (fun Φ5 hΦ1 => ?_)
  have h_19 : Φ5 (x + 121) = some (o_ 11 [.ref (x + 122), .ref (x + 123), .ref (x + 126), .ref (x + 129), .int 0]) := fset_at hΦ1
  have hI5 : In G x (ca) Φ5 := In.put (k := 121) hI4 hΦ1 (ok20 (k := 121) rfl ⟨0, rfl, (show 0 ≤ 24 by omega)⟩)
  refine z_aload_n B dX11_startAnew_43 rfl 0 rfl ?_
  have h_20 : Φ5 x = some (o_ 13 [.ref (x + 1), .ref (x + 3), .ref (x + 24), .ref (x + 46), .ref (x + 74), .ref (x + 80), .ref (x + 132), .ref (x + 121)]) := ((fset_fr hΦ1 (ne_off (x := x) (i := 0) (j := 121) rfl)).trans h_16)
  refine z_get (ref := "FlowExporter") (C := RX11) (T := TX11) (N := 8) (ci := 13) (v := .ref (x + 132)) B (by decide +kernel) rfl 6 (by decide) (by decide +kernel) rfl h_20 rfl dX11_startAnew_44 ?_
  obtain ⟨n_4, v_22, v_23, h_21, b_5⟩ := in25 (k := 132) hI5 rfl
  have h_22 : Φ5 (x + 132) = some (o_ 2 [.ref (x + 3), .ref (x + 121), .ref (x + 133), .ref (x + 134), .ref (x + 135), .ref (x + 137), .ref (x + 138), .ref (x + 139), .ref (x + 140), .int (nI n_4), .int v_22, .int v_23]) := h_21
  refine z_callV (As := []) (rest := []) B (s_X0_clear G l Φ5 sz x (ca)  hx hI5 ) (cwV 0 B.1.2.2.2.2 gX11_startAnew_X0_clear rfl rfl rfl (by decide +kernel) ⟨Nat.le_of_ble_eq_true rfl, Nat.le_of_ble_eq_true rfl⟩) h_22 rfl rfl rfl rfl (Nat.le_of_ble_eq_true rfl) dX11_startAnew_47 ⟨Nat.le_of_ble_eq_true rfl, Nat.le_of_ble_eq_true rfl⟩ (fun r_5 Φ6 sz5 st5 hp5 hs5 => ?_)
  obtain ⟨rfl, hq5, hI6, hF5⟩ := hp5
  subst sz5
  replace hs5 : st5 = [] := hs5
  subst st5
  replace hI6 : In G x (ca) Φ6 := hI6
  exact z_ret_v B dX11_startAnew_50 ⟨rfl, rfl, hI6, (fun b9 h9 => ((hF5 b9 (fun j9 h8 h7 => h9 j9 h8 (show 2 ≤ j9 ∧ j9 < 149 by have h6 : 132 ≤ j9 ∧ j9 < 149 := h7; omega))).trans ((fset_fr hΦ1 (fun h8 => h9 (121) h8 (show 2 ≤ 121 ∧ 121 < 149 by omega))).trans ((hF4 b9 (fun j9 h8 h7 => h9 j9 h8 (show 2 ≤ j9 ∧ j9 < 149 by have h6 : j9 = 80 ∨ j9 = 81 ∨ j9 = 95 := h7; omega))).trans ((hF3 b9 (fun j9 h8 h7 => h9 j9 h8 (show 2 ≤ j9 ∧ j9 < 149 by have h6 : 74 ≤ j9 ∧ j9 < 80 := h7; omega))).trans ((hF2 b9 (fun j9 h8 h7 => h9 j9 h8 (show 2 ≤ j9 ∧ j9 < 149 by have h6 : j9 = 46 := h7; omega))).trans ((hF1 b9 (fun j9 h8 h7 => h9 j9 h8 (show 2 ≤ j9 ∧ j9 < 149 by have h6 : 3 ≤ j9 ∧ j9 < 24 := h7; omega))).trans rfl)))))))⟩

set_option maxHeartbeats 4000000 in
set_option maxRecDepth 100000 in
theorem s_X11_errorCode (G : EnvG) (l : Launch) (Φ : Hm) (sz x ca : Nat)  (hx : G.2.2.2 ≤ x) (hI : In G x ca Φ)  : Ct G l yX11_errorCode wsX11_errorCode ({ frames := 0, cells := 0, slots := 0, locals := 0 }) 0 0 [.ref x] Φ sz (fun v Φ1 sz1 => (∃ r9 : Int32, v = some (.int r9)) ∧ sz1 = sz ∧ In G x (ca) Φ1 ∧ Fr x (fun j9 => 2 ≤ j9 ∧ j9 < 149) Φ Φ1) := by
  refine Ct.of (cc := cX11_errorCode) (maxL := 1) (ret := (some .int)) (by decide) rfl (Nat.le_of_ble_eq_true rfl) ?_
  intro p9 e9 s9 m9 w9 t9 k9 B
  show Z p9 l e9 _ s9 m9 _ w9 t9 k9 _ G 1 0 [(0, .ref x)] [] Φ sz 0 0
  refine z_aload_n B dX11_errorCode_0 rfl 0 rfl ?_
  have h_1 := in0 (k := 0) hI rfl
  have h_2 : Φ x = some (o_ 13 [.ref (x + 1), .ref (x + 3), .ref (x + 24), .ref (x + 46), .ref (x + 74), .ref (x + 80), .ref (x + 132), .ref (x + 121)]) := h_1
  refine z_get (ref := "FlowExporter") (C := RX11) (T := TX11) (N := 8) (ci := 13) (v := .ref (x + 24)) B (by decide +kernel) rfl 2 (by decide) (by decide +kernel) rfl h_2 rfl dX11_errorCode_1 ?_
  obtain ⟨v_1, v_2, v_3, v_4, v_5, v_6, h_3⟩ := in10 (k := 24) hI rfl
  have h_4 : Φ (x + 24) = some (o_ 8 [.ref (x + 25), .int v_1, .int v_2, .ref (x + 1), .int v_3, .int v_4, .int v_5, .int v_6]) := h_3
  refine z_get (ref := "FlowExporter$Parser") (C := RX6) (T := TX6) (N := 8) (ci := 8) (v := .int v_1) B (by decide +kernel) rfl 1 (by decide) (by decide +kernel) rfl h_4 rfl dX11_errorCode_4 ?_
  exact z_ret_i B dX11_errorCode_7 ⟨⟨_, rfl⟩, rfl, hI, (fun b9 h9 => rfl)⟩

set_option maxHeartbeats 4000000 in
set_option maxRecDepth 100000 in
theorem s_X11_errorPosition (G : EnvG) (l : Launch) (Φ : Hm) (sz x ca : Nat)  (hx : G.2.2.2 ≤ x) (hI : In G x ca Φ)  : Ct G l yX11_errorPosition wsX11_errorPosition ({ frames := 0, cells := 0, slots := 0, locals := 0 }) 0 0 [.ref x] Φ sz (fun v Φ1 sz1 => (∃ r9 : Int32, v = some (.int r9)) ∧ sz1 = sz ∧ In G x (ca) Φ1 ∧ Fr x (fun j9 => 2 ≤ j9 ∧ j9 < 149) Φ Φ1) := by
  refine Ct.of (cc := cX11_errorPosition) (maxL := 1) (ret := (some .int)) (by decide) rfl (Nat.le_of_ble_eq_true rfl) ?_
  intro p9 e9 s9 m9 w9 t9 k9 B
  show Z p9 l e9 _ s9 m9 _ w9 t9 k9 _ G 1 0 [(0, .ref x)] [] Φ sz 0 0
  refine z_aload_n B dX11_errorPosition_0 rfl 0 rfl ?_
  have h_1 := in0 (k := 0) hI rfl
  have h_2 : Φ x = some (o_ 13 [.ref (x + 1), .ref (x + 3), .ref (x + 24), .ref (x + 46), .ref (x + 74), .ref (x + 80), .ref (x + 132), .ref (x + 121)]) := h_1
  refine z_get (ref := "FlowExporter") (C := RX11) (T := TX11) (N := 8) (ci := 13) (v := .ref (x + 24)) B (by decide +kernel) rfl 2 (by decide) (by decide +kernel) rfl h_2 rfl dX11_errorPosition_1 ?_
  obtain ⟨v_1, v_2, v_3, v_4, v_5, v_6, h_3⟩ := in10 (k := 24) hI rfl
  have h_4 : Φ (x + 24) = some (o_ 8 [.ref (x + 25), .int v_1, .int v_2, .ref (x + 1), .int v_3, .int v_4, .int v_5, .int v_6]) := h_3
  refine z_get (ref := "FlowExporter$Parser") (C := RX6) (T := TX6) (N := 8) (ci := 8) (v := .int v_2) B (by decide +kernel) rfl 2 (by decide) (by decide +kernel) rfl h_4 rfl dX11_errorPosition_4 ?_
  exact z_ret_i B dX11_errorPosition_7 ⟨⟨_, rfl⟩, rfl, hI, (fun b9 h9 => rfl)⟩

set_option maxHeartbeats 4000000 in
set_option maxRecDepth 100000 in
theorem s_X11_now (G : EnvG) (l : Launch) (Φ : Hm) (sz x ca : Nat)  (hx : G.2.2.2 ≤ x) (hI : In G x ca Φ)  : Ct G l yX11_now wsX11_now ({ frames := 0, cells := 0, slots := 0, locals := 0 }) 0 0 [.ref x] Φ sz (fun v Φ1 sz1 => (∃ r9 : Int32, v = some (.int r9)) ∧ sz1 = sz ∧ In G x (ca) Φ1 ∧ Fr x (fun j9 => 2 ≤ j9 ∧ j9 < 149) Φ Φ1) := by
  refine Ct.of (cc := cX11_now) (maxL := 1) (ret := (some .int)) (by decide) rfl (Nat.le_of_ble_eq_true rfl) ?_
  intro p9 e9 s9 m9 w9 t9 k9 B
  show Z p9 l e9 _ s9 m9 _ w9 t9 k9 _ G 1 0 [(0, .ref x)] [] Φ sz 0 0
  refine z_aload_n B dX11_now_0 rfl 0 rfl ?_
  have h_1 := in0 (k := 0) hI rfl
  have h_2 : Φ x = some (o_ 13 [.ref (x + 1), .ref (x + 3), .ref (x + 24), .ref (x + 46), .ref (x + 74), .ref (x + 80), .ref (x + 132), .ref (x + 121)]) := h_1
  refine z_get (ref := "FlowExporter") (C := RX11) (T := TX11) (N := 8) (ci := 13) (v := .ref (x + 80)) B (by decide +kernel) rfl 5 (by decide) (by decide +kernel) rfl h_2 rfl dX11_now_1 ?_
  obtain ⟨v_1, v_2, v_3, v_4, v_5, v_6, v_7, v_8, v_9, h_3, b_1⟩ := in16 (k := 80) hI rfl
  have h_4 : Φ (x + 80) = some (o_ 4 [.ref (x + 3), .ref (x + 74), .ref (x + 81), .ref (x + 95), .int v_1, .int v_2, .int v_3, .int v_4, .int v_5, .int v_6, .long v_7, .long v_8, .long v_9]) := h_3
  refine z_get (ref := "FlowExporter$Exporter") (C := RX2) (T := TX2) (N := 13) (ci := 4) (v := .int v_1) B (by decide +kernel) rfl 4 (by decide) (by decide +kernel) rfl h_4 rfl dX11_now_4 ?_
  exact z_ret_i B dX11_now_7 ⟨⟨_, rfl⟩, rfl, hI, (fun b9 h9 => rfl)⟩

set_option maxHeartbeats 4000000 in
set_option maxRecDepth 100000 in
theorem s_X11_flush (G : EnvG) (l : Launch) (Φ : Hm) (sz x ca : Nat)  (hx : G.2.2.2 ≤ x) (hI : In G x ca Φ)  : Ct G l yX11_flush wsX11_flush ({ frames := 6, cells := 0, slots := 0, locals := 146 }) 0 0 [.ref x] Φ sz (fun v Φ1 sz1 => (∃ n9 : Nat, v = some (.int (nI n9)) ∧ n9 ≤ 12) ∧ sz1 = sz ∧ In G x (ca) Φ1 ∧ Fr x (fun j9 => 2 ≤ j9 ∧ j9 < 149) Φ Φ1) := by
  refine Ct.of (cc := cX11_flush) (maxL := 1) (ret := (some .int)) (by decide) rfl (Nat.le_of_ble_eq_true rfl) ?_
  intro p9 e9 s9 m9 w9 t9 k9 B
  show Z p9 l e9 _ s9 m9 _ w9 t9 k9 _ G 1 0 [(0, .ref x)] [] Φ sz 0 0
  refine z_aload_n B dX11_flush_0 rfl 0 rfl ?_
  have h_1 := in0 (k := 0) hI rfl
  have h_2 : Φ x = some (o_ 13 [.ref (x + 1), .ref (x + 3), .ref (x + 24), .ref (x + 46), .ref (x + 74), .ref (x + 80), .ref (x + 132), .ref (x + 121)]) := h_1
  refine z_get (ref := "FlowExporter") (C := RX11) (T := TX11) (N := 8) (ci := 13) (v := .ref (x + 80)) B (by decide +kernel) rfl 5 (by decide) (by decide +kernel) rfl h_2 rfl dX11_flush_1 ?_
  obtain ⟨v_1, v_2, v_3, v_4, v_5, v_6, v_7, v_8, v_9, h_3, b_1⟩ := in16 (k := 80) hI rfl
  have h_4 : Φ (x + 80) = some (o_ 4 [.ref (x + 3), .ref (x + 74), .ref (x + 81), .ref (x + 95), .int v_1, .int v_2, .int v_3, .int v_4, .int v_5, .int v_6, .long v_7, .long v_8, .long v_9]) := h_3
  refine z_callV (As := []) (rest := []) B (s_X2_exportAllAndSend G l Φ sz x (ca)  hx hI ) (cwV 0 B.1.2.2.2.2 gX11_flush_X2_exportAllAndSend rfl rfl rfl (by decide +kernel) ⟨Nat.le_of_ble_eq_true rfl, Nat.le_of_ble_eq_true rfl⟩) h_4 rfl rfl rfl rfl (Nat.le_of_ble_eq_true rfl) dX11_flush_4 ⟨Nat.le_of_ble_eq_true rfl, Nat.le_of_ble_eq_true rfl⟩ (fun r_1 Φ1 sz1 st1 hp1 hs1 => ?_)
  obtain ⟨⟨n_1, rfl, b_2⟩, hq1, hI1, hF1⟩ := hp1
  subst sz1
  replace hs1 : st1 = [.int (nI n_1)] := hs1
  subst st1
  replace hI1 : In G x (ca) Φ1 := hI1
  replace b_2 : n_1 ≤ 12 := b_2
  exact z_ret_i B dX11_flush_7 ⟨⟨n_1, rfl, (show n_1 ≤ 12 by omega)⟩, rfl, hI1, (fun b9 h9 => ((hF1 b9 (fun j9 h8 h7 => h9 j9 h8 (show 2 ≤ j9 ∧ j9 < 149 by have h6 : 46 ≤ j9 ∧ j9 < 95 := h7; omega))).trans rfl))⟩

set_option maxHeartbeats 4000000 in
set_option maxRecDepth 100000 in
theorem s_X11_cacheSize (G : EnvG) (l : Launch) (Φ : Hm) (sz x ca : Nat)  (hx : G.2.2.2 ≤ x) (hI : In G x ca Φ)  : Ct G l yX11_cacheSize wsX11_cacheSize ({ frames := 0, cells := 0, slots := 0, locals := 0 }) 0 0 [.ref x] Φ sz (fun v Φ1 sz1 => (∃ r9 : Int32, v = some (.int r9)) ∧ sz1 = sz ∧ In G x (ca) Φ1 ∧ Fr x (fun j9 => 2 ≤ j9 ∧ j9 < 149) Φ Φ1) := by
  refine Ct.of (cc := cX11_cacheSize) (maxL := 1) (ret := (some .int)) (by decide) rfl (Nat.le_of_ble_eq_true rfl) ?_
  intro p9 e9 s9 m9 w9 t9 k9 B
  show Z p9 l e9 _ s9 m9 _ w9 t9 k9 _ G 1 0 [(0, .ref x)] [] Φ sz 0 0
  refine z_aload_n B dX11_cacheSize_0 rfl 0 rfl ?_
  have h_1 := in0 (k := 0) hI rfl
  have h_2 : Φ x = some (o_ 13 [.ref (x + 1), .ref (x + 3), .ref (x + 24), .ref (x + 46), .ref (x + 74), .ref (x + 80), .ref (x + 132), .ref (x + 121)]) := h_1
  refine z_get (ref := "FlowExporter") (C := RX11) (T := TX11) (N := 8) (ci := 13) (v := .ref (x + 80)) B (by decide +kernel) rfl 5 (by decide) (by decide +kernel) rfl h_2 rfl dX11_cacheSize_1 ?_
  obtain ⟨v_1, v_2, v_3, v_4, v_5, v_6, v_7, v_8, v_9, h_3, b_1⟩ := in16 (k := 80) hI rfl
  have h_4 : Φ (x + 80) = some (o_ 4 [.ref (x + 3), .ref (x + 74), .ref (x + 81), .ref (x + 95), .int v_1, .int v_2, .int v_3, .int v_4, .int v_5, .int v_6, .long v_7, .long v_8, .long v_9]) := h_3
  refine z_get (ref := "FlowExporter$Exporter") (C := RX2) (T := TX2) (N := 13) (ci := 4) (v := .ref (x + 81)) B (by decide +kernel) rfl 2 (by decide) (by decide +kernel) rfl h_4 rfl dX11_cacheSize_4 ?_
  obtain ⟨n_1, h_5, b_2⟩ := in17 (k := 81) hI rfl
  replace b_2 : n_1 ≤ 12 := b_2
  have h_6 : Φ (x + 81) = some (o_ 6 [.ref (x + 82), .int (nI n_1)]) := h_5
  refine z_get (ref := "FlowExporter$FlowTable") (C := RX4) (T := TX4) (N := 2) (ci := 6) (v := .int (nI n_1)) B (by decide +kernel) rfl 1 (by decide) (by decide +kernel) rfl h_6 rfl dX11_cacheSize_7 ?_
  exact z_ret_i B dX11_cacheSize_10 ⟨⟨_, rfl⟩, rfl, hI, (fun b9 h9 => rfl)⟩

set_option maxHeartbeats 4000000 in
set_option maxRecDepth 100000 in
theorem s_X11_rate (G : EnvG) (l : Launch) (Φ : Hm) (sz x ca : Nat)  (hx : G.2.2.2 ≤ x) (hI : In G x ca Φ)  : Ct G l yX11_rate wsX11_rate ({ frames := 0, cells := 0, slots := 0, locals := 0 }) 0 0 [.ref x] Φ sz (fun v Φ1 sz1 => (∃ r9 : Int32, v = some (.int r9)) ∧ sz1 = sz ∧ In G x (ca) Φ1 ∧ Fr x (fun j9 => 2 ≤ j9 ∧ j9 < 149) Φ Φ1) := by
  refine Ct.of (cc := cX11_rate) (maxL := 1) (ret := (some .int)) (by decide) rfl (Nat.le_of_ble_eq_true rfl) ?_
  intro p9 e9 s9 m9 w9 t9 k9 B
  show Z p9 l e9 _ s9 m9 _ w9 t9 k9 _ G 1 0 [(0, .ref x)] [] Φ sz 0 0
  refine z_aload_n B dX11_rate_0 rfl 0 rfl ?_
  have h_1 := in0 (k := 0) hI rfl
  have h_2 : Φ x = some (o_ 13 [.ref (x + 1), .ref (x + 3), .ref (x + 24), .ref (x + 46), .ref (x + 74), .ref (x + 80), .ref (x + 132), .ref (x + 121)]) := h_1
  refine z_get (ref := "FlowExporter") (C := RX11) (T := TX11) (N := 8) (ci := 13) (v := .ref (x + 80)) B (by decide +kernel) rfl 5 (by decide) (by decide +kernel) rfl h_2 rfl dX11_rate_1 ?_
  obtain ⟨v_1, v_2, v_3, v_4, v_5, v_6, v_7, v_8, v_9, h_3, b_1⟩ := in16 (k := 80) hI rfl
  have h_4 : Φ (x + 80) = some (o_ 4 [.ref (x + 3), .ref (x + 74), .ref (x + 81), .ref (x + 95), .int v_1, .int v_2, .int v_3, .int v_4, .int v_5, .int v_6, .long v_7, .long v_8, .long v_9]) := h_3
  refine z_get (ref := "FlowExporter$Exporter") (C := RX2) (T := TX2) (N := 13) (ci := 4) (v := .int v_2) B (by decide +kernel) rfl 5 (by decide) (by decide +kernel) rfl h_4 rfl dX11_rate_4 ?_
  exact z_ret_i B dX11_rate_7 ⟨⟨_, rfl⟩, rfl, hI, (fun b9 h9 => rfl)⟩

set_option maxHeartbeats 4000000 in
set_option maxRecDepth 100000 in
theorem s_X11_rateBits (G : EnvG) (l : Launch) (Φ : Hm) (sz x ca : Nat)  (hx : G.2.2.2 ≤ x) (hI : In G x ca Φ)  : Ct G l yX11_rateBits wsX11_rateBits ({ frames := 1, cells := 0, slots := 0, locals := 23 }) 0 0 [.ref x] Φ sz (fun v Φ1 sz1 => (∃ r9 : Int32, v = some (.int r9)) ∧ sz1 = sz ∧ In G x (ca) Φ1 ∧ Fr x (fun j9 => 2 ≤ j9 ∧ j9 < 149) Φ Φ1) := by
  refine Ct.of (cc := cX11_rateBits) (maxL := 1) (ret := (some .int)) (by decide) rfl (Nat.le_of_ble_eq_true rfl) ?_
  intro p9 e9 s9 m9 w9 t9 k9 B
  show Z p9 l e9 _ s9 m9 _ w9 t9 k9 _ G 1 0 [(0, .ref x)] [] Φ sz 0 0
  refine z_aload_n B dX11_rateBits_0 rfl 0 rfl ?_
  have h_1 := in0 (k := 0) hI rfl
  have h_2 : Φ x = some (o_ 13 [.ref (x + 1), .ref (x + 3), .ref (x + 24), .ref (x + 46), .ref (x + 74), .ref (x + 80), .ref (x + 132), .ref (x + 121)]) := h_1
  refine z_get (ref := "FlowExporter") (C := RX11) (T := TX11) (N := 8) (ci := 13) (v := .ref (x + 80)) B (by decide +kernel) rfl 5 (by decide) (by decide +kernel) rfl h_2 rfl dX11_rateBits_1 ?_
  obtain ⟨v_1, v_2, v_3, v_4, v_5, v_6, v_7, v_8, v_9, h_3, b_1⟩ := in16 (k := 80) hI rfl
  have h_4 : Φ (x + 80) = some (o_ 4 [.ref (x + 3), .ref (x + 74), .ref (x + 81), .ref (x + 95), .int v_1, .int v_2, .int v_3, .int v_4, .int v_5, .int v_6, .long v_7, .long v_8, .long v_9]) := h_3
  refine z_get (ref := "FlowExporter$Exporter") (C := RX2) (T := TX2) (N := 13) (ci := 4) (v := .int v_2) B (by decide +kernel) rfl 5 (by decide) (by decide +kernel) rfl h_4 rfl dX11_rateBits_4 ?_
  refine z_callS (As := [.int v_2]) (rest := []) B (s_X2_bitsOfInverse G l Φ sz x (ca) v_2 hx hI ) (va_cwS 1 B.1.2.2.2.2 gX11_rateBits_X2_bitsOfInverse rfl rfl rfl (by decide +kernel) ⟨Nat.le_of_ble_eq_true rfl, Nat.le_of_ble_eq_true rfl⟩) rfl rfl (Nat.le_of_ble_eq_true rfl) dX11_rateBits_7 ⟨Nat.le_of_ble_eq_true rfl, Nat.le_of_ble_eq_true rfl⟩ (fun r_1 Φ1 sz1 st1 hp1 hs1 => ?_)
  obtain ⟨⟨v_10, rfl⟩, hq1, hI1, hF1⟩ := hp1
  subst sz1
  replace hs1 : st1 = [.int v_10] := hs1
  subst st1
  replace hI1 : In G x (ca) Φ1 := hI1
  exact z_ret_i B dX11_rateBits_10 ⟨⟨_, rfl⟩, rfl, hI1, (fun b9 h9 => ((hF1 b9 (fun j9 h8 h7 => (show False from h7).elim)).trans rfl))⟩

set_option maxHeartbeats 4000000 in
set_option maxRecDepth 100000 in
theorem s_X11_restartExporter (G : EnvG) (l : Launch) (Φ : Hm) (sz x ca : Nat)  (hx : G.2.2.2 ≤ x) (hI : In G x ca Φ)  : Ct G l yX11_restartExporter wsX11_restartExporter ({ frames := 3, cells := 0, slots := 0, locals := 63 }) 0 0 [.ref x] Φ sz (fun v Φ1 sz1 => (∃ r9 : Int32, v = some (.int r9)) ∧ sz1 = sz ∧ In G x (ca) Φ1 ∧ Fr x (fun j9 => 2 ≤ j9 ∧ j9 < 149) Φ Φ1) := by
  refine Ct.of (cc := cX11_restartExporter) (maxL := 2) (ret := (some .int)) (by decide) rfl (Nat.le_of_ble_eq_true rfl) ?_
  intro p9 e9 s9 m9 w9 t9 k9 B
  show Z p9 l e9 _ s9 m9 _ w9 t9 k9 _ G 2 0 [(0, .ref x)] [] Φ sz 0 0
  refine z_aload_n B dX11_restartExporter_0 rfl 0 rfl ?_
  have h_1 := in0 (k := 0) hI rfl
  have h_2 : Φ x = some (o_ 13 [.ref (x + 1), .ref (x + 3), .ref (x + 24), .ref (x + 46), .ref (x + 74), .ref (x + 80), .ref (x + 132), .ref (x + 121)]) := h_1
  refine z_get (ref := "FlowExporter") (C := RX11) (T := TX11) (N := 8) (ci := 13) (v := .ref (x + 80)) B (by decide +kernel) rfl 5 (by decide) (by decide +kernel) rfl h_2 rfl dX11_restartExporter_1 ?_
  obtain ⟨v_1, v_2, v_3, v_4, v_5, v_6, v_7, v_8, v_9, h_3, b_1⟩ := in16 (k := 80) hI rfl
  have h_4 : Φ (x + 80) = some (o_ 4 [.ref (x + 3), .ref (x + 74), .ref (x + 81), .ref (x + 95), .int v_1, .int v_2, .int v_3, .int v_4, .int v_5, .int v_6, .long v_7, .long v_8, .long v_9]) := h_3
  refine z_get (ref := "FlowExporter$Exporter") (C := RX2) (T := TX2) (N := 13) (ci := 4) (v := .ref (x + 81)) B (by decide +kernel) rfl 2 (by decide) (by decide +kernel) rfl h_4 rfl dX11_restartExporter_4 ?_
  obtain ⟨n_1, h_5, b_2⟩ := in17 (k := 81) hI rfl
  replace b_2 : n_1 ≤ 12 := b_2
  have h_6 : Φ (x + 81) = some (o_ 6 [.ref (x + 82), .int (nI n_1)]) := h_5
  refine z_get (ref := "FlowExporter$FlowTable") (C := RX4) (T := TX4) (N := 2) (ci := 6) (v := .int (nI n_1)) B (by decide +kernel) rfl 1 (by decide) (by decide +kernel) rfl h_6 rfl dX11_restartExporter_7 ?_
  refine z_istore_n (lv' := [(1, .int (nI n_1)), (0, .ref x)]) B dX11_restartExporter_10 rfl (Nat.le_of_ble_eq_true rfl) rfl ?_
  refine z_aload_n B dX11_restartExporter_11 rfl 1 rfl ?_
  refine z_get (ref := "FlowExporter") (C := RX11) (T := TX11) (N := 8) (ci := 13) (v := .ref (x + 80)) B (by decide +kernel) rfl 5 (by decide) (by decide +kernel) rfl h_2 rfl dX11_restartExporter_12 ?_
  refine z_get (ref := "FlowExporter$Exporter") (C := RX2) (T := TX2) (N := 13) (ci := 4) (v := .ref (x + 81)) B (by decide +kernel) rfl 2 (by decide) (by decide +kernel) rfl h_4 rfl dX11_restartExporter_15 ?_
  refine z_iconst (v := 0) B dX11_restartExporter_18 rfl ?_
  refine z_put (ref := "FlowExporter$FlowTable") (C := RX4) (T := TX4) (N := 2) (ci := 6) (v := .int 0) B (by decide +kernel) tyX4 tyX4_ok nmX4 rfl 1 (by decide) (by decide +kernel) rfl (Or.inl rfl) h_6 (Nat.le_trans hx (Nat.le_add_right x 81)) rfl rfl (Nat.le_of_ble_eq_true rfl) dX11_restartExporter_19 (fun Φ1 hΦ1 => ?_)
  have h_7 : Φ1 (x + 81) = some (o_ 6 [.ref (x + 82), .int 0]) := fset_at hΦ1
  have hI1 : In G x (ca) Φ1 := In.put (k := 81) hI hΦ1 (ok17 (k := 81) rfl ⟨0, rfl, (show 0 ≤ 12 by omega)⟩)
  refine z_aload_n B dX11_restartExporter_22 rfl 1 rfl ?_
  have h_8 : Φ1 x = some (o_ 13 [.ref (x + 1), .ref (x + 3), .ref (x + 24), .ref (x + 46), .ref (x + 74), .ref (x + 80), .ref (x + 132), .ref (x + 121)]) := ((fset_fr hΦ1 (ne_off (x := x) (i := 0) (j := 81) rfl)).trans h_2)
  refine z_get (ref := "FlowExporter") (C := RX11) (T := TX11) (N := 8) (ci := 13) (v := .ref (x + 74)) B (by decide +kernel) rfl 4 (by decide) (by decide +kernel) rfl h_8 rfl dX11_restartExporter_23 ?_
  obtain ⟨n_2, v_10, v_11, v_12, h_9, b_3⟩ := in13 (k := 74) hI1 rfl
  have h_10 : Φ1 (x + 74) = some (o_ 10 [.ref (x + 3), .ref (x + 46), .ref (x + 75), .ref (x + 77), .int (nI n_2), .ref (x + 78), .ref (x + 79), .int v_10, .long v_11, .int v_12]) := h_9
  refine z_callV (As := []) (rest := []) B (s_X8_restart G l Φ1 sz x (ca)  hx hI1 ) (cwV 0 B.1.2.2.2.2 gX11_restartExporter_X8_restart rfl rfl rfl (by decide +kernel) ⟨Nat.le_of_ble_eq_true rfl, Nat.le_of_ble_eq_true rfl⟩) h_10 rfl rfl rfl rfl (Nat.le_of_ble_eq_true rfl) dX11_restartExporter_26 ⟨Nat.le_of_ble_eq_true rfl, Nat.le_of_ble_eq_true rfl⟩ (fun r_1 Φ2 sz1 st1 hp1 hs1 => ?_)
  obtain ⟨rfl, hq1, hI2, hF1⟩ := hp1
  subst sz1
  replace hs1 : st1 = [] := hs1
  subst st1
  replace hI2 : In G x (ca) Φ2 := hI2
  refine z_iload_n B dX11_restartExporter_29 rfl 0 rfl ?_
  exact z_ret_i B dX11_restartExporter_30 ⟨⟨_, rfl⟩, rfl, hI2, (fun b9 h9 => ((hF1 b9 (fun j9 h8 h7 => h9 j9 h8 (show 2 ≤ j9 ∧ j9 < 149 by have h6 : 74 ≤ j9 ∧ j9 < 80 := h7; omega))).trans ((fset_fr hΦ1 (fun h8 => h9 (81) h8 (show 2 ≤ 81 ∧ 81 < 149 by omega))).trans rfl)))⟩

set_option maxHeartbeats 4000000 in
set_option maxRecDepth 100000 in
theorem s_X11_observed (G : EnvG) (l : Launch) (Φ : Hm) (sz x ca : Nat)  (hx : G.2.2.2 ≤ x) (hI : In G x ca Φ)  : Ct G l yX11_observed wsX11_observed ({ frames := 0, cells := 0, slots := 0, locals := 0 }) 0 0 [.ref x] Φ sz (fun v Φ1 sz1 => (∃ r9 : Int64, v = some (.long r9)) ∧ sz1 = sz ∧ In G x (ca) Φ1 ∧ Fr x (fun j9 => 2 ≤ j9 ∧ j9 < 149) Φ Φ1) := by
  refine Ct.of (cc := cX11_observed) (maxL := 1) (ret := (some .long)) (by decide) rfl (Nat.le_of_ble_eq_true rfl) ?_
  intro p9 e9 s9 m9 w9 t9 k9 B
  show Z p9 l e9 _ s9 m9 _ w9 t9 k9 _ G 1 0 [(0, .ref x)] [] Φ sz 0 0
  refine z_aload_n B dX11_observed_0 rfl 0 rfl ?_
  have h_1 := in0 (k := 0) hI rfl
  have h_2 : Φ x = some (o_ 13 [.ref (x + 1), .ref (x + 3), .ref (x + 24), .ref (x + 46), .ref (x + 74), .ref (x + 80), .ref (x + 132), .ref (x + 121)]) := h_1
  refine z_get (ref := "FlowExporter") (C := RX11) (T := TX11) (N := 8) (ci := 13) (v := .ref (x + 80)) B (by decide +kernel) rfl 5 (by decide) (by decide +kernel) rfl h_2 rfl dX11_observed_1 ?_
  obtain ⟨v_1, v_2, v_3, v_4, v_5, v_6, v_7, v_8, v_9, h_3, b_1⟩ := in16 (k := 80) hI rfl
  have h_4 : Φ (x + 80) = some (o_ 4 [.ref (x + 3), .ref (x + 74), .ref (x + 81), .ref (x + 95), .int v_1, .int v_2, .int v_3, .int v_4, .int v_5, .int v_6, .long v_7, .long v_8, .long v_9]) := h_3
  refine z_get (ref := "FlowExporter$Exporter") (C := RX2) (T := TX2) (N := 13) (ci := 4) (v := .long v_7) B (by decide +kernel) rfl 10 (by decide) (by decide +kernel) rfl h_4 rfl dX11_observed_4 ?_
  exact z_ret_l B dX11_observed_7 ⟨⟨_, rfl⟩, rfl, hI, (fun b9 h9 => rfl)⟩

set_option maxHeartbeats 4000000 in
set_option maxRecDepth 100000 in
theorem s_X11_sampled (G : EnvG) (l : Launch) (Φ : Hm) (sz x ca : Nat)  (hx : G.2.2.2 ≤ x) (hI : In G x ca Φ)  : Ct G l yX11_sampled wsX11_sampled ({ frames := 0, cells := 0, slots := 0, locals := 0 }) 0 0 [.ref x] Φ sz (fun v Φ1 sz1 => (∃ r9 : Int64, v = some (.long r9)) ∧ sz1 = sz ∧ In G x (ca) Φ1 ∧ Fr x (fun j9 => 2 ≤ j9 ∧ j9 < 149) Φ Φ1) := by
  refine Ct.of (cc := cX11_sampled) (maxL := 1) (ret := (some .long)) (by decide) rfl (Nat.le_of_ble_eq_true rfl) ?_
  intro p9 e9 s9 m9 w9 t9 k9 B
  show Z p9 l e9 _ s9 m9 _ w9 t9 k9 _ G 1 0 [(0, .ref x)] [] Φ sz 0 0
  refine z_aload_n B dX11_sampled_0 rfl 0 rfl ?_
  have h_1 := in0 (k := 0) hI rfl
  have h_2 : Φ x = some (o_ 13 [.ref (x + 1), .ref (x + 3), .ref (x + 24), .ref (x + 46), .ref (x + 74), .ref (x + 80), .ref (x + 132), .ref (x + 121)]) := h_1
  refine z_get (ref := "FlowExporter") (C := RX11) (T := TX11) (N := 8) (ci := 13) (v := .ref (x + 80)) B (by decide +kernel) rfl 5 (by decide) (by decide +kernel) rfl h_2 rfl dX11_sampled_1 ?_
  obtain ⟨v_1, v_2, v_3, v_4, v_5, v_6, v_7, v_8, v_9, h_3, b_1⟩ := in16 (k := 80) hI rfl
  have h_4 : Φ (x + 80) = some (o_ 4 [.ref (x + 3), .ref (x + 74), .ref (x + 81), .ref (x + 95), .int v_1, .int v_2, .int v_3, .int v_4, .int v_5, .int v_6, .long v_7, .long v_8, .long v_9]) := h_3
  refine z_get (ref := "FlowExporter$Exporter") (C := RX2) (T := TX2) (N := 13) (ci := 4) (v := .long v_8) B (by decide +kernel) rfl 11 (by decide) (by decide +kernel) rfl h_4 rfl dX11_sampled_4 ?_
  exact z_ret_l B dX11_sampled_7 ⟨⟨_, rfl⟩, rfl, hI, (fun b9 h9 => rfl)⟩

set_option maxHeartbeats 4000000 in
set_option maxRecDepth 100000 in
theorem s_X11_unsent (G : EnvG) (l : Launch) (Φ : Hm) (sz x ca : Nat)  (hx : G.2.2.2 ≤ x) (hI : In G x ca Φ)  : Ct G l yX11_unsent wsX11_unsent ({ frames := 0, cells := 0, slots := 0, locals := 0 }) 0 0 [.ref x] Φ sz (fun v Φ1 sz1 => (∃ r9 : Int64, v = some (.long r9)) ∧ sz1 = sz ∧ In G x (ca) Φ1 ∧ Fr x (fun j9 => 2 ≤ j9 ∧ j9 < 149) Φ Φ1) := by
  refine Ct.of (cc := cX11_unsent) (maxL := 1) (ret := (some .long)) (by decide) rfl (Nat.le_of_ble_eq_true rfl) ?_
  intro p9 e9 s9 m9 w9 t9 k9 B
  show Z p9 l e9 _ s9 m9 _ w9 t9 k9 _ G 1 0 [(0, .ref x)] [] Φ sz 0 0
  refine z_aload_n B dX11_unsent_0 rfl 0 rfl ?_
  have h_1 := in0 (k := 0) hI rfl
  have h_2 : Φ x = some (o_ 13 [.ref (x + 1), .ref (x + 3), .ref (x + 24), .ref (x + 46), .ref (x + 74), .ref (x + 80), .ref (x + 132), .ref (x + 121)]) := h_1
  refine z_get (ref := "FlowExporter") (C := RX11) (T := TX11) (N := 8) (ci := 13) (v := .ref (x + 80)) B (by decide +kernel) rfl 5 (by decide) (by decide +kernel) rfl h_2 rfl dX11_unsent_1 ?_
  obtain ⟨v_1, v_2, v_3, v_4, v_5, v_6, v_7, v_8, v_9, h_3, b_1⟩ := in16 (k := 80) hI rfl
  have h_4 : Φ (x + 80) = some (o_ 4 [.ref (x + 3), .ref (x + 74), .ref (x + 81), .ref (x + 95), .int v_1, .int v_2, .int v_3, .int v_4, .int v_5, .int v_6, .long v_7, .long v_8, .long v_9]) := h_3
  refine z_get (ref := "FlowExporter$Exporter") (C := RX2) (T := TX2) (N := 13) (ci := 4) (v := .long v_9) B (by decide +kernel) rfl 12 (by decide) (by decide +kernel) rfl h_4 rfl dX11_unsent_4 ?_
  exact z_ret_l B dX11_unsent_7 ⟨⟨_, rfl⟩, rfl, hI, (fun b9 h9 => rfl)⟩

set_option maxHeartbeats 4000000 in
set_option maxRecDepth 100000 in
theorem s_X11_templateCount (G : EnvG) (l : Launch) (Φ : Hm) (sz x ca : Nat)  (hx : G.2.2.2 ≤ x) (hI : In G x ca Φ)  : Ct G l yX11_templateCount wsX11_templateCount ({ frames := 0, cells := 0, slots := 0, locals := 0 }) 0 0 [.ref x] Φ sz (fun v Φ1 sz1 => (∃ r9 : Int32, v = some (.int r9)) ∧ sz1 = sz ∧ In G x (ca) Φ1 ∧ Fr x (fun j9 => 2 ≤ j9 ∧ j9 < 149) Φ Φ1) := by
  refine Ct.of (cc := cX11_templateCount) (maxL := 1) (ret := (some .int)) (by decide) rfl (Nat.le_of_ble_eq_true rfl) ?_
  intro p9 e9 s9 m9 w9 t9 k9 B
  show Z p9 l e9 _ s9 m9 _ w9 t9 k9 _ G 1 0 [(0, .ref x)] [] Φ sz 0 0
  refine z_aload_n B dX11_templateCount_0 rfl 0 rfl ?_
  have h_1 := in0 (k := 0) hI rfl
  have h_2 : Φ x = some (o_ 13 [.ref (x + 1), .ref (x + 3), .ref (x + 24), .ref (x + 46), .ref (x + 74), .ref (x + 80), .ref (x + 132), .ref (x + 121)]) := h_1
  refine z_get (ref := "FlowExporter") (C := RX11) (T := TX11) (N := 8) (ci := 13) (v := .ref (x + 3)) B (by decide +kernel) rfl 1 (by decide) (by decide +kernel) rfl h_2 rfl dX11_templateCount_1 ?_
  obtain ⟨v_1, v_2, h_3⟩ := in3 (k := 3) hI rfl
  have h_4 : Φ (x + 3) = some (o_ 3 [.ref (x + 4), .ref (x + 5), .ref (x + 6), .ref (x + 7), .int v_1, .int v_2]) := h_3
  refine z_get (ref := "FlowExporter$Config") (C := RX1) (T := TX1) (N := 6) (ci := 3) (v := .int v_1) B (by decide +kernel) rfl 4 (by decide) (by decide +kernel) rfl h_4 rfl dX11_templateCount_4 ?_
  exact z_ret_i B dX11_templateCount_7 ⟨⟨_, rfl⟩, rfl, hI, (fun b9 h9 => rfl)⟩

set_option maxHeartbeats 4000000 in
set_option maxRecDepth 100000 in
theorem s_X11_requestTemplates (G : EnvG) (l : Launch) (Φ : Hm) (sz x ca : Nat)  (hx : G.2.2.2 ≤ x) (hI : In G x ca Φ)  : Ct G l yX11_requestTemplates wsX11_requestTemplates ({ frames := 2, cells := 0, slots := 0, locals := 43 }) 0 0 [.ref x] Φ sz (fun v Φ1 sz1 => (v = none) ∧ sz1 = sz ∧ In G x (ca) Φ1 ∧ Fr x (fun j9 => 2 ≤ j9 ∧ j9 < 149) Φ Φ1) := by
  refine Ct.of (cc := cX11_requestTemplates) (maxL := 1) (ret := none) (by decide) rfl (Nat.le_of_ble_eq_true rfl) ?_
  intro p9 e9 s9 m9 w9 t9 k9 B
  show Z p9 l e9 _ s9 m9 _ w9 t9 k9 _ G 1 0 [(0, .ref x)] [] Φ sz 0 0
  refine z_aload_n B dX11_requestTemplates_0 rfl 0 rfl ?_
  have h_1 := in0 (k := 0) hI rfl
  have h_2 : Φ x = some (o_ 13 [.ref (x + 1), .ref (x + 3), .ref (x + 24), .ref (x + 46), .ref (x + 74), .ref (x + 80), .ref (x + 132), .ref (x + 121)]) := h_1
  refine z_get (ref := "FlowExporter") (C := RX11) (T := TX11) (N := 8) (ci := 13) (v := .ref (x + 74)) B (by decide +kernel) rfl 4 (by decide) (by decide +kernel) rfl h_2 rfl dX11_requestTemplates_1 ?_
  obtain ⟨n_1, v_1, v_2, v_3, h_3, b_1⟩ := in13 (k := 74) hI rfl
  have h_4 : Φ (x + 74) = some (o_ 10 [.ref (x + 3), .ref (x + 46), .ref (x + 75), .ref (x + 77), .int (nI n_1), .ref (x + 78), .ref (x + 79), .int v_1, .long v_2, .int v_3]) := h_3
  refine z_callV (As := []) (rest := []) B (s_X8_forgetTemplates G l Φ sz x (ca)  hx hI ) (cwV 0 B.1.2.2.2.2 gX11_requestTemplates_X8_forgetTemplates rfl rfl rfl (by decide +kernel) ⟨Nat.le_of_ble_eq_true rfl, Nat.le_of_ble_eq_true rfl⟩) h_4 rfl rfl rfl rfl (Nat.le_of_ble_eq_true rfl) dX11_requestTemplates_4 ⟨Nat.le_of_ble_eq_true rfl, Nat.le_of_ble_eq_true rfl⟩ (fun r_1 Φ1 sz1 st1 hp1 hs1 => ?_)
  obtain ⟨rfl, hq1, hI1, hF1⟩ := hp1
  subst sz1
  replace hs1 : st1 = [] := hs1
  subst st1
  replace hI1 : In G x (ca) Φ1 := hI1
  exact z_ret_v B dX11_requestTemplates_7 ⟨rfl, rfl, hI1, (fun b9 h9 => ((hF1 b9 (fun j9 h8 h7 => h9 j9 h8 (show 2 ≤ j9 ∧ j9 < 149 by have h6 : j9 = 78 := h7; omega))).trans rfl))⟩

set_option maxHeartbeats 4000000 in
set_option maxRecDepth 100000 in
theorem s_X11_sent (G : EnvG) (l : Launch) (Φ : Hm) (sz x ca : Nat)  (hx : G.2.2.2 ≤ x) (hI : In G x ca Φ)  : Ct G l yX11_sent wsX11_sent ({ frames := 0, cells := 0, slots := 0, locals := 0 }) 0 0 [.ref x] Φ sz (fun v Φ1 sz1 => (∃ r9 : Int64, v = some (.long r9)) ∧ sz1 = sz ∧ In G x (ca) Φ1 ∧ Fr x (fun j9 => 2 ≤ j9 ∧ j9 < 149) Φ Φ1) := by
  refine Ct.of (cc := cX11_sent) (maxL := 1) (ret := (some .long)) (by decide) rfl (Nat.le_of_ble_eq_true rfl) ?_
  intro p9 e9 s9 m9 w9 t9 k9 B
  show Z p9 l e9 _ s9 m9 _ w9 t9 k9 _ G 1 0 [(0, .ref x)] [] Φ sz 0 0
  refine z_aload_n B dX11_sent_0 rfl 0 rfl ?_
  have h_1 := in0 (k := 0) hI rfl
  have h_2 : Φ x = some (o_ 13 [.ref (x + 1), .ref (x + 3), .ref (x + 24), .ref (x + 46), .ref (x + 74), .ref (x + 80), .ref (x + 132), .ref (x + 121)]) := h_1
  refine z_get (ref := "FlowExporter") (C := RX11) (T := TX11) (N := 8) (ci := 13) (v := .ref (x + 74)) B (by decide +kernel) rfl 4 (by decide) (by decide +kernel) rfl h_2 rfl dX11_sent_1 ?_
  obtain ⟨n_1, v_1, v_2, v_3, h_3, b_1⟩ := in13 (k := 74) hI rfl
  have h_4 : Φ (x + 74) = some (o_ 10 [.ref (x + 3), .ref (x + 46), .ref (x + 75), .ref (x + 77), .int (nI n_1), .ref (x + 78), .ref (x + 79), .int v_1, .long v_2, .int v_3]) := h_3
  refine z_get (ref := "FlowExporter$Sender") (C := RX8) (T := TX8) (N := 10) (ci := 10) (v := .long v_2) B (by decide +kernel) rfl 8 (by decide) (by decide +kernel) rfl h_4 rfl dX11_sent_4 ?_
  exact z_ret_l B dX11_sent_7 ⟨⟨_, rfl⟩, rfl, hI, (fun b9 h9 => rfl)⟩

set_option maxHeartbeats 4000000 in
set_option maxRecDepth 100000 in
theorem s_X11_dropped (G : EnvG) (l : Launch) (Φ : Hm) (sz x ca : Nat)  (hx : G.2.2.2 ≤ x) (hI : In G x ca Φ)  : Ct G l yX11_dropped wsX11_dropped ({ frames := 0, cells := 0, slots := 0, locals := 0 }) 0 0 [.ref x] Φ sz (fun v Φ1 sz1 => (∃ r9 : Int32, v = some (.int r9)) ∧ sz1 = sz ∧ In G x (ca) Φ1 ∧ Fr x (fun j9 => 2 ≤ j9 ∧ j9 < 149) Φ Φ1) := by
  refine Ct.of (cc := cX11_dropped) (maxL := 1) (ret := (some .int)) (by decide) rfl (Nat.le_of_ble_eq_true rfl) ?_
  intro p9 e9 s9 m9 w9 t9 k9 B
  show Z p9 l e9 _ s9 m9 _ w9 t9 k9 _ G 1 0 [(0, .ref x)] [] Φ sz 0 0
  refine z_aload_n B dX11_dropped_0 rfl 0 rfl ?_
  have h_1 := in0 (k := 0) hI rfl
  have h_2 : Φ x = some (o_ 13 [.ref (x + 1), .ref (x + 3), .ref (x + 24), .ref (x + 46), .ref (x + 74), .ref (x + 80), .ref (x + 132), .ref (x + 121)]) := h_1
  refine z_get (ref := "FlowExporter") (C := RX11) (T := TX11) (N := 8) (ci := 13) (v := .ref (x + 46)) B (by decide +kernel) rfl 3 (by decide) (by decide +kernel) rfl h_2 rfl dX11_dropped_1 ?_
  obtain ⟨n_1, v_1, h_3, b_1⟩ := in11 (k := 46) hI rfl
  have h_4 : Φ (x + 46) = some (o_ 9 [.ref (x + 47), .int (nI n_1), .int v_1]) := h_3
  refine z_get (ref := "FlowExporter$Queue") (C := RX7) (T := TX7) (N := 3) (ci := 9) (v := .int v_1) B (by decide +kernel) rfl 2 (by decide) (by decide +kernel) rfl h_4 rfl dX11_dropped_4 ?_
  exact z_ret_i B dX11_dropped_7 ⟨⟨_, rfl⟩, rfl, hI, (fun b9 h9 => rfl)⟩

set_option maxHeartbeats 4000000 in
set_option maxRecDepth 100000 in
theorem s_X11_sequence (G : EnvG) (l : Launch) (Φ : Hm) (sz x ca : Nat)  (hx : G.2.2.2 ≤ x) (hI : In G x ca Φ)  : Ct G l yX11_sequence wsX11_sequence ({ frames := 0, cells := 0, slots := 0, locals := 0 }) 0 0 [.ref x] Φ sz (fun v Φ1 sz1 => (∃ r9 : Int64, v = some (.long r9)) ∧ sz1 = sz ∧ In G x (ca) Φ1 ∧ Fr x (fun j9 => 2 ≤ j9 ∧ j9 < 149) Φ Φ1) := by
  refine Ct.of (cc := cX11_sequence) (maxL := 1) (ret := (some .long)) (by decide) rfl (Nat.le_of_ble_eq_true rfl) ?_
  intro p9 e9 s9 m9 w9 t9 k9 B
  show Z p9 l e9 _ s9 m9 _ w9 t9 k9 _ G 1 0 [(0, .ref x)] [] Φ sz 0 0
  refine z_aload_n B dX11_sequence_0 rfl 0 rfl ?_
  have h_1 := in0 (k := 0) hI rfl
  have h_2 : Φ x = some (o_ 13 [.ref (x + 1), .ref (x + 3), .ref (x + 24), .ref (x + 46), .ref (x + 74), .ref (x + 80), .ref (x + 132), .ref (x + 121)]) := h_1
  refine z_get (ref := "FlowExporter") (C := RX11) (T := TX11) (N := 8) (ci := 13) (v := .ref (x + 74)) B (by decide +kernel) rfl 4 (by decide) (by decide +kernel) rfl h_2 rfl dX11_sequence_1 ?_
  obtain ⟨n_1, v_1, v_2, v_3, h_3, b_1⟩ := in13 (k := 74) hI rfl
  have h_4 : Φ (x + 74) = some (o_ 10 [.ref (x + 3), .ref (x + 46), .ref (x + 75), .ref (x + 77), .int (nI n_1), .ref (x + 78), .ref (x + 79), .int v_1, .long v_2, .int v_3]) := h_3
  refine z_get (ref := "FlowExporter$Sender") (C := RX8) (T := TX8) (N := 10) (ci := 10) (v := .int v_3) B (by decide +kernel) rfl 9 (by decide) (by decide +kernel) rfl h_4 rfl dX11_sequence_4 ?_
  refine z_i2l (v := v_3.toInt64) B dX11_sequence_7 rfl ?_
  refine z_fl (fun v_4 => ?_)
  refine z_ldc2 (v := 4294967295) B (by decide +kernel) dX11_sequence_8 ?_
  refine z_land B dX11_sequence_11 ?_
  refine z_fl (fun v_5 => ?_)
  exact z_ret_l B dX11_sequence_12 ⟨⟨_, rfl⟩, rfl, hI, (fun b9 h9 => rfl)⟩

set_option maxHeartbeats 4000000 in
set_option maxRecDepth 100000 in
theorem s_X11_queueLength (G : EnvG) (l : Launch) (Φ : Hm) (sz x ca : Nat)  (hx : G.2.2.2 ≤ x) (hI : In G x ca Φ)  : Ct G l yX11_queueLength wsX11_queueLength ({ frames := 0, cells := 0, slots := 0, locals := 0 }) 0 0 [.ref x] Φ sz (fun v Φ1 sz1 => (∃ r9 : Int32, v = some (.int r9)) ∧ sz1 = sz ∧ In G x (ca) Φ1 ∧ Fr x (fun j9 => 2 ≤ j9 ∧ j9 < 149) Φ Φ1) := by
  refine Ct.of (cc := cX11_queueLength) (maxL := 1) (ret := (some .int)) (by decide) rfl (Nat.le_of_ble_eq_true rfl) ?_
  intro p9 e9 s9 m9 w9 t9 k9 B
  show Z p9 l e9 _ s9 m9 _ w9 t9 k9 _ G 1 0 [(0, .ref x)] [] Φ sz 0 0
  refine z_aload_n B dX11_queueLength_0 rfl 0 rfl ?_
  have h_1 := in0 (k := 0) hI rfl
  have h_2 : Φ x = some (o_ 13 [.ref (x + 1), .ref (x + 3), .ref (x + 24), .ref (x + 46), .ref (x + 74), .ref (x + 80), .ref (x + 132), .ref (x + 121)]) := h_1
  refine z_get (ref := "FlowExporter") (C := RX11) (T := TX11) (N := 8) (ci := 13) (v := .ref (x + 46)) B (by decide +kernel) rfl 3 (by decide) (by decide +kernel) rfl h_2 rfl dX11_queueLength_1 ?_
  obtain ⟨n_1, v_1, h_3, b_1⟩ := in11 (k := 46) hI rfl
  have h_4 : Φ (x + 46) = some (o_ 9 [.ref (x + 47), .int (nI n_1), .int v_1]) := h_3
  refine z_get (ref := "FlowExporter$Queue") (C := RX7) (T := TX7) (N := 3) (ci := 9) (v := .int (nI n_1)) B (by decide +kernel) rfl 1 (by decide) (by decide +kernel) rfl h_4 rfl dX11_queueLength_4 ?_
  exact z_ret_i B dX11_queueLength_7 ⟨⟨_, rfl⟩, rfl, hI, (fun b9 h9 => rfl)⟩

set_option maxHeartbeats 4000000 in
set_option maxRecDepth 100000 in
theorem s_X11_knownTemplates (G : EnvG) (l : Launch) (Φ : Hm) (sz x ca : Nat)  (hx : G.2.2.2 ≤ x) (hI : In G x ca Φ)  : Ct G l yX11_knownTemplates wsX11_knownTemplates ({ frames := 3, cells := 0, slots := 0, locals := 68 }) 0 0 [.ref x] Φ sz (fun v Φ1 sz1 => (∃ r9 : Int32, v = some (.int r9)) ∧ sz1 = sz ∧ In G x (ca) Φ1 ∧ Fr x (fun j9 => 2 ≤ j9 ∧ j9 < 149) Φ Φ1) := by
  refine Ct.of (cc := cX11_knownTemplates) (maxL := 1) (ret := (some .int)) (by decide) rfl (Nat.le_of_ble_eq_true rfl) ?_
  intro p9 e9 s9 m9 w9 t9 k9 B
  show Z p9 l e9 _ s9 m9 _ w9 t9 k9 _ G 1 0 [(0, .ref x)] [] Φ sz 0 0
  refine z_aload_n B dX11_knownTemplates_0 rfl 0 rfl ?_
  have h_1 := in0 (k := 0) hI rfl
  have h_2 : Φ x = some (o_ 13 [.ref (x + 1), .ref (x + 3), .ref (x + 24), .ref (x + 46), .ref (x + 74), .ref (x + 80), .ref (x + 132), .ref (x + 121)]) := h_1
  refine z_get (ref := "FlowExporter") (C := RX11) (T := TX11) (N := 8) (ci := 13) (v := .ref (x + 132)) B (by decide +kernel) rfl 6 (by decide) (by decide +kernel) rfl h_2 rfl dX11_knownTemplates_1 ?_
  refine z_aload_n B dX11_knownTemplates_4 rfl 0 rfl ?_
  refine z_get (ref := "FlowExporter") (C := RX11) (T := TX11) (N := 8) (ci := 13) (v := .ref (x + 80)) B (by decide +kernel) rfl 5 (by decide) (by decide +kernel) rfl h_2 rfl dX11_knownTemplates_5 ?_
  obtain ⟨v_1, v_2, v_3, v_4, v_5, v_6, v_7, v_8, v_9, h_3, b_1⟩ := in16 (k := 80) hI rfl
  have h_4 : Φ (x + 80) = some (o_ 4 [.ref (x + 3), .ref (x + 74), .ref (x + 81), .ref (x + 95), .int v_1, .int v_2, .int v_3, .int v_4, .int v_5, .int v_6, .long v_7, .long v_8, .long v_9]) := h_3
  refine z_get (ref := "FlowExporter$Exporter") (C := RX2) (T := TX2) (N := 13) (ci := 4) (v := .int v_1) B (by decide +kernel) rfl 4 (by decide) (by decide +kernel) rfl h_4 rfl dX11_knownTemplates_8 ?_
  obtain ⟨n_1, v_10, v_11, h_5, b_2⟩ := in25 (k := 132) hI rfl
  have h_6 : Φ (x + 132) = some (o_ 2 [.ref (x + 3), .ref (x + 121), .ref (x + 133), .ref (x + 134), .ref (x + 135), .ref (x + 137), .ref (x + 138), .ref (x + 139), .ref (x + 140), .int (nI n_1), .int v_10, .int v_11]) := h_5
  refine z_callV (As := [.int v_1]) (rest := []) B (s_X0_usableTemplates G l Φ sz x (ca) v_1 hx hI ) (cwV 1 B.1.2.2.2.2 gX11_knownTemplates_X0_usableTemplates rfl rfl rfl (by decide +kernel) ⟨Nat.le_of_ble_eq_true rfl, Nat.le_of_ble_eq_true rfl⟩) h_6 rfl rfl rfl rfl (Nat.le_of_ble_eq_true rfl) dX11_knownTemplates_11 ⟨Nat.le_of_ble_eq_true rfl, Nat.le_of_ble_eq_true rfl⟩ (fun r_1 Φ1 sz1 st1 hp1 hs1 => ?_)
  obtain ⟨⟨v_12, rfl⟩, hq1, hI1, hF1⟩ := hp1
  subst sz1
  replace hs1 : st1 = [.int v_12] := hs1
  subst st1
  replace hI1 : In G x (ca) Φ1 := hI1
  exact z_ret_i B dX11_knownTemplates_14 ⟨⟨_, rfl⟩, rfl, hI1, (fun b9 h9 => ((hF1 b9 (fun j9 h8 h7 => (show False from h7).elim)).trans rfl))⟩

set_option maxHeartbeats 4000000 in
set_option maxRecDepth 100000 in
theorem s_X11_expected (G : EnvG) (l : Launch) (Φ : Hm) (sz x ca : Nat)  (hx : G.2.2.2 ≤ x) (hI : In G x ca Φ) (hca : ca < 1000000) : Ct G l yX11_expected wsX11_expected ({ frames := 1, cells := 0, slots := 0, locals := 20 }) 0 0 [.ref x] Φ sz (fun v Φ1 sz1 => (∃ r9 : Int64, v = some (.long r9)) ∧ sz1 = sz ∧ In G x (ca) Φ1 ∧ Fr x (fun j9 => 2 ≤ j9 ∧ j9 < 149) Φ Φ1) := by
  refine Ct.of (cc := cX11_expected) (maxL := 1) (ret := (some .long)) (by decide) rfl (Nat.le_of_ble_eq_true rfl) ?_
  intro p9 e9 s9 m9 w9 t9 k9 B
  show Z p9 l e9 _ s9 m9 _ w9 t9 k9 _ G 1 0 [(0, .ref x)] [] Φ sz 0 0
  refine z_aload_n B dX11_expected_0 rfl 0 rfl ?_
  have h_1 := in0 (k := 0) hI rfl
  have h_2 : Φ x = some (o_ 13 [.ref (x + 1), .ref (x + 3), .ref (x + 24), .ref (x + 46), .ref (x + 74), .ref (x + 80), .ref (x + 132), .ref (x + 121)]) := h_1
  refine z_get (ref := "FlowExporter") (C := RX11) (T := TX11) (N := 8) (ci := 13) (v := .ref (x + 132)) B (by decide +kernel) rfl 6 (by decide) (by decide +kernel) rfl h_2 rfl dX11_expected_1 ?_
  obtain ⟨n_1, v_1, v_2, h_3, b_1⟩ := in25 (k := 132) hI rfl
  have h_4 : Φ (x + 132) = some (o_ 2 [.ref (x + 3), .ref (x + 121), .ref (x + 133), .ref (x + 134), .ref (x + 135), .ref (x + 137), .ref (x + 138), .ref (x + 139), .ref (x + 140), .int (nI n_1), .int v_1, .int v_2]) := h_3
  refine z_callV (As := []) (rest := []) B (s_X0_hasStarted G l Φ sz x (ca)  hx hI (show ca < 1000000 by omega)) (cwV 0 B.1.2.2.2.2 gX11_expected_X0_hasStarted rfl rfl rfl (by decide +kernel) ⟨Nat.le_of_ble_eq_true rfl, Nat.le_of_ble_eq_true rfl⟩) h_4 rfl rfl rfl rfl (Nat.le_of_ble_eq_true rfl) dX11_expected_4 ⟨Nat.le_of_ble_eq_true rfl, Nat.le_of_ble_eq_true rfl⟩ (fun r_1 Φ1 sz1 st1 hp1 hs1 => ?_)
  obtain ⟨⟨v_3, rfl, b_2⟩, hq1, hI1, hF1⟩ := hp1
  subst sz1
  replace hs1 : st1 = [.int v_3] := hs1
  subst st1
  replace hI1 : In G x (ca) Φ1 := hI1
  refine z_if_eq (tgt := 25) B dX11_expected_7 rfl (fun c_1 => ?_) (fun c_1 => ?_)
  · refine z_ldc2 (v := (-1)) B (by decide +kernel) dX11_expected_25 ?_
    exact z_ret_l B dX11_expected_28 ⟨⟨_, rfl⟩, rfl, hI1, (fun b9 h9 => ((hF1 b9 (fun j9 h8 h7 => (show False from h7).elim)).trans rfl))⟩
  · refine z_aload_n B dX11_expected_10 rfl 0 rfl ?_
    have h_5 : Φ1 x = some (o_ 13 [.ref (x + 1), .ref (x + 3), .ref (x + 24), .ref (x + 46), .ref (x + 74), .ref (x + 80), .ref (x + 132), .ref (x + 121)]) := ((hF1 x (fun j9 h8 h7 => (show False from h7).elim)).trans h_2)
    refine z_get (ref := "FlowExporter") (C := RX11) (T := TX11) (N := 8) (ci := 13) (v := .ref (x + 132)) B (by decide +kernel) rfl 6 (by decide) (by decide +kernel) rfl h_5 rfl dX11_expected_11 ?_
    have h_6 : Φ1 (x + 132) = some (o_ 2 [.ref (x + 3), .ref (x + 121), .ref (x + 133), .ref (x + 134), .ref (x + 135), .ref (x + 137), .ref (x + 138), .ref (x + 139), .ref (x + 140), .int (nI n_1), .int v_1, .int v_2]) := ((hF1 (x + 132) (fun j9 h8 h7 => (show False from h7).elim)).trans h_4)
    refine z_get (ref := "FlowExporter$Collector") (C := RX0) (T := TX0) (N := 12) (ci := 2) (v := .int v_2) B (by decide +kernel) rfl 11 (by decide) (by decide +kernel) rfl h_6 rfl dX11_expected_14 ?_
    refine z_i2l (v := v_2.toInt64) B dX11_expected_17 rfl ?_
    refine z_fl (fun v_4 => ?_)
    refine z_ldc2 (v := 4294967295) B (by decide +kernel) dX11_expected_18 ?_
    refine z_land B dX11_expected_21 ?_
    refine z_fl (fun v_5 => ?_)
    refine z_goto (tgt := 28) B dX11_expected_22 rfl ?_
    exact z_ret_l B dX11_expected_28 ⟨⟨_, rfl⟩, rfl, hI1, (fun b9 h9 => ((hF1 b9 (fun j9 h8 h7 => (show False from h7).elim)).trans rfl))⟩

set_option maxHeartbeats 4000000 in
set_option maxRecDepth 100000 in
theorem s_X11_restartCollector (G : EnvG) (l : Launch) (Φ : Hm) (sz x ca : Nat)  (hx : G.2.2.2 ≤ x) (hI : In G x ca Φ)  : Ct G l yX11_restartCollector wsX11_restartCollector ({ frames := 2, cells := 0, slots := 0, locals := 42 }) 0 0 [.ref x] Φ sz (fun v Φ1 sz1 => (∃ r9 : Int32, v = some (.int r9)) ∧ sz1 = sz ∧ In G x (ca) Φ1 ∧ Fr x (fun j9 => 2 ≤ j9 ∧ j9 < 149) Φ Φ1) := by
  refine Ct.of (cc := cX11_restartCollector) (maxL := 1) (ret := (some .int)) (by decide) rfl (Nat.le_of_ble_eq_true rfl) ?_
  intro p9 e9 s9 m9 w9 t9 k9 B
  show Z p9 l e9 _ s9 m9 _ w9 t9 k9 _ G 1 0 [(0, .ref x)] [] Φ sz 0 0
  refine z_aload_n B dX11_restartCollector_0 rfl 0 rfl ?_
  have h_1 := in0 (k := 0) hI rfl
  have h_2 : Φ x = some (o_ 13 [.ref (x + 1), .ref (x + 3), .ref (x + 24), .ref (x + 46), .ref (x + 74), .ref (x + 80), .ref (x + 132), .ref (x + 121)]) := h_1
  refine z_get (ref := "FlowExporter") (C := RX11) (T := TX11) (N := 8) (ci := 13) (v := .ref (x + 132)) B (by decide +kernel) rfl 6 (by decide) (by decide +kernel) rfl h_2 rfl dX11_restartCollector_1 ?_
  obtain ⟨n_1, v_1, v_2, h_3, b_1⟩ := in25 (k := 132) hI rfl
  have h_4 : Φ (x + 132) = some (o_ 2 [.ref (x + 3), .ref (x + 121), .ref (x + 133), .ref (x + 134), .ref (x + 135), .ref (x + 137), .ref (x + 138), .ref (x + 139), .ref (x + 140), .int (nI n_1), .int v_1, .int v_2]) := h_3
  refine z_callV (As := []) (rest := []) B (s_X0_restart G l Φ sz x (ca)  hx hI ) (cwV 0 B.1.2.2.2.2 gX11_restartCollector_X0_restart rfl rfl rfl (by decide +kernel) ⟨Nat.le_of_ble_eq_true rfl, Nat.le_of_ble_eq_true rfl⟩) h_4 rfl rfl rfl rfl (Nat.le_of_ble_eq_true rfl) dX11_restartCollector_4 ⟨Nat.le_of_ble_eq_true rfl, Nat.le_of_ble_eq_true rfl⟩ (fun r_1 Φ1 sz1 st1 hp1 hs1 => ?_)
  obtain ⟨⟨v_3, rfl⟩, hq1, hI1, hF1⟩ := hp1
  subst sz1
  replace hs1 : st1 = [.int v_3] := hs1
  subst st1
  replace hI1 : In G x (ca) Φ1 := hI1
  exact z_ret_i B dX11_restartCollector_7 ⟨⟨_, rfl⟩, rfl, hI1, (fun b9 h9 => ((hF1 b9 (fun j9 h8 h7 => h9 j9 h8 (show 2 ≤ j9 ∧ j9 < 149 by have h6 : 132 ≤ j9 ∧ j9 < 149 := h7; omega))).trans rfl))⟩

set_option maxHeartbeats 4000000 in
set_option maxRecDepth 100000 in
theorem s_X11_keyCount (G : EnvG) (l : Launch) (Φ : Hm) (sz x ca : Nat)  (hx : G.2.2.2 ≤ x) (hI : In G x ca Φ)  : Ct G l yX11_keyCount wsX11_keyCount ({ frames := 0, cells := 0, slots := 0, locals := 0 }) 0 0 [.ref x] Φ sz (fun v Φ1 sz1 => (∃ r9 : Int32, v = some (.int r9)) ∧ sz1 = sz ∧ In G x (ca) Φ1 ∧ Fr x (fun j9 => 2 ≤ j9 ∧ j9 < 149) Φ Φ1) := by
  refine Ct.of (cc := cX11_keyCount) (maxL := 1) (ret := (some .int)) (by decide) rfl (Nat.le_of_ble_eq_true rfl) ?_
  intro p9 e9 s9 m9 w9 t9 k9 B
  show Z p9 l e9 _ s9 m9 _ w9 t9 k9 _ G 1 0 [(0, .ref x)] [] Φ sz 0 0
  refine z_aload_n B dX11_keyCount_0 rfl 0 rfl ?_
  have h_1 := in0 (k := 0) hI rfl
  have h_2 : Φ x = some (o_ 13 [.ref (x + 1), .ref (x + 3), .ref (x + 24), .ref (x + 46), .ref (x + 74), .ref (x + 80), .ref (x + 132), .ref (x + 121)]) := h_1
  refine z_get (ref := "FlowExporter") (C := RX11) (T := TX11) (N := 8) (ci := 13) (v := .ref (x + 121)) B (by decide +kernel) rfl 7 (by decide) (by decide +kernel) rfl h_2 rfl dX11_keyCount_1 ?_
  obtain ⟨n_1, h_3, b_1⟩ := in20 (k := 121) hI rfl
  have h_4 : Φ (x + 121) = some (o_ 11 [.ref (x + 122), .ref (x + 123), .ref (x + 126), .ref (x + 129), .int (nI n_1)]) := h_3
  refine z_get (ref := "FlowExporter$Sums") (C := RX9) (T := TX9) (N := 5) (ci := 11) (v := .int (nI n_1)) B (by decide +kernel) rfl 4 (by decide) (by decide +kernel) rfl h_4 rfl dX11_keyCount_4 ?_
  exact z_ret_i B dX11_keyCount_7 ⟨⟨_, rfl⟩, rfl, hI, (fun b9 h9 => rfl)⟩

set_option maxHeartbeats 4000000 in
set_option maxRecDepth 100000 in
theorem s_X11_appendInput (G : EnvG) (l : Launch) (Φ : Hm) (sz x ca : Nat) (n : Nat) (a : Int32) (b : Int32) (d : Int32) (f : Int32) (g : Int32) (hx : G.2.2.2 ≤ x) (hI : In G x ca Φ) (hc0 : Φ (x + 1) = some (o_ 7 [.ref (x + 2), .int (nI n)])) (hn : n ≤ 700) : Ct G l yX11_appendInput wsX11_appendInput ({ frames := 1, cells := 0, slots := 0, locals := 24 }) 0 0 [.ref x, .int a, .int b, .int d, .int f, .int g] Φ sz (fun v Φ1 sz1 => (∃ n9 : Nat, Φ1 (x + 1) = some (o_ 7 [.ref (x + 2), .int (nI n9)]) ∧ apV n v n9) ∧ sz1 = sz ∧ In G x (ca) Φ1 ∧ Fr x (fun j9 => 1 ≤ j9 ∧ j9 < 149) Φ Φ1) := by
  refine Ct.of (cc := cX11_appendInput) (maxL := 6) (ret := (some .int)) (by decide) rfl (Nat.le_of_ble_eq_true rfl) ?_
  intro p9 e9 s9 m9 w9 t9 k9 B
  show Z p9 l e9 _ s9 m9 _ w9 t9 k9 _ G 6 0 [(0, .ref x), (1, .int a), (2, .int b), (3, .int d), (4, .int f), (5, .int g)] [] Φ sz 0 0
  refine z_aload_n B dX11_appendInput_0 rfl 0 rfl ?_
  have h_1 := in0 (k := 0) hI rfl
  have h_2 : Φ x = some (o_ 13 [.ref (x + 1), .ref (x + 3), .ref (x + 24), .ref (x + 46), .ref (x + 74), .ref (x + 80), .ref (x + 132), .ref (x + 121)]) := h_1
  refine z_get (ref := "FlowExporter") (C := RX11) (T := TX11) (N := 8) (ci := 13) (v := .ref (x + 1)) B (by decide +kernel) rfl 0 (by decide) (by decide +kernel) rfl h_2 rfl dX11_appendInput_1 ?_
  refine z_get (ref := "FlowExporter$Message") (C := RX5) (T := TX5) (N := 2) (ci := 7) (v := .int (nI n)) B (by decide +kernel) rfl 1 (by decide) (by decide +kernel) rfl hc0 rfl dX11_appendInput_4 ?_
  refine z_bipush (v := 20) B dX11_appendInput_7 rfl ?_
  refine z_iadd B dX11_appendInput_9 ?_
  refine z_top (st1 := [.int (nI (n + 20))]) (congrArg (fun w9 : Int32 => ([.int w9] : List Value)) (nI_add n 20)) ?_
  refine z_sipush (v := 700) B dX11_appendInput_10 rfl ?_
  refine z_icmp_le (tgt := 18) B dX11_appendInput_13 rfl (fun c_1 => ?_) (fun c_1 => ?_)
  · have e_1 : n + 20 ≤ 700 := (nI_leI (a := n + 20) (b := 700) (by omega) (by omega)).mp c_1
    refine z_aload_n B dX11_appendInput_18 rfl 0 rfl ?_
    refine z_get (ref := "FlowExporter") (C := RX11) (T := TX11) (N := 8) (ci := 13) (v := .ref (x + 1)) B (by decide +kernel) rfl 0 (by decide) (by decide +kernel) rfl h_2 rfl dX11_appendInput_19 ?_
    refine z_iload_n B dX11_appendInput_22 rfl 1 rfl ?_
    refine z_i2l (v := a.toInt64) B dX11_appendInput_23 rfl ?_
    refine z_fl (fun v_1 => ?_)
    refine z_iconst (v := 4) B dX11_appendInput_24 rfl ?_
    refine z_callV (As := [.long v_1, .int 4]) (rest := []) B (s_X5_put1 G l Φ sz x (ca) n v_1 4 hx hI hc0 (show 4 ≤ 8 by omega) (show n + 4 ≤ 700 by omega)) (cwV 2 B.1.2.2.2.2 gX11_appendInput_X5_put rfl rfl rfl (by decide +kernel) ⟨Nat.le_of_ble_eq_true rfl, Nat.le_of_ble_eq_true rfl⟩) hc0 rfl rfl rfl rfl (Nat.le_of_ble_eq_true rfl) dX11_appendInput_25 ⟨Nat.le_of_ble_eq_true rfl, Nat.le_of_ble_eq_true rfl⟩ (fun r_1 Φ1 sz1 st1 hp1 hs1 => ?_)
    obtain ⟨⟨rfl, h_3⟩, hq1, hI1, hF1⟩ := hp1
    subst sz1
    replace hs1 : st1 = [] := hs1
    subst st1
    replace hI1 : In G x (ca) Φ1 := hI1
    refine z_aload_n B dX11_appendInput_28 rfl 0 rfl ?_
    have h_4 : Φ1 x = some (o_ 13 [.ref (x + 1), .ref (x + 3), .ref (x + 24), .ref (x + 46), .ref (x + 74), .ref (x + 80), .ref (x + 132), .ref (x + 121)]) := ((hF1 x (fun j9 h8 h7 => by have h6 : j9 = 1 ∨ j9 = 2 := h7; omega)).trans h_2)
    refine z_get (ref := "FlowExporter") (C := RX11) (T := TX11) (N := 8) (ci := 13) (v := .ref (x + 1)) B (by decide +kernel) rfl 0 (by decide) (by decide +kernel) rfl h_4 rfl dX11_appendInput_29 ?_
    refine z_iload_n B dX11_appendInput_32 rfl 2 rfl ?_
    refine z_i2l (v := b.toInt64) B dX11_appendInput_33 rfl ?_
    refine z_fl (fun v_2 => ?_)
    refine z_iconst (v := 4) B dX11_appendInput_34 rfl ?_
    refine z_callV (As := [.long v_2, .int 4]) (rest := []) B (s_X5_put1 G l Φ1 sz x (ca) (n + 4) v_2 4 hx hI1 h_3 (show 4 ≤ 8 by omega) (show (n + 4) + 4 ≤ 700 by omega)) (cwV 2 B.1.2.2.2.2 gX11_appendInput_X5_put rfl rfl rfl (by decide +kernel) ⟨Nat.le_of_ble_eq_true rfl, Nat.le_of_ble_eq_true rfl⟩) h_3 rfl rfl rfl rfl (Nat.le_of_ble_eq_true rfl) dX11_appendInput_35 ⟨Nat.le_of_ble_eq_true rfl, Nat.le_of_ble_eq_true rfl⟩ (fun r_2 Φ2 sz2 st2 hp2 hs2 => ?_)
    obtain ⟨⟨rfl, h_5⟩, hq2, hI2, hF2⟩ := hp2
    subst sz2
    replace hs2 : st2 = [] := hs2
    subst st2
    replace hI2 : In G x (ca) Φ2 := hI2
    refine z_aload_n B dX11_appendInput_38 rfl 0 rfl ?_
    have h_6 : Φ2 x = some (o_ 13 [.ref (x + 1), .ref (x + 3), .ref (x + 24), .ref (x + 46), .ref (x + 74), .ref (x + 80), .ref (x + 132), .ref (x + 121)]) := ((hF2 x (fun j9 h8 h7 => by have h6 : j9 = 1 ∨ j9 = 2 := h7; omega)).trans h_4)
    refine z_get (ref := "FlowExporter") (C := RX11) (T := TX11) (N := 8) (ci := 13) (v := .ref (x + 1)) B (by decide +kernel) rfl 0 (by decide) (by decide +kernel) rfl h_6 rfl dX11_appendInput_39 ?_
    refine z_iload_n B dX11_appendInput_42 rfl 3 rfl ?_
    refine z_i2l (v := d.toInt64) B dX11_appendInput_43 rfl ?_
    refine z_fl (fun v_3 => ?_)
    refine z_iconst (v := 4) B dX11_appendInput_44 rfl ?_
    refine z_callV (As := [.long v_3, .int 4]) (rest := []) B (s_X5_put1 G l Φ2 sz x (ca) ((n + 4) + 4) v_3 4 hx hI2 h_5 (show 4 ≤ 8 by omega) (show ((n + 4) + 4) + 4 ≤ 700 by omega)) (cwV 2 B.1.2.2.2.2 gX11_appendInput_X5_put rfl rfl rfl (by decide +kernel) ⟨Nat.le_of_ble_eq_true rfl, Nat.le_of_ble_eq_true rfl⟩) h_5 rfl rfl rfl rfl (Nat.le_of_ble_eq_true rfl) dX11_appendInput_45 ⟨Nat.le_of_ble_eq_true rfl, Nat.le_of_ble_eq_true rfl⟩ (fun r_3 Φ3 sz3 st3 hp3 hs3 => ?_)
    obtain ⟨⟨rfl, h_7⟩, hq3, hI3, hF3⟩ := hp3
    subst sz3
    replace hs3 : st3 = [] := hs3
    subst st3
    replace hI3 : In G x (ca) Φ3 := hI3
    refine z_aload_n B dX11_appendInput_48 rfl 0 rfl ?_
    have h_8 : Φ3 x = some (o_ 13 [.ref (x + 1), .ref (x + 3), .ref (x + 24), .ref (x + 46), .ref (x + 74), .ref (x + 80), .ref (x + 132), .ref (x + 121)]) := ((hF3 x (fun j9 h8 h7 => by have h6 : j9 = 1 ∨ j9 = 2 := h7; omega)).trans h_6)
    refine z_get (ref := "FlowExporter") (C := RX11) (T := TX11) (N := 8) (ci := 13) (v := .ref (x + 1)) B (by decide +kernel) rfl 0 (by decide) (by decide +kernel) rfl h_8 rfl dX11_appendInput_49 ?_
    refine z_iload B dX11_appendInput_52 4 rfl ?_
    refine z_i2l (v := f.toInt64) B dX11_appendInput_54 rfl ?_
    refine z_fl (fun v_4 => ?_)
    refine z_iconst (v := 4) B dX11_appendInput_55 rfl ?_
    refine z_callV (As := [.long v_4, .int 4]) (rest := []) B (s_X5_put1 G l Φ3 sz x (ca) (((n + 4) + 4) + 4) v_4 4 hx hI3 h_7 (show 4 ≤ 8 by omega) (show (((n + 4) + 4) + 4) + 4 ≤ 700 by omega)) (cwV 2 B.1.2.2.2.2 gX11_appendInput_X5_put rfl rfl rfl (by decide +kernel) ⟨Nat.le_of_ble_eq_true rfl, Nat.le_of_ble_eq_true rfl⟩) h_7 rfl rfl rfl rfl (Nat.le_of_ble_eq_true rfl) dX11_appendInput_56 ⟨Nat.le_of_ble_eq_true rfl, Nat.le_of_ble_eq_true rfl⟩ (fun r_4 Φ4 sz4 st4 hp4 hs4 => ?_)
    obtain ⟨⟨rfl, h_9⟩, hq4, hI4, hF4⟩ := hp4
    subst sz4
    replace hs4 : st4 = [] := hs4
    subst st4
    replace hI4 : In G x (ca) Φ4 := hI4
    refine z_aload_n B dX11_appendInput_59 rfl 0 rfl ?_
    have h_10 : Φ4 x = some (o_ 13 [.ref (x + 1), .ref (x + 3), .ref (x + 24), .ref (x + 46), .ref (x + 74), .ref (x + 80), .ref (x + 132), .ref (x + 121)]) := ((hF4 x (fun j9 h8 h7 => by have h6 : j9 = 1 ∨ j9 = 2 := h7; omega)).trans h_8)
    refine z_get (ref := "FlowExporter") (C := RX11) (T := TX11) (N := 8) (ci := 13) (v := .ref (x + 1)) B (by decide +kernel) rfl 0 (by decide) (by decide +kernel) rfl h_10 rfl dX11_appendInput_60 ?_
    refine z_iload B dX11_appendInput_63 5 rfl ?_
    refine z_i2l (v := g.toInt64) B dX11_appendInput_65 rfl ?_
    refine z_fl (fun v_5 => ?_)
    refine z_iconst (v := 4) B dX11_appendInput_66 rfl ?_
    refine z_callV (As := [.long v_5, .int 4]) (rest := []) B (s_X5_put1 G l Φ4 sz x (ca) ((((n + 4) + 4) + 4) + 4) v_5 4 hx hI4 h_9 (show 4 ≤ 8 by omega) (show ((((n + 4) + 4) + 4) + 4) + 4 ≤ 700 by omega)) (cwV 2 B.1.2.2.2.2 gX11_appendInput_X5_put rfl rfl rfl (by decide +kernel) ⟨Nat.le_of_ble_eq_true rfl, Nat.le_of_ble_eq_true rfl⟩) h_9 rfl rfl rfl rfl (Nat.le_of_ble_eq_true rfl) dX11_appendInput_67 ⟨Nat.le_of_ble_eq_true rfl, Nat.le_of_ble_eq_true rfl⟩ (fun r_5 Φ5 sz5 st5 hp5 hs5 => ?_)
    obtain ⟨⟨rfl, h_11⟩, hq5, hI5, hF5⟩ := hp5
    subst sz5
    replace hs5 : st5 = [] := hs5
    subst st5
    replace hI5 : In G x (ca) Φ5 := hI5
    refine z_aload_n B dX11_appendInput_70 rfl 0 rfl ?_
    have h_12 : Φ5 x = some (o_ 13 [.ref (x + 1), .ref (x + 3), .ref (x + 24), .ref (x + 46), .ref (x + 74), .ref (x + 80), .ref (x + 132), .ref (x + 121)]) := ((hF5 x (fun j9 h8 h7 => by have h6 : j9 = 1 ∨ j9 = 2 := h7; omega)).trans h_10)
    refine z_get (ref := "FlowExporter") (C := RX11) (T := TX11) (N := 8) (ci := 13) (v := .ref (x + 1)) B (by decide +kernel) rfl 0 (by decide) (by decide +kernel) rfl h_12 rfl dX11_appendInput_71 ?_
    refine z_get (ref := "FlowExporter$Message") (C := RX5) (T := TX5) (N := 2) (ci := 7) (v := .int (nI (((((n + 4) + 4) + 4) + 4) + 4))) B (by decide +kernel) rfl 1 (by decide) (by decide +kernel) rfl h_11 rfl dX11_appendInput_74 ?_
    exact z_ret_i B dX11_appendInput_77 ⟨⟨((((n + 4) + 4) + 4) + 4) + 4, h_11, Or.inr ⟨by omega, congrArg (fun w9 : Nat => some (Value.int (nI w9))) (show ((((n + 4) + 4) + 4) + 4) + 4 = n + 20 by omega), by omega⟩⟩, rfl, hI5, (fun b9 h9 => ((hF5 b9 (fun j9 h8 h7 => h9 j9 h8 (show 1 ≤ j9 ∧ j9 < 149 by have h6 : j9 = 1 ∨ j9 = 2 := h7; omega))).trans ((hF4 b9 (fun j9 h8 h7 => h9 j9 h8 (show 1 ≤ j9 ∧ j9 < 149 by have h6 : j9 = 1 ∨ j9 = 2 := h7; omega))).trans ((hF3 b9 (fun j9 h8 h7 => h9 j9 h8 (show 1 ≤ j9 ∧ j9 < 149 by have h6 : j9 = 1 ∨ j9 = 2 := h7; omega))).trans ((hF2 b9 (fun j9 h8 h7 => h9 j9 h8 (show 1 ≤ j9 ∧ j9 < 149 by have h6 : j9 = 1 ∨ j9 = 2 := h7; omega))).trans ((hF1 b9 (fun j9 h8 h7 => h9 j9 h8 (show 1 ≤ j9 ∧ j9 < 149 by have h6 : j9 = 1 ∨ j9 = 2 := h7; omega))).trans rfl))))))⟩
  · have e_2 : ¬ (n + 20 ≤ 700) := fun h9 => c_1 ((nI_leI (a := n + 20) (b := 700) (by omega) (by omega)).mpr h9)
    refine z_iconst (v := (-1)) B dX11_appendInput_16 rfl ?_
    exact z_ret_i B dX11_appendInput_17 ⟨⟨n, hc0, Or.inl ⟨by omega, rfl, by omega⟩⟩, rfl, hI, (fun b9 h9 => rfl)⟩

set_option maxHeartbeats 4000000 in
set_option maxRecDepth 100000 in
theorem s_X11_truncateInput (G : EnvG) (l : Launch) (Φ : Hm) (sz x ca : Nat) (n : Nat) (a : Int32) (hx : G.2.2.2 ≤ x) (hI : In G x ca Φ) (hc0 : Φ (x + 1) = some (o_ 7 [.ref (x + 2), .int (nI n)])) (hn : n ≤ 700) : Ct G l yX11_truncateInput wsX11_truncateInput ({ frames := 0, cells := 0, slots := 0, locals := 0 }) 0 0 [.ref x, .int a] Φ sz (fun v Φ1 sz1 => (∃ n9 : Nat, Φ1 (x + 1) = some (o_ 7 [.ref (x + 2), .int (nI n9)]) ∧ trV n a v n9) ∧ sz1 = sz ∧ In G x (ca) Φ1 ∧ Fr x (fun j9 => 1 ≤ j9 ∧ j9 < 149) Φ Φ1) := by
  refine Ct.of (cc := cX11_truncateInput) (maxL := 2) (ret := (some .int)) (by decide) rfl (Nat.le_of_ble_eq_true rfl) ?_
  intro p9 e9 s9 m9 w9 t9 k9 B
  show Z p9 l e9 _ s9 m9 _ w9 t9 k9 _ G 2 0 [(0, .ref x), (1, .int a)] [] Φ sz 0 0
  refine z_iload_n B dX11_truncateInput_0 rfl 1 rfl ?_
  refine z_if_lt (tgt := 15) B dX11_truncateInput_1 rfl (fun c_1 => ?_) (fun c_1 => ?_)
  · refine z_iconst (v := (-1)) B dX11_truncateInput_15 rfl ?_
    exact z_ret_i B dX11_truncateInput_16 ⟨⟨n, hc0, Or.inr ⟨tr_neg (by omega) c_1, rfl, by omega⟩⟩, rfl, hI, (fun b9 h9 => rfl)⟩
  · obtain ⟨n_1, e_1, rfl⟩ := nI_of c_1
    refine z_iload_n B dX11_truncateInput_4 rfl 1 rfl ?_
    refine z_aload_n B dX11_truncateInput_5 rfl 0 rfl ?_
    have h_1 := in0 (k := 0) hI rfl
    have h_2 : Φ x = some (o_ 13 [.ref (x + 1), .ref (x + 3), .ref (x + 24), .ref (x + 46), .ref (x + 74), .ref (x + 80), .ref (x + 132), .ref (x + 121)]) := h_1
    refine z_get (ref := "FlowExporter") (C := RX11) (T := TX11) (N := 8) (ci := 13) (v := .ref (x + 1)) B (by decide +kernel) rfl 0 (by decide) (by decide +kernel) rfl h_2 rfl dX11_truncateInput_6 ?_
    refine z_get (ref := "FlowExporter$Message") (C := RX5) (T := TX5) (N := 2) (ci := 7) (v := .int (nI n)) B (by decide +kernel) rfl 1 (by decide) (by decide +kernel) rfl hc0 rfl dX11_truncateInput_9 ?_
    refine z_icmp_le (tgt := 17) B dX11_truncateInput_12 rfl (fun c_2 => ?_) (fun c_2 => ?_)
    · have e_2 : n_1 ≤ n := (nI_leI (a := n_1) (b := n) (by omega) (by omega)).mp c_2
      refine z_aload_n B dX11_truncateInput_17 rfl 0 rfl ?_
      refine z_get (ref := "FlowExporter") (C := RX11) (T := TX11) (N := 8) (ci := 13) (v := .ref (x + 1)) B (by decide +kernel) rfl 0 (by decide) (by decide +kernel) rfl h_2 rfl dX11_truncateInput_18 ?_
      refine z_iload_n B dX11_truncateInput_21 rfl 1 rfl ?_
      refine z_put (ref := "FlowExporter$Message") (C := RX5) (T := TX5) (N := 2) (ci := 7) (v := .int (nI n_1)) B (by decide +kernel) tyX5 tyX5_ok nmX5 rfl 1 (by decide) (by decide +kernel) rfl (Or.inl rfl) hc0 (Nat.le_trans hx (Nat.le_add_right x 1)) rfl rfl (Nat.le_of_ble_eq_true rfl) dX11_truncateInput_22 (fun Φ1 hΦ1 => ?_)
      have h_3 : Φ1 (x + 1) = some (o_ 7 [.ref (x + 2), .int (nI n_1)]) := fset_at hΦ1
      have hI1 : In G x (ca) Φ1 := In.put (k := 1) hI hΦ1 (ok1 (k := 1) rfl ⟨n_1, rfl, (show n_1 ≤ 700 by omega)⟩)
      refine z_iload_n B dX11_truncateInput_25 rfl 1 rfl ?_
      exact z_ret_i B dX11_truncateInput_26 ⟨⟨n_1, h_3, Or.inl ⟨n_1, by omega, rfl, rfl, rfl⟩⟩, rfl, hI1, (fun b9 h9 => ((fset_fr hΦ1 (fun h8 => h9 (1) h8 (show 1 ≤ 1 ∧ 1 < 149 by omega))).trans rfl))⟩
    · have e_3 : ¬ (n_1 ≤ n) := fun h9 => c_2 ((nI_leI (a := n_1) (b := n) (by omega) (by omega)).mpr h9)
      refine z_iconst (v := (-1)) B dX11_truncateInput_15 rfl ?_
      exact z_ret_i B dX11_truncateInput_16 ⟨⟨n, hc0, Or.inr ⟨tr_big (by omega) (by omega) (by omega), rfl, by omega⟩⟩, rfl, hI, (fun b9 h9 => rfl)⟩

set_option maxHeartbeats 4000000 in
set_option maxRecDepth 100000 in
theorem s_X11_setRate (G : EnvG) (l : Launch) (Φ : Hm) (sz x ca : Nat) (a : Int32) (hx : G.2.2.2 ≤ x) (hI : In G x ca Φ)  : Ct G l yX11_setRate wsX11_setRate ({ frames := 6, cells := 0, slots := 0, locals := 146 }) 0 0 [.ref x, .int a] Φ sz (fun v Φ1 sz1 => (∃ r9 : Int32, v = some (.int r9)) ∧ sz1 = sz ∧ In G x (ca) Φ1 ∧ Fr x (fun j9 => 2 ≤ j9 ∧ j9 < 149) Φ Φ1) := by
  refine Ct.of (cc := cX11_setRate) (maxL := 3) (ret := (some .int)) (by decide) rfl (Nat.le_of_ble_eq_true rfl) ?_
  intro p9 e9 s9 m9 w9 t9 k9 B
  show Z p9 l e9 _ s9 m9 _ w9 t9 k9 _ G 3 0 [(0, .ref x), (1, .int a)] [] Φ sz 0 0
  refine z_iload_n B dX11_setRate_0 rfl 1 rfl ?_
  refine z_iconst (v := 1) B dX11_setRate_1 rfl ?_
  refine z_icmp_lt (tgt := 12) B dX11_setRate_2 rfl (fun c_1 => ?_) (fun c_1 => ?_)
  · refine z_iconst (v := (-1)) B dX11_setRate_12 rfl ?_
    exact z_ret_i B dX11_setRate_13 ⟨⟨_, rfl⟩, rfl, hI, (fun b9 h9 => rfl)⟩
  · obtain ⟨n_1, e_2, e_1, rfl⟩ := nI_ofge (c := 1) (by omega) c_1
    refine z_iload_n B dX11_setRate_5 rfl 1 rfl ?_
    refine z_sipush (v := 1024) B dX11_setRate_6 rfl ?_
    refine z_icmp_le (tgt := 14) B dX11_setRate_9 rfl (fun c_2 => ?_) (fun c_2 => ?_)
    · have e_3 : n_1 ≤ 1024 := (nI_leI (a := n_1) (b := 1024) (by omega) (by omega)).mp c_2
      refine z_iload_n B dX11_setRate_14 rfl 1 rfl ?_
      refine z_aload_n B dX11_setRate_15 rfl 0 rfl ?_
      have h_1 := in0 (k := 0) hI rfl
      have h_2 : Φ x = some (o_ 13 [.ref (x + 1), .ref (x + 3), .ref (x + 24), .ref (x + 46), .ref (x + 74), .ref (x + 80), .ref (x + 132), .ref (x + 121)]) := h_1
      refine z_get (ref := "FlowExporter") (C := RX11) (T := TX11) (N := 8) (ci := 13) (v := .ref (x + 80)) B (by decide +kernel) rfl 5 (by decide) (by decide +kernel) rfl h_2 rfl dX11_setRate_16 ?_
      obtain ⟨v_1, v_2, v_3, v_4, v_5, v_6, v_7, v_8, v_9, h_3, b_1⟩ := in16 (k := 80) hI rfl
      have h_4 : Φ (x + 80) = some (o_ 4 [.ref (x + 3), .ref (x + 74), .ref (x + 81), .ref (x + 95), .int v_1, .int v_2, .int v_3, .int v_4, .int v_5, .int v_6, .long v_7, .long v_8, .long v_9]) := h_3
      refine z_get (ref := "FlowExporter$Exporter") (C := RX2) (T := TX2) (N := 13) (ci := 4) (v := .int v_2) B (by decide +kernel) rfl 5 (by decide) (by decide +kernel) rfl h_4 rfl dX11_setRate_19 ?_
      refine z_icmp_ne (tgt := 27) B dX11_setRate_22 rfl (fun c_3 => ?_) (fun c_3 => ?_)
      · refine z_aload_n B dX11_setRate_27 rfl 0 rfl ?_
        refine z_get (ref := "FlowExporter") (C := RX11) (T := TX11) (N := 8) (ci := 13) (v := .ref (x + 80)) B (by decide +kernel) rfl 5 (by decide) (by decide +kernel) rfl h_2 rfl dX11_setRate_28 ?_
        refine z_callV (As := []) (rest := []) B (s_X2_exportAllAndSend G l Φ sz x (ca)  hx hI ) (cwV 0 B.1.2.2.2.2 gX11_setRate_X2_exportAllAndSend rfl rfl rfl (by decide +kernel) ⟨Nat.le_of_ble_eq_true rfl, Nat.le_of_ble_eq_true rfl⟩) h_4 rfl rfl rfl rfl (Nat.le_of_ble_eq_true rfl) dX11_setRate_31 ⟨Nat.le_of_ble_eq_true rfl, Nat.le_of_ble_eq_true rfl⟩ (fun r_1 Φ1 sz1 st1 hp1 hs1 => ?_)
        obtain ⟨⟨n_2, rfl, b_2⟩, hq1, hI1, hF1⟩ := hp1
        subst sz1
        replace hs1 : st1 = [.int (nI n_2)] := hs1
        subst st1
        replace hI1 : In G x (ca) Φ1 := hI1
        replace b_2 : n_2 ≤ 12 := b_2
        refine z_istore_n (lv' := [(2, .int (nI n_2)), (0, .ref x), (1, .int (nI n_1))]) B dX11_setRate_34 rfl (Nat.le_of_ble_eq_true rfl) rfl ?_
        refine z_aload_n B dX11_setRate_35 rfl 1 rfl ?_
        have h_5 : Φ1 x = some (o_ 13 [.ref (x + 1), .ref (x + 3), .ref (x + 24), .ref (x + 46), .ref (x + 74), .ref (x + 80), .ref (x + 132), .ref (x + 121)]) := ((hF1 x (fun j9 h8 h7 => by have h6 : 46 ≤ j9 ∧ j9 < 95 := h7; omega)).trans h_2)
        refine z_get (ref := "FlowExporter") (C := RX11) (T := TX11) (N := 8) (ci := 13) (v := .ref (x + 80)) B (by decide +kernel) rfl 5 (by decide) (by decide +kernel) rfl h_5 rfl dX11_setRate_36 ?_
        refine z_iload_n B dX11_setRate_39 rfl 2 rfl ?_
        obtain ⟨v_10, v_11, v_12, v_13, v_14, v_15, v_16, v_17, v_18, h_6, b_3⟩ := in16 (k := 80) hI1 rfl
        have h_7 : Φ1 (x + 80) = some (o_ 4 [.ref (x + 3), .ref (x + 74), .ref (x + 81), .ref (x + 95), .int v_10, .int v_11, .int v_12, .int v_13, .int v_14, .int v_15, .long v_16, .long v_17, .long v_18]) := h_6
        refine z_put (ref := "FlowExporter$Exporter") (C := RX2) (T := TX2) (N := 13) (ci := 4) (v := .int (nI n_1)) B (by decide +kernel) tyX2 tyX2_ok nmX2 rfl 5 (by decide) (by decide +kernel) rfl (Or.inl rfl) h_7 (Nat.le_trans hx (Nat.le_add_right x 80)) rfl rfl (Nat.le_of_ble_eq_true rfl) dX11_setRate_40 (fun Φ2 hΦ1 => ?_)
        have h_8 : Φ2 (x + 80) = some (o_ 4 [.ref (x + 3), .ref (x + 74), .ref (x + 81), .ref (x + 95), .int v_10, .int (nI n_1), .int v_12, .int v_13, .int v_14, .int v_15, .long v_16, .long v_17, .long v_18]) := fset_at hΦ1
        have hI2 : In G x (ca) Φ2 := In.put (k := 80) hI1 hΦ1 (ok16 (k := 80) rfl ⟨v_10, nI n_1, v_12, v_13, v_14, v_15, v_16, v_17, v_18, rfl, b_3⟩)
        refine z_iload_n B dX11_setRate_43 rfl 0 rfl ?_
        exact z_ret_i B dX11_setRate_44 ⟨⟨_, rfl⟩, rfl, hI2, (fun b9 h9 => ((fset_fr hΦ1 (fun h8 => h9 (80) h8 (show 2 ≤ 80 ∧ 80 < 149 by omega))).trans ((hF1 b9 (fun j9 h8 h7 => h9 j9 h8 (show 2 ≤ j9 ∧ j9 < 149 by have h6 : 46 ≤ j9 ∧ j9 < 95 := h7; omega))).trans rfl)))⟩
      · refine z_iconst (v := 0) B dX11_setRate_25 rfl ?_
        exact z_ret_i B dX11_setRate_26 ⟨⟨_, rfl⟩, rfl, hI, (fun b9 h9 => rfl)⟩
    · have e_4 : ¬ (n_1 ≤ 1024) := fun h9 => c_2 ((nI_leI (a := n_1) (b := 1024) (by omega) (by omega)).mpr h9)
      refine z_iconst (v := (-1)) B dX11_setRate_12 rfl ?_
      exact z_ret_i B dX11_setRate_13 ⟨⟨_, rfl⟩, rfl, hI, (fun b9 h9 => rfl)⟩

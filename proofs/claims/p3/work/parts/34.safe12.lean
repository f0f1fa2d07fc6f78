set_option maxHeartbeats 4000000 in
set_option maxRecDepth 100000 in
theorem s_X6_kindOf (G : EnvG) (l : Launch) (Φ : Hm) (sz x ca : Nat) (a : Int32) (hx : G.2.2.2 ≤ x) (hI : In G x ca Φ)  : Ct G l yX6_kindOf wsX6_kindOf ({ frames := 0, cells := 0, slots := 0, locals := 0 }) 0 0 [.int a] Φ sz (fun v Φ1 sz1 => (∃ r9 : Int32, v = some (.int r9)) ∧ sz1 = sz ∧ In G x (ca) Φ1 ∧ Fr x (fun j9 => False) Φ Φ1) := by
  refine Ct.of (cc := cX6_kindOf) (maxL := 1) (ret := (some .int)) (by decide) rfl (Nat.le_of_ble_eq_true rfl) ?_
  intro p9 e9 s9 m9 w9 t9 k9 B
  show Z p9 l e9 _ s9 m9 _ w9 t9 k9 _ G 1 0 [(0, .int a)] [] Φ sz 0 0
  refine z_iload_n B dX6_kindOf_0 rfl 0 rfl ?_
  refine z_iconst (v := (-1)) B dX6_kindOf_1 rfl ?_
  refine z_icmp_ne (tgt := 7) B dX6_kindOf_2 rfl (fun c_1 => ?_) (fun c_1 => ?_)
  · refine z_iload_n B dX6_kindOf_7 rfl 0 rfl ?_
    refine z_bipush (v := 32) B dX6_kindOf_8 rfl ?_
    refine z_icmp_eq (tgt := 19) B dX6_kindOf_10 rfl (fun c_2 => ?_) (fun c_2 => ?_)
    · refine z_iconst (v := 1) B dX6_kindOf_19 rfl ?_
      exact z_ret_i B dX6_kindOf_20 ⟨⟨_, rfl⟩, rfl, hI, (fun b9 h9 => rfl)⟩
    · refine z_iload_n B dX6_kindOf_13 rfl 0 rfl ?_
      refine z_bipush (v := 10) B dX6_kindOf_14 rfl ?_
      refine z_icmp_ne (tgt := 21) B dX6_kindOf_16 rfl (fun c_3 => ?_) (fun c_3 => ?_)
      · refine z_iload_n B dX6_kindOf_21 rfl 0 rfl ?_
        refine z_bipush (v := 97) B dX6_kindOf_22 rfl ?_
        refine z_icmp_lt (tgt := 35) B dX6_kindOf_24 rfl (fun c_4 => ?_) (fun c_4 => ?_)
        · refine z_iload_n B dX6_kindOf_35 rfl 0 rfl ?_
          refine z_bipush (v := 48) B dX6_kindOf_36 rfl ?_
          refine z_icmp_lt (tgt := 49) B dX6_kindOf_38 rfl (fun c_5 => ?_) (fun c_5 => ?_)
          · refine z_iload_n B dX6_kindOf_49 rfl 0 rfl ?_
            refine z_bipush (v := 59) B dX6_kindOf_50 rfl ?_
            refine z_icmp_ne (tgt := 59) B dX6_kindOf_52 rfl (fun c_6 => ?_) (fun c_6 => ?_)
            · refine z_iconst (v := 5) B dX6_kindOf_59 rfl ?_
              exact z_ret_i B dX6_kindOf_60 ⟨⟨_, rfl⟩, rfl, hI, (fun b9 h9 => rfl)⟩
            · refine z_iconst (v := 4) B dX6_kindOf_55 rfl ?_
              refine z_goto (tgt := 60) B dX6_kindOf_56 rfl ?_
              exact z_ret_i B dX6_kindOf_60 ⟨⟨_, rfl⟩, rfl, hI, (fun b9 h9 => rfl)⟩
          · obtain ⟨n_1, e_2, e_1, rfl⟩ := nI_ofge (c := 48) (by omega) c_5
            refine z_iload_n B dX6_kindOf_41 rfl 0 rfl ?_
            refine z_bipush (v := 57) B dX6_kindOf_42 rfl ?_
            refine z_icmp_gt (tgt := 49) B dX6_kindOf_44 rfl (fun c_7 => ?_) (fun c_7 => ?_)
            · have e_3 : 57 < n_1 := (nI_ltI (a := 57) (b := n_1) (by omega) (by omega)).mp c_7
              refine z_iload_n B dX6_kindOf_49 rfl 0 rfl ?_
              refine z_bipush (v := 59) B dX6_kindOf_50 rfl ?_
              refine z_icmp_ne (tgt := 59) B dX6_kindOf_52 rfl (fun c_8 => ?_) (fun c_8 => ?_)
              · have e_4 : ¬ (n_1 = 59) := fun h9 => c_8 ((nI_eq (a := n_1) (b := 59) (by omega) (by omega)).mpr h9)
                refine z_iconst (v := 5) B dX6_kindOf_59 rfl ?_
                exact z_ret_i B dX6_kindOf_60 ⟨⟨_, rfl⟩, rfl, hI, (fun b9 h9 => rfl)⟩
              · have e_5 : n_1 = 59 := (nI_eq (a := n_1) (b := 59) (by omega) (by omega)).mp c_8
                refine z_iconst (v := 4) B dX6_kindOf_55 rfl ?_
                refine z_goto (tgt := 60) B dX6_kindOf_56 rfl ?_
                exact z_ret_i B dX6_kindOf_60 ⟨⟨_, rfl⟩, rfl, hI, (fun b9 h9 => rfl)⟩
            · have e_6 : ¬ (57 < n_1) := fun h9 => c_7 ((nI_ltI (a := 57) (b := n_1) (by omega) (by omega)).mpr h9)
              refine z_iconst (v := 3) B dX6_kindOf_47 rfl ?_
              exact z_ret_i B dX6_kindOf_48 ⟨⟨_, rfl⟩, rfl, hI, (fun b9 h9 => rfl)⟩
        · obtain ⟨n_2, e_8, e_7, rfl⟩ := nI_ofge (c := 97) (by omega) c_4
          refine z_iload_n B dX6_kindOf_27 rfl 0 rfl ?_
          refine z_bipush (v := 122) B dX6_kindOf_28 rfl ?_
          refine z_icmp_gt (tgt := 35) B dX6_kindOf_30 rfl (fun c_9 => ?_) (fun c_9 => ?_)
          · have e_9 : 122 < n_2 := (nI_ltI (a := 122) (b := n_2) (by omega) (by omega)).mp c_9
            refine z_iload_n B dX6_kindOf_35 rfl 0 rfl ?_
            refine z_bipush (v := 48) B dX6_kindOf_36 rfl ?_
            refine z_icmp_lt (tgt := 49) B dX6_kindOf_38 rfl (fun c_10 => ?_) (fun c_10 => ?_)
            · have e_10 : n_2 < 48 := (nI_ltI (a := n_2) (b := 48) (by omega) (by omega)).mp c_10
              refine z_iload_n B dX6_kindOf_49 rfl 0 rfl ?_
              refine z_bipush (v := 59) B dX6_kindOf_50 rfl ?_
              refine z_icmp_ne (tgt := 59) B dX6_kindOf_52 rfl (fun c_11 => ?_) (fun c_11 => ?_)
              · have e_11 : ¬ (n_2 = 59) := fun h9 => c_11 ((nI_eq (a := n_2) (b := 59) (by omega) (by omega)).mpr h9)
                refine z_iconst (v := 5) B dX6_kindOf_59 rfl ?_
                exact z_ret_i B dX6_kindOf_60 ⟨⟨_, rfl⟩, rfl, hI, (fun b9 h9 => rfl)⟩
              · have e_12 : n_2 = 59 := (nI_eq (a := n_2) (b := 59) (by omega) (by omega)).mp c_11
                refine z_iconst (v := 4) B dX6_kindOf_55 rfl ?_
                refine z_goto (tgt := 60) B dX6_kindOf_56 rfl ?_
                exact z_ret_i B dX6_kindOf_60 ⟨⟨_, rfl⟩, rfl, hI, (fun b9 h9 => rfl)⟩
            · have e_13 : ¬ (n_2 < 48) := fun h9 => c_10 ((nI_ltI (a := n_2) (b := 48) (by omega) (by omega)).mpr h9)
              refine z_iload_n B dX6_kindOf_41 rfl 0 rfl ?_
              refine z_bipush (v := 57) B dX6_kindOf_42 rfl ?_
              refine z_icmp_gt (tgt := 49) B dX6_kindOf_44 rfl (fun c_12 => ?_) (fun c_12 => ?_)
              · have e_14 : 57 < n_2 := (nI_ltI (a := 57) (b := n_2) (by omega) (by omega)).mp c_12
                refine z_iload_n B dX6_kindOf_49 rfl 0 rfl ?_
                refine z_bipush (v := 59) B dX6_kindOf_50 rfl ?_
                refine z_icmp_ne (tgt := 59) B dX6_kindOf_52 rfl (fun c_13 => ?_) (fun c_13 => ?_)
                · have e_15 : ¬ (n_2 = 59) := fun h9 => c_13 ((nI_eq (a := n_2) (b := 59) (by omega) (by omega)).mpr h9)
                  refine z_iconst (v := 5) B dX6_kindOf_59 rfl ?_
                  exact z_ret_i B dX6_kindOf_60 ⟨⟨_, rfl⟩, rfl, hI, (fun b9 h9 => rfl)⟩
                · have e_16 : n_2 = 59 := (nI_eq (a := n_2) (b := 59) (by omega) (by omega)).mp c_13
                  refine z_iconst (v := 4) B dX6_kindOf_55 rfl ?_
                  refine z_goto (tgt := 60) B dX6_kindOf_56 rfl ?_
                  exact z_ret_i B dX6_kindOf_60 ⟨⟨_, rfl⟩, rfl, hI, (fun b9 h9 => rfl)⟩
              · have e_17 : ¬ (57 < n_2) := fun h9 => c_12 ((nI_ltI (a := 57) (b := n_2) (by omega) (by omega)).mpr h9)
                refine z_iconst (v := 3) B dX6_kindOf_47 rfl ?_
                exact z_ret_i B dX6_kindOf_48 ⟨⟨_, rfl⟩, rfl, hI, (fun b9 h9 => rfl)⟩
          · have e_18 : ¬ (122 < n_2) := fun h9 => c_9 ((nI_ltI (a := 122) (b := n_2) (by omega) (by omega)).mpr h9)
            refine z_iconst (v := 2) B dX6_kindOf_33 rfl ?_
            exact z_ret_i B dX6_kindOf_34 ⟨⟨_, rfl⟩, rfl, hI, (fun b9 h9 => rfl)⟩
      · refine z_iconst (v := 1) B dX6_kindOf_19 rfl ?_
        exact z_ret_i B dX6_kindOf_20 ⟨⟨_, rfl⟩, rfl, hI, (fun b9 h9 => rfl)⟩
  · refine z_iconst (v := 0) B dX6_kindOf_5 rfl ?_
    exact z_ret_i B dX6_kindOf_6 ⟨⟨_, rfl⟩, rfl, hI, (fun b9 h9 => rfl)⟩

set_option maxHeartbeats 4000000 in
set_option maxRecDepth 100000 in
theorem s_X6_fail (G : EnvG) (l : Launch) (Φ : Hm) (sz x ca : Nat) (a : Int32) (hx : G.2.2.2 ≤ x) (hI : In G x ca Φ)  : Ct G l yX6_fail wsX6_fail ({ frames := 0, cells := 0, slots := 0, locals := 0 }) 0 0 [.ref (x + 24), .int a] Φ sz (fun v Φ1 sz1 => (v = some (.int 0)) ∧ sz1 = sz ∧ In G x (ca) Φ1 ∧ Fr x (fun j9 => j9 = 24) Φ Φ1) := by
  refine Ct.of (cc := cX6_fail) (maxL := 2) (ret := (some .boolean)) (by decide) rfl (Nat.le_of_ble_eq_true rfl) ?_
  intro p9 e9 s9 m9 w9 t9 k9 B
  show Z p9 l e9 _ s9 m9 _ w9 t9 k9 _ G 2 0 [(0, .ref (x + 24)), (1, .int a)] [] Φ sz 0 0
  refine z_aload_n B dX6_fail_0 rfl 0 rfl ?_
  refine z_iload_n B dX6_fail_1 rfl 1 rfl ?_
  obtain ⟨v_1, v_2, v_3, v_4, v_5, v_6, h_1⟩ := in10 (k := 24) hI rfl
  have h_2 : Φ (x + 24) = some (o_ 8 [.ref (x + 25), .int v_1, .int v_2, .ref (x + 1), .int v_3, .int v_4, .int v_5, .int v_6]) := h_1
  refine z_put (ref := "FlowExporter$Parser") (C := RX6) (T := TX6) (N := 8) (ci := 8) (v := .int a) B (by decide +kernel) tyX6 tyX6_ok nmX6 rfl 1 (by decide) (by decide +kernel) rfl (Or.inl rfl) h_2 (Nat.le_trans hx (Nat.le_add_right x 24)) rfl rfl (Nat.le_of_ble_eq_true rfl) dX6_fail_2 (fun Φ1 hΦ1 => ?_)
  have h_3 : Φ1 (x + 24) = some (o_ 8 [.ref (x + 25), .int a, .int v_2, .ref (x + 1), .int v_3, .int v_4, .int v_5, .int v_6]) := fset_at hΦ1
  have hI1 : In G x (ca) Φ1 := In.put (k := 24) hI hΦ1 (ok10 (k := 24) rfl ⟨a, v_2, v_3, v_4, v_5, v_6, rfl⟩)
  refine z_aload_n B dX6_fail_5 rfl 0 rfl ?_
  refine z_aload_n B dX6_fail_6 rfl 0 rfl ?_
  refine z_get (ref := "FlowExporter$Parser") (C := RX6) (T := TX6) (N := 8) (ci := 8) (v := .int v_5) B (by decide +kernel) rfl 6 (by decide) (by decide +kernel) rfl h_3 rfl dX6_fail_7 ?_
  refine z_put (ref := "FlowExporter$Parser") (C := RX6) (T := TX6) (N := 8) (ci := 8) (v := .int v_5) B (by decide +kernel) tyX6 tyX6_ok nmX6 rfl 2 (by decide) (by decide +kernel) rfl (Or.inl rfl) h_3 (Nat.le_trans hx (Nat.le_add_right x 24)) rfl rfl (Nat.le_of_ble_eq_true rfl) dX6_fail_10 (fun Φ2 hΦ2 => ?_)
  have h_4 : Φ2 (x + 24) = some (o_ 8 [.ref (x + 25), .int a, .int v_5, .ref (x + 1), .int v_3, .int v_4, .int v_5, .int v_6]) := fset_at hΦ2
  have hI2 : In G x (ca) Φ2 := In.put (k := 24) hI1 hΦ2 (ok10 (k := 24) rfl ⟨a, v_5, v_3, v_4, v_5, v_6, rfl⟩)
  refine z_iconst (v := 0) B dX6_fail_13 rfl ?_
  exact z_ret_z B dX6_fail_14 (by decide) ⟨rfl, rfl, hI2, (fun b9 h9 => ((fset_fr hΦ2 (fun h8 => h9 (24) h8 (show 24 = 24 by omega))).trans ((fset_fr hΦ1 (fun h8 => h9 (24) h8 (show 24 = 24 by omega))).trans rfl)))⟩

set_option maxHeartbeats 4000000 in
set_option maxRecDepth 100000 in
theorem s_X6_nextToken (G : EnvG) (l : Launch) (Φ : Hm) (sz x ca : Nat)  (hx : G.2.2.2 ≤ x) (hI : In G x ca Φ)  : Ct G l yX6_nextToken wsX6_nextToken ({ frames := 1, cells := 0, slots := 0, locals := 21 }) 0 0 [.ref (x + 24)] Φ sz (fun v Φ1 sz1 => (v = none) ∧ sz1 = sz ∧ In G x (ca) Φ1 ∧ Fr x (fun j9 => j9 = 24) Φ Φ1) := by
  refine Ct.of (cc := cX6_nextToken) (maxL := 2) (ret := none) (by decide) rfl (Nat.le_of_ble_eq_true rfl) ?_
  intro p9 e9 s9 m9 w9 t9 k9 B
  show Z p9 l e9 _ s9 m9 _ w9 t9 k9 _ G 2 0 [(0, .ref (x + 24))] [] Φ sz 0 0
  obtain ⟨v_1, v_2, v_3, v_4, v_5, v_6, h_1⟩ := in10 (k := 24) hI rfl
  have h_2 : Φ (x + 24) = some (o_ 8 [.ref (x + 25), .int v_1, .int v_2, .ref (x + 1), .int v_3, .int v_4, .int v_5, .int v_6]) := h_1
  obtain ⟨n_1, h_3, b_1⟩ := in1 (k := 1) hI rfl
  replace b_1 : n_1 ≤ 700 := b_1
  have h_4 : Φ (x + 1) = some (o_ 7 [.ref (x + 2), .int (nI n_1)]) := h_3
  refine z_lv [0] rfl ?_
  refine z_loop (α := Int32 × Int32 × Int32 × Int32 × Int32 × Int32) (fun (a9 : Int32 × Int32 × Int32 × Int32 × Int32 × Int32) Φi => In G x (ca) Φi ∧ Fr x (fun j9 => j9 = 24) Φ Φi ∧ (Φi (x + 24) = some (o_ 8 [.ref (x + 25), .int a9.1, .int a9.2.1, .ref (x + 1), .int a9.2.2.1, .int a9.2.2.2.1, .int a9.2.2.2.2.1, .int a9.2.2.2.2.2])) ∧ True) (fun a9 => [(0, .ref (x + 24))]) (fun a9 => ((nI n_1).toInt - (a9.2.2.1).toInt).toNat) ?_ (v_1, v_2, v_3, v_4, v_5, v_6) ⟨hI, fun _ _ => rfl, h_2, trivial⟩
  rintro ⟨i_1, i_2, i_3, i_4, i_5, i_6⟩ Φl1 ⟨hI1, hF1, b_2, -⟩ ih1
  replace hI1 : In G x (ca) Φl1 := hI1
  replace b_2 : Φl1 (x + 24) = some (o_ 8 [.ref (x + 25), .int i_1, .int i_2, .ref (x + 1), .int i_3, .int i_4, .int i_5, .int i_6]) := b_2
  show Z p9 l e9 _ s9 m9 _ w9 t9 k9 _ G 2 0 [(0, .ref (x + 24))] [] Φl1 _ _ _
  refine z_aload_n B dX6_nextToken_0 rfl 0 rfl ?_
  refine z_get (ref := "FlowExporter$Parser") (C := RX6) (T := TX6) (N := 8) (ci := 8) (v := .int i_3) B (by decide +kernel) rfl 4 (by decide) (by decide +kernel) rfl b_2 rfl dX6_nextToken_1 ?_
  refine z_aload_n B dX6_nextToken_4 rfl 0 rfl ?_
  refine z_get (ref := "FlowExporter$Parser") (C := RX6) (T := TX6) (N := 8) (ci := 8) (v := .ref (x + 1)) B (by decide +kernel) rfl 3 (by decide) (by decide +kernel) rfl b_2 rfl dX6_nextToken_5 ?_
  have h_5 : Φl1 (x + 1) = some (o_ 7 [.ref (x + 2), .int (nI n_1)]) := ((hF1 (x + 1) (fun j9 h8 h7 => by have h6 : j9 = 24 := h7; omega)).trans h_4)
  refine z_get (ref := "FlowExporter$Message") (C := RX5) (T := TX5) (N := 2) (ci := 7) (v := .int (nI n_1)) B (by decide +kernel) rfl 1 (by decide) (by decide +kernel) rfl h_5 rfl dX6_nextToken_8 ?_
  refine z_icmp_ge (tgt := 45) B dX6_nextToken_11 rfl (fun c_1 => ?_) (fun c_1 => ?_)
  · obtain ⟨n_2, e_2, e_1, rfl⟩ := nI_ofge (c := n_1) (by omega) (Int32.not_lt.mpr c_1)
    refine z_aload_n B dX6_nextToken_45 rfl 0 rfl ?_
    refine z_aload_n B dX6_nextToken_46 rfl 0 rfl ?_
    refine z_get (ref := "FlowExporter$Parser") (C := RX6) (T := TX6) (N := 8) (ci := 8) (v := .int (nI n_2)) B (by decide +kernel) rfl 4 (by decide) (by decide +kernel) rfl b_2 rfl dX6_nextToken_47 ?_
    refine z_put (ref := "FlowExporter$Parser") (C := RX6) (T := TX6) (N := 8) (ci := 8) (v := .int (nI n_2)) B (by decide +kernel) tyX6 tyX6_ok nmX6 rfl 6 (by decide) (by decide +kernel) rfl (Or.inl rfl) b_2 (Nat.le_trans hx (Nat.le_add_right x 24)) rfl rfl (Nat.le_of_ble_eq_true rfl) dX6_nextToken_50 (fun Φ1 hΦ1 => ?_)
    have h_6 : Φ1 (x + 24) = some (o_ 8 [.ref (x + 25), .int i_1, .int i_2, .ref (x + 1), .int (nI n_2), .int i_4, .int (nI n_2), .int i_6]) := fset_at hΦ1
    have hI2 : In G x (ca) Φ1 := In.put (k := 24) hI1 hΦ1 (ok10 (k := 24) rfl ⟨i_1, i_2, nI n_2, i_4, nI n_2, i_6, rfl⟩)
    refine z_aload_n B dX6_nextToken_53 rfl 0 rfl ?_
    refine z_aload_n B dX6_nextToken_54 rfl 0 rfl ?_
    refine z_get (ref := "FlowExporter$Parser") (C := RX6) (T := TX6) (N := 8) (ci := 8) (v := .ref (x + 1)) B (by decide +kernel) rfl 3 (by decide) (by decide +kernel) rfl h_6 rfl dX6_nextToken_55 ?_
    refine z_aload_n B dX6_nextToken_58 rfl 0 rfl ?_
    refine z_get (ref := "FlowExporter$Parser") (C := RX6) (T := TX6) (N := 8) (ci := 8) (v := .int (nI n_2)) B (by decide +kernel) rfl 6 (by decide) (by decide +kernel) rfl h_6 rfl dX6_nextToken_59 ?_
    have h_7 : Φ1 (x + 1) = some (o_ 7 [.ref (x + 2), .int (nI n_1)]) := ((fset_fr hΦ1 (ne_off (x := x) (i := 1) (j := 24) rfl)).trans h_5)
    refine z_callV (As := [.int (nI n_2)]) (rest := [.ref (x + 24)]) B (s_X5_byteAt G l Φ1 sz x (ca) 1 (nI n_2) hx hI2 rfl) (cwV 1 B.1.2.2.2.2 gX6_nextToken_X5_byteAt rfl rfl rfl (by decide +kernel) ⟨Nat.le_of_ble_eq_true rfl, Nat.le_of_ble_eq_true rfl⟩) h_7 rfl rfl rfl rfl (Nat.le_of_ble_eq_true rfl) dX6_nextToken_62 ⟨Nat.le_of_ble_eq_true rfl, Nat.le_of_ble_eq_true rfl⟩ (fun r_1 Φ2 sz1 st1 hp1 hs1 => ?_)
    obtain ⟨⟨v_7, rfl⟩, hq1, hI3, hF2⟩ := hp1
    subst sz1
    replace hs1 : st1 = [.int v_7, .ref (x + 24)] := hs1
    subst st1
    replace hI3 : In G x (ca) Φ2 := hI3
    refine z_callS (As := [.int v_7]) (rest := [.ref (x + 24)]) B (s_X6_kindOf G l Φ2 sz x (ca) v_7 hx hI3 ) (va_cwS 1 B.1.2.2.2.2 gX6_nextToken_X6_kindOf rfl rfl rfl (by decide +kernel) ⟨Nat.le_of_ble_eq_true rfl, Nat.le_of_ble_eq_true rfl⟩) rfl rfl (Nat.le_of_ble_eq_true rfl) dX6_nextToken_65 ⟨Nat.le_of_ble_eq_true rfl, Nat.le_of_ble_eq_true rfl⟩ (fun r_2 Φ3 sz2 st2 hp2 hs2 => ?_)
    obtain ⟨⟨v_8, rfl⟩, hq2, hI4, hF3⟩ := hp2
    subst sz2
    replace hs2 : st2 = [.int v_8, .ref (x + 24)] := hs2
    subst st2
    replace hI4 : In G x (ca) Φ3 := hI4
    have h_8 : Φ3 (x + 24) = some (o_ 8 [.ref (x + 25), .int i_1, .int i_2, .ref (x + 1), .int (nI n_2), .int i_4, .int (nI n_2), .int i_6]) := ((hF3 (x + 24) (fun j9 h8 h7 => (show False from h7).elim)).trans ((hF2 (x + 24) (fun j9 h8 h7 => (show False from h7).elim)).trans h_6))
    refine z_put (ref := "FlowExporter$Parser") (C := RX6) (T := TX6) (N := 8) (ci := 8) (v := .int v_8) B (by decide +kernel) tyX6 tyX6_ok nmX6 rfl 5 (by decide) (by decide +kernel) rfl (Or.inl rfl) h_8 (Nat.le_trans hx (Nat.le_add_right x 24)) rfl rfl (Nat.le_of_ble_eq_true rfl) dX6_nextToken_68 (fun Φ4 hΦ2 => ?_)
    have h_9 : Φ4 (x + 24) = some (o_ 8 [.ref (x + 25), .int i_1, .int i_2, .ref (x + 1), .int (nI n_2), .int v_8, .int (nI n_2), .int i_6]) := fset_at hΦ2
    have hI5 : In G x (ca) Φ4 := In.put (k := 24) hI4 hΦ2 (ok10 (k := 24) rfl ⟨i_1, i_2, nI n_2, v_8, nI n_2, i_6, rfl⟩)
    refine z_aload_n B dX6_nextToken_71 rfl 0 rfl ?_
    refine z_get (ref := "FlowExporter$Parser") (C := RX6) (T := TX6) (N := 8) (ci := 8) (v := .int v_8) B (by decide +kernel) rfl 5 (by decide) (by decide +kernel) rfl h_9 rfl dX6_nextToken_72 ?_
    refine z_iconst (v := 4) B dX6_nextToken_75 rfl ?_
    refine z_icmp_eq (tgt := 87) B dX6_nextToken_76 rfl (fun c_2 => ?_) (fun c_2 => ?_)
    · refine z_aload_n B dX6_nextToken_87 rfl 0 rfl ?_
      refine z_dup B dX6_nextToken_88 rfl ?_
      refine z_get (ref := "FlowExporter$Parser") (C := RX6) (T := TX6) (N := 8) (ci := 8) (v := .int (nI n_2)) B (by decide +kernel) rfl 4 (by decide) (by decide +kernel) rfl h_9 rfl dX6_nextToken_89 ?_
      refine z_iconst (v := 1) B dX6_nextToken_92 rfl ?_
      refine z_iadd B dX6_nextToken_93 ?_
      refine z_top (st1 := [.int (nI (n_2 + 1)), .ref (x + 24)]) (congrArg (fun w9 : Int32 => ([.int w9, .ref (x + 24)] : List Value)) (nI_add n_2 1)) ?_
      refine z_put (ref := "FlowExporter$Parser") (C := RX6) (T := TX6) (N := 8) (ci := 8) (v := .int (nI (n_2 + 1))) B (by decide +kernel) tyX6 tyX6_ok nmX6 rfl 4 (by decide) (by decide +kernel) rfl (Or.inl rfl) h_9 (Nat.le_trans hx (Nat.le_add_right x 24)) rfl rfl (Nat.le_of_ble_eq_true rfl) dX6_nextToken_94 (fun Φ5 hΦ3 => ?_)
      have h_10 : Φ5 (x + 24) = some (o_ 8 [.ref (x + 25), .int i_1, .int i_2, .ref (x + 1), .int (nI (n_2 + 1)), .int v_8, .int (nI n_2), .int i_6]) := fset_at hΦ3
      have hI6 : In G x (ca) Φ5 := In.put (k := 24) hI5 hΦ3 (ok10 (k := 24) rfl ⟨i_1, i_2, nI (n_2 + 1), v_8, nI n_2, i_6, rfl⟩)
      exact z_ret_v B dX6_nextToken_97 ⟨rfl, rfl, hI6, (fun b9 h9 => ((fset_fr hΦ3 (fun h8 => h9 (24) h8 (show 24 = 24 by omega))).trans ((fset_fr hΦ2 (fun h8 => h9 (24) h8 (show 24 = 24 by omega))).trans ((hF3 b9 (fun j9 h8 h7 => (show False from h7).elim)).trans ((hF2 b9 (fun j9 h8 h7 => (show False from h7).elim)).trans ((fset_fr hΦ1 (fun h8 => h9 (24) h8 (show 24 = 24 by omega))).trans ((hF1 b9 (fun j9 h8 h7 => h9 j9 h8 (show j9 = 24 by have h6 : j9 = 24 := h7; omega))).trans rfl)))))))⟩
    · refine z_aload_n B dX6_nextToken_79 rfl 0 rfl ?_
      refine z_get (ref := "FlowExporter$Parser") (C := RX6) (T := TX6) (N := 8) (ci := 8) (v := .int v_8) B (by decide +kernel) rfl 5 (by decide) (by decide +kernel) rfl h_9 rfl dX6_nextToken_80 ?_
      refine z_iconst (v := 5) B dX6_nextToken_83 rfl ?_
      refine z_icmp_ne (tgt := 98) B dX6_nextToken_84 rfl (fun c_3 => ?_) (fun c_3 => ?_)
      · refine z_lv [0] rfl ?_
        refine z_loop (α := Int32 × Int32 × Int32 × Int32 × Int32 × Int32) (fun (a9 : Int32 × Int32 × Int32 × Int32 × Int32 × Int32) Φi => In G x (ca) Φi ∧ Fr x (fun j9 => j9 = 24) Φ4 Φi ∧ (Φi (x + 24) = some (o_ 8 [.ref (x + 25), .int a9.1, .int a9.2.1, .ref (x + 1), .int a9.2.2.1, .int a9.2.2.2.1, .int a9.2.2.2.2.1, .int a9.2.2.2.2.2])) ∧ True) (fun a9 => [(0, .ref (x + 24))]) (fun a9 => ((nI n_1).toInt - (a9.2.2.1).toInt).toNat) ?_ (i_1, i_2, nI n_2, v_8, nI n_2, i_6) ⟨hI5, fun _ _ => rfl, h_9, trivial⟩
        rintro ⟨i_7, i_8, i_9, i_10, i_11, i_12⟩ Φl2 ⟨hI7, hF4, b_3, -⟩ ih2
        replace hI7 : In G x (ca) Φl2 := hI7
        replace b_3 : Φl2 (x + 24) = some (o_ 8 [.ref (x + 25), .int i_7, .int i_8, .ref (x + 1), .int i_9, .int i_10, .int i_11, .int i_12]) := b_3
        show Z p9 l e9 _ s9 m9 _ w9 t9 k9 _ G 2 98 [(0, .ref (x + 24))] [] Φl2 _ _ _
        refine z_aload_n B dX6_nextToken_98 rfl 0 rfl ?_
        refine z_get (ref := "FlowExporter$Parser") (C := RX6) (T := TX6) (N := 8) (ci := 8) (v := .int i_9) B (by decide +kernel) rfl 4 (by decide) (by decide +kernel) rfl b_3 rfl dX6_nextToken_99 ?_
        refine z_aload_n B dX6_nextToken_102 rfl 0 rfl ?_
        refine z_get (ref := "FlowExporter$Parser") (C := RX6) (T := TX6) (N := 8) (ci := 8) (v := .ref (x + 1)) B (by decide +kernel) rfl 3 (by decide) (by decide +kernel) rfl b_3 rfl dX6_nextToken_103 ?_
        have h_11 : Φl2 (x + 1) = some (o_ 7 [.ref (x + 2), .int (nI n_1)]) := ((hF4 (x + 1) (fun j9 h8 h7 => by have h6 : j9 = 24 := h7; omega)).trans ((fset_fr hΦ2 (ne_off (x := x) (i := 1) (j := 24) rfl)).trans ((hF3 (x + 1) (fun j9 h8 h7 => (show False from h7).elim)).trans ((hF2 (x + 1) (fun j9 h8 h7 => (show False from h7).elim)).trans h_7))))
        refine z_get (ref := "FlowExporter$Message") (C := RX5) (T := TX5) (N := 2) (ci := 7) (v := .int (nI n_1)) B (by decide +kernel) rfl 1 (by decide) (by decide +kernel) rfl h_11 rfl dX6_nextToken_106 ?_
        refine z_icmp_ge (tgt := 146) B dX6_nextToken_109 rfl (fun c_4 => ?_) (fun c_4 => ?_)
        · obtain ⟨n_3, e_4, e_3, rfl⟩ := nI_ofge (c := n_1) (by omega) (Int32.not_lt.mpr c_4)
          refine z_aload_n B dX6_nextToken_146 rfl 0 rfl ?_
          refine z_get (ref := "FlowExporter$Parser") (C := RX6) (T := TX6) (N := 8) (ci := 8) (v := .int i_10) B (by decide +kernel) rfl 5 (by decide) (by decide +kernel) rfl b_3 rfl dX6_nextToken_147 ?_
          refine z_iconst (v := 3) B dX6_nextToken_150 rfl ?_
          refine z_icmp_ne (tgt := 159) B dX6_nextToken_151 rfl (fun c_5 => ?_) (fun c_5 => ?_)
          · refine z_bipush (v := 12) B dX6_nextToken_159 rfl ?_
            refine z_istore_n (lv' := [(1, .int 12), (0, .ref (x + 24))]) B dX6_nextToken_161 rfl (Nat.le_of_ble_eq_true rfl) rfl ?_
            refine z_aload_n B dX6_nextToken_162 rfl 1 rfl ?_
            refine z_get (ref := "FlowExporter$Parser") (C := RX6) (T := TX6) (N := 8) (ci := 8) (v := .int (nI n_3)) B (by decide +kernel) rfl 4 (by decide) (by decide +kernel) rfl b_3 rfl dX6_nextToken_163 ?_
            refine z_aload_n B dX6_nextToken_166 rfl 1 rfl ?_
            refine z_get (ref := "FlowExporter$Parser") (C := RX6) (T := TX6) (N := 8) (ci := 8) (v := .int i_11) B (by decide +kernel) rfl 6 (by decide) (by decide +kernel) rfl b_3 rfl dX6_nextToken_167 ?_
            refine z_isub B dX6_nextToken_170 ?_
            refine z_fi (fun v_9 => ?_)
            refine z_iload_n B dX6_nextToken_171 rfl 0 rfl ?_
            refine z_icmp_le (tgt := 180) B dX6_nextToken_172 rfl (fun c_6 => ?_) (fun c_6 => ?_)
            · exact z_ret_v B dX6_nextToken_180 ⟨rfl, rfl, hI7, (fun b9 h9 => ((hF4 b9 (fun j9 h8 h7 => h9 j9 h8 (show j9 = 24 by have h6 : j9 = 24 := h7; omega))).trans ((fset_fr hΦ2 (fun h8 => h9 (24) h8 (show 24 = 24 by omega))).trans ((hF3 b9 (fun j9 h8 h7 => (show False from h7).elim)).trans ((hF2 b9 (fun j9 h8 h7 => (show False from h7).elim)).trans ((fset_fr hΦ1 (fun h8 => h9 (24) h8 (show 24 = 24 by omega))).trans ((hF1 b9 (fun j9 h8 h7 => h9 j9 h8 (show j9 = 24 by have h6 : j9 = 24 := h7; omega))).trans rfl)))))))⟩
            · refine z_aload_n B dX6_nextToken_175 rfl 1 rfl ?_
              refine z_iconst (v := 5) B dX6_nextToken_176 rfl ?_
              refine z_put (ref := "FlowExporter$Parser") (C := RX6) (T := TX6) (N := 8) (ci := 8) (v := .int 5) B (by decide +kernel) tyX6 tyX6_ok nmX6 rfl 5 (by decide) (by decide +kernel) rfl (Or.inl rfl) b_3 (Nat.le_trans hx (Nat.le_add_right x 24)) rfl rfl (Nat.le_of_ble_eq_true rfl) dX6_nextToken_177 (fun Φ6 hΦ4 => ?_)
              have h_12 : Φ6 (x + 24) = some (o_ 8 [.ref (x + 25), .int i_7, .int i_8, .ref (x + 1), .int (nI n_3), .int 5, .int i_11, .int i_12]) := fset_at hΦ4
              have hI8 : In G x (ca) Φ6 := In.put (k := 24) hI7 hΦ4 (ok10 (k := 24) rfl ⟨i_7, i_8, nI n_3, 5, i_11, i_12, rfl⟩)
              exact z_ret_v B dX6_nextToken_180 ⟨rfl, rfl, hI8, (fun b9 h9 => ((fset_fr hΦ4 (fun h8 => h9 (24) h8 (show 24 = 24 by omega))).trans ((hF4 b9 (fun j9 h8 h7 => h9 j9 h8 (show j9 = 24 by have h6 : j9 = 24 := h7; omega))).trans ((fset_fr hΦ2 (fun h8 => h9 (24) h8 (show 24 = 24 by omega))).trans ((hF3 b9 (fun j9 h8 h7 => (show False from h7).elim)).trans ((hF2 b9 (fun j9 h8 h7 => (show False from h7).elim)).trans ((fset_fr hΦ1 (fun h8 => h9 (24) h8 (show 24 = 24 by omega))).trans ((hF1 b9 (fun j9 h8 h7 => h9 j9 h8 (show j9 = 24 by have h6 : j9 = 24 := h7; omega))).trans rfl))))))))⟩
          · refine z_bipush (v := 6) B dX6_nextToken_154 rfl ?_
            refine z_goto (tgt := 161) B dX6_nextToken_156 rfl ?_
            refine z_istore_n (lv' := [(1, .int 6), (0, .ref (x + 24))]) B dX6_nextToken_161 rfl (Nat.le_of_ble_eq_true rfl) rfl ?_
            refine z_aload_n B dX6_nextToken_162 rfl 1 rfl ?_
            refine z_get (ref := "FlowExporter$Parser") (C := RX6) (T := TX6) (N := 8) (ci := 8) (v := .int (nI n_3)) B (by decide +kernel) rfl 4 (by decide) (by decide +kernel) rfl b_3 rfl dX6_nextToken_163 ?_
            refine z_aload_n B dX6_nextToken_166 rfl 1 rfl ?_
            refine z_get (ref := "FlowExporter$Parser") (C := RX6) (T := TX6) (N := 8) (ci := 8) (v := .int i_11) B (by decide +kernel) rfl 6 (by decide) (by decide +kernel) rfl b_3 rfl dX6_nextToken_167 ?_
            refine z_isub B dX6_nextToken_170 ?_
            refine z_fi (fun v_10 => ?_)
            refine z_iload_n B dX6_nextToken_171 rfl 0 rfl ?_
            refine z_icmp_le (tgt := 180) B dX6_nextToken_172 rfl (fun c_7 => ?_) (fun c_7 => ?_)
            · exact z_ret_v B dX6_nextToken_180 ⟨rfl, rfl, hI7, (fun b9 h9 => ((hF4 b9 (fun j9 h8 h7 => h9 j9 h8 (show j9 = 24 by have h6 : j9 = 24 := h7; omega))).trans ((fset_fr hΦ2 (fun h8 => h9 (24) h8 (show 24 = 24 by omega))).trans ((hF3 b9 (fun j9 h8 h7 => (show False from h7).elim)).trans ((hF2 b9 (fun j9 h8 h7 => (show False from h7).elim)).trans ((fset_fr hΦ1 (fun h8 => h9 (24) h8 (show 24 = 24 by omega))).trans ((hF1 b9 (fun j9 h8 h7 => h9 j9 h8 (show j9 = 24 by have h6 : j9 = 24 := h7; omega))).trans rfl)))))))⟩
            · refine z_aload_n B dX6_nextToken_175 rfl 1 rfl ?_
              refine z_iconst (v := 5) B dX6_nextToken_176 rfl ?_
              refine z_put (ref := "FlowExporter$Parser") (C := RX6) (T := TX6) (N := 8) (ci := 8) (v := .int 5) B (by decide +kernel) tyX6 tyX6_ok nmX6 rfl 5 (by decide) (by decide +kernel) rfl (Or.inl rfl) b_3 (Nat.le_trans hx (Nat.le_add_right x 24)) rfl rfl (Nat.le_of_ble_eq_true rfl) dX6_nextToken_177 (fun Φ7 hΦ5 => ?_)
              have h_13 : Φ7 (x + 24) = some (o_ 8 [.ref (x + 25), .int i_7, .int i_8, .ref (x + 1), .int (nI n_3), .int 5, .int i_11, .int i_12]) := fset_at hΦ5
              have hI9 : In G x (ca) Φ7 := In.put (k := 24) hI7 hΦ5 (ok10 (k := 24) rfl ⟨i_7, i_8, nI n_3, 5, i_11, i_12, rfl⟩)
              exact z_ret_v B dX6_nextToken_180 ⟨rfl, rfl, hI9, (fun b9 h9 => ((fset_fr hΦ5 (fun h8 => h9 (24) h8 (show 24 = 24 by omega))).trans ((hF4 b9 (fun j9 h8 h7 => h9 j9 h8 (show j9 = 24 by have h6 : j9 = 24 := h7; omega))).trans ((fset_fr hΦ2 (fun h8 => h9 (24) h8 (show 24 = 24 by omega))).trans ((hF3 b9 (fun j9 h8 h7 => (show False from h7).elim)).trans ((hF2 b9 (fun j9 h8 h7 => (show False from h7).elim)).trans ((fset_fr hΦ1 (fun h8 => h9 (24) h8 (show 24 = 24 by omega))).trans ((hF1 b9 (fun j9 h8 h7 => h9 j9 h8 (show j9 = 24 by have h6 : j9 = 24 := h7; omega))).trans rfl))))))))⟩
        · refine z_aload_n B dX6_nextToken_112 rfl 0 rfl ?_
          refine z_get (ref := "FlowExporter$Parser") (C := RX6) (T := TX6) (N := 8) (ci := 8) (v := .ref (x + 1)) B (by decide +kernel) rfl 3 (by decide) (by decide +kernel) rfl b_3 rfl dX6_nextToken_113 ?_
          refine z_aload_n B dX6_nextToken_116 rfl 0 rfl ?_
          refine z_get (ref := "FlowExporter$Parser") (C := RX6) (T := TX6) (N := 8) (ci := 8) (v := .int i_9) B (by decide +kernel) rfl 4 (by decide) (by decide +kernel) rfl b_3 rfl dX6_nextToken_117 ?_
          refine z_callV (As := [.int i_9]) (rest := []) B (s_X5_byteAt G l Φl2 sz x (ca) 1 i_9 hx hI7 rfl) (cwV 1 B.1.2.2.2.2 gX6_nextToken_X5_byteAt rfl rfl rfl (by decide +kernel) ⟨Nat.le_of_ble_eq_true rfl, Nat.le_of_ble_eq_true rfl⟩) h_11 rfl rfl rfl rfl (Nat.le_of_ble_eq_true rfl) dX6_nextToken_120 ⟨Nat.le_of_ble_eq_true rfl, Nat.le_of_ble_eq_true rfl⟩ (fun r_3 Φ8 sz3 st3 hp3 hs3 => ?_)
          obtain ⟨⟨v_11, rfl⟩, hq3, hI10, hF5⟩ := hp3
          subst sz3
          replace hs3 : st3 = [.int v_11] := hs3
          subst st3
          replace hI10 : In G x (ca) Φ8 := hI10
          refine z_callS (As := [.int v_11]) (rest := []) B (s_X6_kindOf G l Φ8 sz x (ca) v_11 hx hI10 ) (va_cwS 1 B.1.2.2.2.2 gX6_nextToken_X6_kindOf rfl rfl rfl (by decide +kernel) ⟨Nat.le_of_ble_eq_true rfl, Nat.le_of_ble_eq_true rfl⟩) rfl rfl (Nat.le_of_ble_eq_true rfl) dX6_nextToken_123 ⟨Nat.le_of_ble_eq_true rfl, Nat.le_of_ble_eq_true rfl⟩ (fun r_4 Φ9 sz4 st4 hp4 hs4 => ?_)
          obtain ⟨⟨v_12, rfl⟩, hq4, hI11, hF6⟩ := hp4
          subst sz4
          replace hs4 : st4 = [.int v_12] := hs4
          subst st4
          replace hI11 : In G x (ca) Φ9 := hI11
          refine z_aload_n B dX6_nextToken_126 rfl 0 rfl ?_
          have h_14 : Φ9 (x + 24) = some (o_ 8 [.ref (x + 25), .int i_7, .int i_8, .ref (x + 1), .int i_9, .int i_10, .int i_11, .int i_12]) := ((hF6 (x + 24) (fun j9 h8 h7 => (show False from h7).elim)).trans ((hF5 (x + 24) (fun j9 h8 h7 => (show False from h7).elim)).trans b_3))
          refine z_get (ref := "FlowExporter$Parser") (C := RX6) (T := TX6) (N := 8) (ci := 8) (v := .int i_10) B (by decide +kernel) rfl 5 (by decide) (by decide +kernel) rfl h_14 rfl dX6_nextToken_127 ?_
          refine z_icmp_ne (tgt := 146) B dX6_nextToken_130 rfl (fun c_8 => ?_) (fun c_8 => ?_)
          · refine z_aload_n B dX6_nextToken_146 rfl 0 rfl ?_
            refine z_get (ref := "FlowExporter$Parser") (C := RX6) (T := TX6) (N := 8) (ci := 8) (v := .int i_10) B (by decide +kernel) rfl 5 (by decide) (by decide +kernel) rfl h_14 rfl dX6_nextToken_147 ?_
            refine z_iconst (v := 3) B dX6_nextToken_150 rfl ?_
            refine z_icmp_ne (tgt := 159) B dX6_nextToken_151 rfl (fun c_9 => ?_) (fun c_9 => ?_)
            · refine z_bipush (v := 12) B dX6_nextToken_159 rfl ?_
              refine z_istore_n (lv' := [(1, .int 12), (0, .ref (x + 24))]) B dX6_nextToken_161 rfl (Nat.le_of_ble_eq_true rfl) rfl ?_
              refine z_aload_n B dX6_nextToken_162 rfl 1 rfl ?_
              refine z_get (ref := "FlowExporter$Parser") (C := RX6) (T := TX6) (N := 8) (ci := 8) (v := .int i_9) B (by decide +kernel) rfl 4 (by decide) (by decide +kernel) rfl h_14 rfl dX6_nextToken_163 ?_
              refine z_aload_n B dX6_nextToken_166 rfl 1 rfl ?_
              refine z_get (ref := "FlowExporter$Parser") (C := RX6) (T := TX6) (N := 8) (ci := 8) (v := .int i_11) B (by decide +kernel) rfl 6 (by decide) (by decide +kernel) rfl h_14 rfl dX6_nextToken_167 ?_
              refine z_isub B dX6_nextToken_170 ?_
              refine z_fi (fun v_13 => ?_)
              refine z_iload_n B dX6_nextToken_171 rfl 0 rfl ?_
              refine z_icmp_le (tgt := 180) B dX6_nextToken_172 rfl (fun c_10 => ?_) (fun c_10 => ?_)
              · exact z_ret_v B dX6_nextToken_180 ⟨rfl, rfl, hI11, (fun b9 h9 => ((hF6 b9 (fun j9 h8 h7 => (show False from h7).elim)).trans ((hF5 b9 (fun j9 h8 h7 => (show False from h7).elim)).trans ((hF4 b9 (fun j9 h8 h7 => h9 j9 h8 (show j9 = 24 by have h6 : j9 = 24 := h7; omega))).trans ((fset_fr hΦ2 (fun h8 => h9 (24) h8 (show 24 = 24 by omega))).trans ((hF3 b9 (fun j9 h8 h7 => (show False from h7).elim)).trans ((hF2 b9 (fun j9 h8 h7 => (show False from h7).elim)).trans ((fset_fr hΦ1 (fun h8 => h9 (24) h8 (show 24 = 24 by omega))).trans ((hF1 b9 (fun j9 h8 h7 => h9 j9 h8 (show j9 = 24 by have h6 : j9 = 24 := h7; omega))).trans rfl)))))))))⟩
              · refine z_aload_n B dX6_nextToken_175 rfl 1 rfl ?_
                refine z_iconst (v := 5) B dX6_nextToken_176 rfl ?_
                refine z_put (ref := "FlowExporter$Parser") (C := RX6) (T := TX6) (N := 8) (ci := 8) (v := .int 5) B (by decide +kernel) tyX6 tyX6_ok nmX6 rfl 5 (by decide) (by decide +kernel) rfl (Or.inl rfl) h_14 (Nat.le_trans hx (Nat.le_add_right x 24)) rfl rfl (Nat.le_of_ble_eq_true rfl) dX6_nextToken_177 (fun Φ10 hΦ6 => ?_)
                have h_15 : Φ10 (x + 24) = some (o_ 8 [.ref (x + 25), .int i_7, .int i_8, .ref (x + 1), .int i_9, .int 5, .int i_11, .int i_12]) := fset_at hΦ6
                have hI12 : In G x (ca) Φ10 := In.put (k := 24) hI11 hΦ6 (ok10 (k := 24) rfl ⟨i_7, i_8, i_9, 5, i_11, i_12, rfl⟩)
                exact z_ret_v B dX6_nextToken_180 ⟨rfl, rfl, hI12, (fun b9 h9 => ((fset_fr hΦ6 (fun h8 => h9 (24) h8 (show 24 = 24 by omega))).trans ((hF6 b9 (fun j9 h8 h7 => (show False from h7).elim)).trans ((hF5 b9 (fun j9 h8 h7 => (show False from h7).elim)).trans ((hF4 b9 (fun j9 h8 h7 => h9 j9 h8 (show j9 = 24 by have h6 : j9 = 24 := h7; omega))).trans ((fset_fr hΦ2 (fun h8 => h9 (24) h8 (show 24 = 24 by omega))).trans ((hF3 b9 (fun j9 h8 h7 => (show False from h7).elim)).trans ((hF2 b9 (fun j9 h8 h7 => (show False from h7).elim)).trans ((fset_fr hΦ1 (fun h8 => h9 (24) h8 (show 24 = 24 by omega))).trans ((hF1 b9 (fun j9 h8 h7 => h9 j9 h8 (show j9 = 24 by have h6 : j9 = 24 := h7; omega))).trans rfl))))))))))⟩
            · refine z_bipush (v := 6) B dX6_nextToken_154 rfl ?_
              refine z_goto (tgt := 161) B dX6_nextToken_156 rfl ?_
              refine z_istore_n (lv' := [(1, .int 6), (0, .ref (x + 24))]) B dX6_nextToken_161 rfl (Nat.le_of_ble_eq_true rfl) rfl ?_
              refine z_aload_n B dX6_nextToken_162 rfl 1 rfl ?_
              refine z_get (ref := "FlowExporter$Parser") (C := RX6) (T := TX6) (N := 8) (ci := 8) (v := .int i_9) B (by decide +kernel) rfl 4 (by decide) (by decide +kernel) rfl h_14 rfl dX6_nextToken_163 ?_
              refine z_aload_n B dX6_nextToken_166 rfl 1 rfl ?_
              refine z_get (ref := "FlowExporter$Parser") (C := RX6) (T := TX6) (N := 8) (ci := 8) (v := .int i_11) B (by decide +kernel) rfl 6 (by decide) (by decide +kernel) rfl h_14 rfl dX6_nextToken_167 ?_
              refine z_isub B dX6_nextToken_170 ?_
              refine z_fi (fun v_14 => ?_)
              refine z_iload_n B dX6_nextToken_171 rfl 0 rfl ?_
              refine z_icmp_le (tgt := 180) B dX6_nextToken_172 rfl (fun c_11 => ?_) (fun c_11 => ?_)
              · exact z_ret_v B dX6_nextToken_180 ⟨rfl, rfl, hI11, (fun b9 h9 => ((hF6 b9 (fun j9 h8 h7 => (show False from h7).elim)).trans ((hF5 b9 (fun j9 h8 h7 => (show False from h7).elim)).trans ((hF4 b9 (fun j9 h8 h7 => h9 j9 h8 (show j9 = 24 by have h6 : j9 = 24 := h7; omega))).trans ((fset_fr hΦ2 (fun h8 => h9 (24) h8 (show 24 = 24 by omega))).trans ((hF3 b9 (fun j9 h8 h7 => (show False from h7).elim)).trans ((hF2 b9 (fun j9 h8 h7 => (show False from h7).elim)).trans ((fset_fr hΦ1 (fun h8 => h9 (24) h8 (show 24 = 24 by omega))).trans ((hF1 b9 (fun j9 h8 h7 => h9 j9 h8 (show j9 = 24 by have h6 : j9 = 24 := h7; omega))).trans rfl)))))))))⟩
              · refine z_aload_n B dX6_nextToken_175 rfl 1 rfl ?_
                refine z_iconst (v := 5) B dX6_nextToken_176 rfl ?_
                refine z_put (ref := "FlowExporter$Parser") (C := RX6) (T := TX6) (N := 8) (ci := 8) (v := .int 5) B (by decide +kernel) tyX6 tyX6_ok nmX6 rfl 5 (by decide) (by decide +kernel) rfl (Or.inl rfl) h_14 (Nat.le_trans hx (Nat.le_add_right x 24)) rfl rfl (Nat.le_of_ble_eq_true rfl) dX6_nextToken_177 (fun Φ11 hΦ7 => ?_)
                have h_16 : Φ11 (x + 24) = some (o_ 8 [.ref (x + 25), .int i_7, .int i_8, .ref (x + 1), .int i_9, .int 5, .int i_11, .int i_12]) := fset_at hΦ7
                have hI13 : In G x (ca) Φ11 := In.put (k := 24) hI11 hΦ7 (ok10 (k := 24) rfl ⟨i_7, i_8, i_9, 5, i_11, i_12, rfl⟩)
                exact z_ret_v B dX6_nextToken_180 ⟨rfl, rfl, hI13, (fun b9 h9 => ((fset_fr hΦ7 (fun h8 => h9 (24) h8 (show 24 = 24 by omega))).trans ((hF6 b9 (fun j9 h8 h7 => (show False from h7).elim)).trans ((hF5 b9 (fun j9 h8 h7 => (show False from h7).elim)).trans ((hF4 b9 (fun j9 h8 h7 => h9 j9 h8 (show j9 = 24 by have h6 : j9 = 24 := h7; omega))).trans ((fset_fr hΦ2 (fun h8 => h9 (24) h8 (show 24 = 24 by omega))).trans ((hF3 b9 (fun j9 h8 h7 => (show False from h7).elim)).trans ((hF2 b9 (fun j9 h8 h7 => (show False from h7).elim)).trans ((fset_fr hΦ1 (fun h8 => h9 (24) h8 (show 24 = 24 by omega))).trans ((hF1 b9 (fun j9 h8 h7 => h9 j9 h8 (show j9 = 24 by have h6 : j9 = 24 := h7; omega))).trans rfl))))))))))⟩
          · refine z_aload_n B dX6_nextToken_133 rfl 0 rfl ?_
            refine z_dup B dX6_nextToken_134 rfl ?_
            refine z_get (ref := "FlowExporter$Parser") (C := RX6) (T := TX6) (N := 8) (ci := 8) (v := .int i_9) B (by decide +kernel) rfl 4 (by decide) (by decide +kernel) rfl h_14 rfl dX6_nextToken_135 ?_
            refine z_iconst (v := 1) B dX6_nextToken_138 rfl ?_
            refine z_iadd B dX6_nextToken_139 ?_
            refine z_put (ref := "FlowExporter$Parser") (C := RX6) (T := TX6) (N := 8) (ci := 8) (v := .int (i_9 + 1)) B (by decide +kernel) tyX6 tyX6_ok nmX6 rfl 4 (by decide) (by decide +kernel) rfl (Or.inl rfl) h_14 (Nat.le_trans hx (Nat.le_add_right x 24)) rfl rfl (Nat.le_of_ble_eq_true rfl) dX6_nextToken_140 (fun Φ12 hΦ8 => ?_)
            have h_17 : Φ12 (x + 24) = some (o_ 8 [.ref (x + 25), .int i_7, .int i_8, .ref (x + 1), .int (i_9 + 1), .int i_10, .int i_11, .int i_12]) := fset_at hΦ8
            have hI14 : In G x (ca) Φ12 := In.put (k := 24) hI11 hΦ8 (ok10 (k := 24) rfl ⟨i_7, i_8, i_9 + 1, i_10, i_11, i_12, rfl⟩)
            refine z_goto (tgt := 98) B dX6_nextToken_143 rfl ?_
            refine z_lv [0] rfl ?_
            exact ih2 (i_7, i_8, i_9 + 1, i_10, i_11, i_12) Φ12 (up_dec c_4) ⟨hI14, (fun b9 h9 => ((fset_fr hΦ8 (fun h8 => h9 (24) h8 (show 24 = 24 by omega))).trans ((hF6 b9 (fun j9 h8 h7 => (show False from h7).elim)).trans ((hF5 b9 (fun j9 h8 h7 => (show False from h7).elim)).trans ((hF4 b9 (fun j9 h8 h7 => h9 j9 h8 (show j9 = 24 by have h6 : j9 = 24 := h7; omega))).trans rfl))))), h_17, trivial⟩
      · refine z_aload_n B dX6_nextToken_87 rfl 0 rfl ?_
        refine z_dup B dX6_nextToken_88 rfl ?_
        refine z_get (ref := "FlowExporter$Parser") (C := RX6) (T := TX6) (N := 8) (ci := 8) (v := .int (nI n_2)) B (by decide +kernel) rfl 4 (by decide) (by decide +kernel) rfl h_9 rfl dX6_nextToken_89 ?_
        refine z_iconst (v := 1) B dX6_nextToken_92 rfl ?_
        refine z_iadd B dX6_nextToken_93 ?_
        refine z_top (st1 := [.int (nI (n_2 + 1)), .ref (x + 24)]) (congrArg (fun w9 : Int32 => ([.int w9, .ref (x + 24)] : List Value)) (nI_add n_2 1)) ?_
        refine z_put (ref := "FlowExporter$Parser") (C := RX6) (T := TX6) (N := 8) (ci := 8) (v := .int (nI (n_2 + 1))) B (by decide +kernel) tyX6 tyX6_ok nmX6 rfl 4 (by decide) (by decide +kernel) rfl (Or.inl rfl) h_9 (Nat.le_trans hx (Nat.le_add_right x 24)) rfl rfl (Nat.le_of_ble_eq_true rfl) dX6_nextToken_94 (fun Φ13 hΦ9 => ?_)
        have h_18 : Φ13 (x + 24) = some (o_ 8 [.ref (x + 25), .int i_1, .int i_2, .ref (x + 1), .int (nI (n_2 + 1)), .int v_8, .int (nI n_2), .int i_6]) := fset_at hΦ9
        have hI15 : In G x (ca) Φ13 := In.put (k := 24) hI5 hΦ9 (ok10 (k := 24) rfl ⟨i_1, i_2, nI (n_2 + 1), v_8, nI n_2, i_6, rfl⟩)
        exact z_ret_v B dX6_nextToken_97 ⟨rfl, rfl, hI15, (fun b9 h9 => ((fset_fr hΦ9 (fun h8 => h9 (24) h8 (show 24 = 24 by omega))).trans ((fset_fr hΦ2 (fun h8 => h9 (24) h8 (show 24 = 24 by omega))).trans ((hF3 b9 (fun j9 h8 h7 => (show False from h7).elim)).trans ((hF2 b9 (fun j9 h8 h7 => (show False from h7).elim)).trans ((fset_fr hΦ1 (fun h8 => h9 (24) h8 (show 24 = 24 by omega))).trans ((hF1 b9 (fun j9 h8 h7 => h9 j9 h8 (show j9 = 24 by have h6 : j9 = 24 := h7; omega))).trans rfl)))))))⟩
  · refine z_aload_n B dX6_nextToken_14 rfl 0 rfl ?_
    refine z_get (ref := "FlowExporter$Parser") (C := RX6) (T := TX6) (N := 8) (ci := 8) (v := .ref (x + 1)) B (by decide +kernel) rfl 3 (by decide) (by decide +kernel) rfl b_2 rfl dX6_nextToken_15 ?_
    refine z_aload_n B dX6_nextToken_18 rfl 0 rfl ?_
    refine z_get (ref := "FlowExporter$Parser") (C := RX6) (T := TX6) (N := 8) (ci := 8) (v := .int i_3) B (by decide +kernel) rfl 4 (by decide) (by decide +kernel) rfl b_2 rfl dX6_nextToken_19 ?_
    refine z_callV (As := [.int i_3]) (rest := []) B (s_X5_byteAt G l Φl1 sz x (ca) 1 i_3 hx hI1 rfl) (cwV 1 B.1.2.2.2.2 gX6_nextToken_X5_byteAt rfl rfl rfl (by decide +kernel) ⟨Nat.le_of_ble_eq_true rfl, Nat.le_of_ble_eq_true rfl⟩) h_5 rfl rfl rfl rfl (Nat.le_of_ble_eq_true rfl) dX6_nextToken_22 ⟨Nat.le_of_ble_eq_true rfl, Nat.le_of_ble_eq_true rfl⟩ (fun r_5 Φ14 sz5 st5 hp5 hs5 => ?_)
    obtain ⟨⟨v_15, rfl⟩, hq5, hI16, hF7⟩ := hp5
    subst sz5
    replace hs5 : st5 = [.int v_15] := hs5
    subst st5
    replace hI16 : In G x (ca) Φ14 := hI16
    refine z_callS (As := [.int v_15]) (rest := []) B (s_X6_kindOf G l Φ14 sz x (ca) v_15 hx hI16 ) (va_cwS 1 B.1.2.2.2.2 gX6_nextToken_X6_kindOf rfl rfl rfl (by decide +kernel) ⟨Nat.le_of_ble_eq_true rfl, Nat.le_of_ble_eq_true rfl⟩) rfl rfl (Nat.le_of_ble_eq_true rfl) dX6_nextToken_25 ⟨Nat.le_of_ble_eq_true rfl, Nat.le_of_ble_eq_true rfl⟩ (fun r_6 Φ15 sz6 st6 hp6 hs6 => ?_)
    obtain ⟨⟨v_16, rfl⟩, hq6, hI17, hF8⟩ := hp6
    subst sz6
    replace hs6 : st6 = [.int v_16] := hs6
    subst st6
    replace hI17 : In G x (ca) Φ15 := hI17
    refine z_iconst (v := 1) B dX6_nextToken_28 rfl ?_
    refine z_icmp_ne (tgt := 45) B dX6_nextToken_29 rfl (fun c_12 => ?_) (fun c_12 => ?_)
    · refine z_aload_n B dX6_nextToken_45 rfl 0 rfl ?_
      refine z_aload_n B dX6_nextToken_46 rfl 0 rfl ?_
      have h_19 : Φ15 (x + 24) = some (o_ 8 [.ref (x + 25), .int i_1, .int i_2, .ref (x + 1), .int i_3, .int i_4, .int i_5, .int i_6]) := ((hF8 (x + 24) (fun j9 h8 h7 => (show False from h7).elim)).trans ((hF7 (x + 24) (fun j9 h8 h7 => (show False from h7).elim)).trans b_2))
      refine z_get (ref := "FlowExporter$Parser") (C := RX6) (T := TX6) (N := 8) (ci := 8) (v := .int i_3) B (by decide +kernel) rfl 4 (by decide) (by decide +kernel) rfl h_19 rfl dX6_nextToken_47 ?_
      refine z_put (ref := "FlowExporter$Parser") (C := RX6) (T := TX6) (N := 8) (ci := 8) (v := .int i_3) B (by decide +kernel) tyX6 tyX6_ok nmX6 rfl 6 (by decide) (by decide +kernel) rfl (Or.inl rfl) h_19 (Nat.le_trans hx (Nat.le_add_right x 24)) rfl rfl (Nat.le_of_ble_eq_true rfl) dX6_nextToken_50 (fun Φ16 hΦ10 => ?_)
      have h_20 : Φ16 (x + 24) = some (o_ 8 [.ref (x + 25), .int i_1, .int i_2, .ref (x + 1), .int i_3, .int i_4, .int i_3, .int i_6]) := fset_at hΦ10
      have hI18 : In G x (ca) Φ16 := In.put (k := 24) hI17 hΦ10 (ok10 (k := 24) rfl ⟨i_1, i_2, i_3, i_4, i_3, i_6, rfl⟩)
      refine z_aload_n B dX6_nextToken_53 rfl 0 rfl ?_
      refine z_aload_n B dX6_nextToken_54 rfl 0 rfl ?_
      refine z_get (ref := "FlowExporter$Parser") (C := RX6) (T := TX6) (N := 8) (ci := 8) (v := .ref (x + 1)) B (by decide +kernel) rfl 3 (by decide) (by decide +kernel) rfl h_20 rfl dX6_nextToken_55 ?_
      refine z_aload_n B dX6_nextToken_58 rfl 0 rfl ?_
      refine z_get (ref := "FlowExporter$Parser") (C := RX6) (T := TX6) (N := 8) (ci := 8) (v := .int i_3) B (by decide +kernel) rfl 6 (by decide) (by decide +kernel) rfl h_20 rfl dX6_nextToken_59 ?_
      have h_21 : Φ16 (x + 1) = some (o_ 7 [.ref (x + 2), .int (nI n_1)]) := ((fset_fr hΦ10 (ne_off (x := x) (i := 1) (j := 24) rfl)).trans ((hF8 (x + 1) (fun j9 h8 h7 => (show False from h7).elim)).trans ((hF7 (x + 1) (fun j9 h8 h7 => (show False from h7).elim)).trans h_5)))
      refine z_callV (As := [.int i_3]) (rest := [.ref (x + 24)]) B (s_X5_byteAt G l Φ16 sz x (ca) 1 i_3 hx hI18 rfl) (cwV 1 B.1.2.2.2.2 gX6_nextToken_X5_byteAt rfl rfl rfl (by decide +kernel) ⟨Nat.le_of_ble_eq_true rfl, Nat.le_of_ble_eq_true rfl⟩) h_21 rfl rfl rfl rfl (Nat.le_of_ble_eq_true rfl) dX6_nextToken_62 ⟨Nat.le_of_ble_eq_true rfl, Nat.le_of_ble_eq_true rfl⟩ (fun r_7 Φ17 sz7 st7 hp7 hs7 => ?_)
      obtain ⟨⟨v_17, rfl⟩, hq7, hI19, hF9⟩ := hp7
      subst sz7
      replace hs7 : st7 = [.int v_17, .ref (x + 24)] := hs7
      subst st7
      replace hI19 : In G x (ca) Φ17 := hI19
      refine z_callS (As := [.int v_17]) (rest := [.ref (x + 24)]) B (s_X6_kindOf G l Φ17 sz x (ca) v_17 hx hI19 ) (va_cwS 1 B.1.2.2.2.2 gX6_nextToken_X6_kindOf rfl rfl rfl (by decide +kernel) ⟨Nat.le_of_ble_eq_true rfl, Nat.le_of_ble_eq_true rfl⟩) rfl rfl (Nat.le_of_ble_eq_true rfl) dX6_nextToken_65 ⟨Nat.le_of_ble_eq_true rfl, Nat.le_of_ble_eq_true rfl⟩ (fun r_8 Φ18 sz8 st8 hp8 hs8 => ?_)
      obtain ⟨⟨v_18, rfl⟩, hq8, hI20, hF10⟩ := hp8
      subst sz8
      replace hs8 : st8 = [.int v_18, .ref (x + 24)] := hs8
      subst st8
      replace hI20 : In G x (ca) Φ18 := hI20
      have h_22 : Φ18 (x + 24) = some (o_ 8 [.ref (x + 25), .int i_1, .int i_2, .ref (x + 1), .int i_3, .int i_4, .int i_3, .int i_6]) := ((hF10 (x + 24) (fun j9 h8 h7 => (show False from h7).elim)).trans ((hF9 (x + 24) (fun j9 h8 h7 => (show False from h7).elim)).trans h_20))
      refine z_put (ref := "FlowExporter$Parser") (C := RX6) (T := TX6) (N := 8) (ci := 8) (v := .int v_18) B (by decide +kernel) tyX6 tyX6_ok nmX6 rfl 5 (by decide) (by decide +kernel) rfl (Or.inl rfl) h_22 (Nat.le_trans hx (Nat.le_add_right x 24)) rfl rfl (Nat.le_of_ble_eq_true rfl) dX6_nextToken_68 (fun Φ19 hΦ11 => ?_)
      have h_23 : Φ19 (x + 24) = some (o_ 8 [.ref (x + 25), .int i_1, .int i_2, .ref (x + 1), .int i_3, .int v_18, .int i_3, .int i_6]) := fset_at hΦ11
      have hI21 : In G x (ca) Φ19 := In.put (k := 24) hI20 hΦ11 (ok10 (k := 24) rfl ⟨i_1, i_2, i_3, v_18, i_3, i_6, rfl⟩)
      refine z_aload_n B dX6_nextToken_71 rfl 0 rfl ?_
      refine z_get (ref := "FlowExporter$Parser") (C := RX6) (T := TX6) (N := 8) (ci := 8) (v := .int v_18) B (by decide +kernel) rfl 5 (by decide) (by decide +kernel) rfl h_23 rfl dX6_nextToken_72 ?_
      refine z_iconst (v := 4) B dX6_nextToken_75 rfl ?_
      refine z_icmp_eq (tgt := 87) B dX6_nextToken_76 rfl (fun c_13 => ?_) (fun c_13 => ?_)
      · refine z_aload_n B dX6_nextToken_87 rfl 0 rfl ?_
        refine z_dup B dX6_nextToken_88 rfl ?_
        refine z_get (ref := "FlowExporter$Parser") (C := RX6) (T := TX6) (N := 8) (ci := 8) (v := .int i_3) B (by decide +kernel) rfl 4 (by decide) (by decide +kernel) rfl h_23 rfl dX6_nextToken_89 ?_
        refine z_iconst (v := 1) B dX6_nextToken_92 rfl ?_
        refine z_iadd B dX6_nextToken_93 ?_
        refine z_fi (fun v_19 => ?_)
        refine z_put (ref := "FlowExporter$Parser") (C := RX6) (T := TX6) (N := 8) (ci := 8) (v := .int v_19) B (by decide +kernel) tyX6 tyX6_ok nmX6 rfl 4 (by decide) (by decide +kernel) rfl (Or.inl rfl) h_23 (Nat.le_trans hx (Nat.le_add_right x 24)) rfl rfl (Nat.le_of_ble_eq_true rfl) dX6_nextToken_94 (fun Φ20 hΦ12 => ?_)
        have h_24 : Φ20 (x + 24) = some (o_ 8 [.ref (x + 25), .int i_1, .int i_2, .ref (x + 1), .int v_19, .int v_18, .int i_3, .int i_6]) := fset_at hΦ12
        have hI22 : In G x (ca) Φ20 := In.put (k := 24) hI21 hΦ12 (ok10 (k := 24) rfl ⟨i_1, i_2, v_19, v_18, i_3, i_6, rfl⟩)
        exact z_ret_v B dX6_nextToken_97 ⟨rfl, rfl, hI22, (fun b9 h9 => ((fset_fr hΦ12 (fun h8 => h9 (24) h8 (show 24 = 24 by omega))).trans ((fset_fr hΦ11 (fun h8 => h9 (24) h8 (show 24 = 24 by omega))).trans ((hF10 b9 (fun j9 h8 h7 => (show False from h7).elim)).trans ((hF9 b9 (fun j9 h8 h7 => (show False from h7).elim)).trans ((fset_fr hΦ10 (fun h8 => h9 (24) h8 (show 24 = 24 by omega))).trans ((hF8 b9 (fun j9 h8 h7 => (show False from h7).elim)).trans ((hF7 b9 (fun j9 h8 h7 => (show False from h7).elim)).trans ((hF1 b9 (fun j9 h8 h7 => h9 j9 h8 (show j9 = 24 by have h6 : j9 = 24 := h7; omega))).trans rfl)))))))))⟩
      · refine z_aload_n B dX6_nextToken_79 rfl 0 rfl ?_
        refine z_get (ref := "FlowExporter$Parser") (C := RX6) (T := TX6) (N := 8) (ci := 8) (v := .int v_18) B (by decide +kernel) rfl 5 (by decide) (by decide +kernel) rfl h_23 rfl dX6_nextToken_80 ?_
        refine z_iconst (v := 5) B dX6_nextToken_83 rfl ?_
        refine z_icmp_ne (tgt := 98) B dX6_nextToken_84 rfl (fun c_14 => ?_) (fun c_14 => ?_)
        · refine z_lv [0] rfl ?_
          refine z_loop (α := Int32 × Int32 × Int32 × Int32 × Int32 × Int32) (fun (a9 : Int32 × Int32 × Int32 × Int32 × Int32 × Int32) Φi => In G x (ca) Φi ∧ Fr x (fun j9 => j9 = 24) Φ19 Φi ∧ (Φi (x + 24) = some (o_ 8 [.ref (x + 25), .int a9.1, .int a9.2.1, .ref (x + 1), .int a9.2.2.1, .int a9.2.2.2.1, .int a9.2.2.2.2.1, .int a9.2.2.2.2.2])) ∧ True) (fun a9 => [(0, .ref (x + 24))]) (fun a9 => ((nI n_1).toInt - (a9.2.2.1).toInt).toNat) ?_ (i_1, i_2, i_3, v_18, i_3, i_6) ⟨hI21, fun _ _ => rfl, h_23, trivial⟩
          rintro ⟨i_13, i_14, i_15, i_16, i_17, i_18⟩ Φl3 ⟨hI23, hF11, b_4, -⟩ ih3
          replace hI23 : In G x (ca) Φl3 := hI23
          replace b_4 : Φl3 (x + 24) = some (o_ 8 [.ref (x + 25), .int i_13, .int i_14, .ref (x + 1), .int i_15, .int i_16, .int i_17, .int i_18]) := b_4
          show Z p9 l e9 _ s9 m9 _ w9 t9 k9 _ G 2 98 [(0, .ref (x + 24))] [] Φl3 _ _ _
          refine z_aload_n B dX6_nextToken_98 rfl 0 rfl ?_
          refine z_get (ref := "FlowExporter$Parser") (C := RX6) (T := TX6) (N := 8) (ci := 8) (v := .int i_15) B (by decide +kernel) rfl 4 (by decide) (by decide +kernel) rfl b_4 rfl dX6_nextToken_99 ?_
          refine z_aload_n B dX6_nextToken_102 rfl 0 rfl ?_
          refine z_get (ref := "FlowExporter$Parser") (C := RX6) (T := TX6) (N := 8) (ci := 8) (v := .ref (x + 1)) B (by decide +kernel) rfl 3 (by decide) (by decide +kernel) rfl b_4 rfl dX6_nextToken_103 ?_
          have h_25 : Φl3 (x + 1) = some (o_ 7 [.ref (x + 2), .int (nI n_1)]) := ((hF11 (x + 1) (fun j9 h8 h7 => by have h6 : j9 = 24 := h7; omega)).trans ((fset_fr hΦ11 (ne_off (x := x) (i := 1) (j := 24) rfl)).trans ((hF10 (x + 1) (fun j9 h8 h7 => (show False from h7).elim)).trans ((hF9 (x + 1) (fun j9 h8 h7 => (show False from h7).elim)).trans h_21))))
          refine z_get (ref := "FlowExporter$Message") (C := RX5) (T := TX5) (N := 2) (ci := 7) (v := .int (nI n_1)) B (by decide +kernel) rfl 1 (by decide) (by decide +kernel) rfl h_25 rfl dX6_nextToken_106 ?_
          refine z_icmp_ge (tgt := 146) B dX6_nextToken_109 rfl (fun c_15 => ?_) (fun c_15 => ?_)
          · obtain ⟨n_4, e_6, e_5, rfl⟩ := nI_ofge (c := n_1) (by omega) (Int32.not_lt.mpr c_15)
            refine z_aload_n B dX6_nextToken_146 rfl 0 rfl ?_
            refine z_get (ref := "FlowExporter$Parser") (C := RX6) (T := TX6) (N := 8) (ci := 8) (v := .int i_16) B (by decide +kernel) rfl 5 (by decide) (by decide +kernel) rfl b_4 rfl dX6_nextToken_147 ?_
            refine z_iconst (v := 3) B dX6_nextToken_150 rfl ?_
            refine z_icmp_ne (tgt := 159) B dX6_nextToken_151 rfl (fun c_16 => ?_) (fun c_16 => ?_)
            · refine z_bipush (v := 12) B dX6_nextToken_159 rfl ?_
              refine z_istore_n (lv' := [(1, .int 12), (0, .ref (x + 24))]) B dX6_nextToken_161 rfl (Nat.le_of_ble_eq_true rfl) rfl ?_
              refine z_aload_n B dX6_nextToken_162 rfl 1 rfl ?_
              refine z_get (ref := "FlowExporter$Parser") (C := RX6) (T := TX6) (N := 8) (ci := 8) (v := .int (nI n_4)) B (by decide +kernel) rfl 4 (by decide) (by decide +kernel) rfl b_4 rfl dX6_nextToken_163 ?_
              refine z_aload_n B dX6_nextToken_166 rfl 1 rfl ?_
              refine z_get (ref := "FlowExporter$Parser") (C := RX6) (T := TX6) (N := 8) (ci := 8) (v := .int i_17) B (by decide +kernel) rfl 6 (by decide) (by decide +kernel) rfl b_4 rfl dX6_nextToken_167 ?_
              refine z_isub B dX6_nextToken_170 ?_
              refine z_fi (fun v_20 => ?_)
              refine z_iload_n B dX6_nextToken_171 rfl 0 rfl ?_
              refine z_icmp_le (tgt := 180) B dX6_nextToken_172 rfl (fun c_17 => ?_) (fun c_17 => ?_)
              · exact z_ret_v B dX6_nextToken_180 ⟨rfl, rfl, hI23, (fun b9 h9 => ((hF11 b9 (fun j9 h8 h7 => h9 j9 h8 (show j9 = 24 by have h6 : j9 = 24 := h7; omega))).trans ((fset_fr hΦ11 (fun h8 => h9 (24) h8 (show 24 = 24 by omega))).trans ((hF10 b9 (fun j9 h8 h7 => (show False from h7).elim)).trans ((hF9 b9 (fun j9 h8 h7 => (show False from h7).elim)).trans ((fset_fr hΦ10 (fun h8 => h9 (24) h8 (show 24 = 24 by omega))).trans ((hF8 b9 (fun j9 h8 h7 => (show False from h7).elim)).trans ((hF7 b9 (fun j9 h8 h7 => (show False from h7).elim)).trans ((hF1 b9 (fun j9 h8 h7 => h9 j9 h8 (show j9 = 24 by have h6 : j9 = 24 := h7; omega))).trans rfl)))))))))⟩
              · refine z_aload_n B dX6_nextToken_175 rfl 1 rfl ?_
                refine z_iconst (v := 5) B dX6_nextToken_176 rfl ?_
                refine z_put (ref := "FlowExporter$Parser") (C := RX6) (T := TX6) (N := 8) (ci := 8) (v := .int 5) B (by decide +kernel) tyX6 tyX6_ok nmX6 rfl 5 (by decide) (by decide +kernel) rfl (Or.inl rfl) b_4 (Nat.le_trans hx (Nat.le_add_right x 24)) rfl rfl (Nat.le_of_ble_eq_true rfl) dX6_nextToken_177 (fun Φ21 hΦ13 => ?_)
                have h_26 : Φ21 (x + 24) = some (o_ 8 [.ref (x + 25), .int i_13, .int i_14, .ref (x + 1), .int (nI n_4), .int 5, .int i_17, .int i_18]) := fset_at hΦ13
                have hI24 : In G x (ca) Φ21 := In.put (k := 24) hI23 hΦ13 (ok10 (k := 24) rfl ⟨i_13, i_14, nI n_4, 5, i_17, i_18, rfl⟩)
                exact z_ret_v B dX6_nextToken_180 ⟨rfl, rfl, hI24, (fun b9 h9 => ((fset_fr hΦ13 (fun h8 => h9 (24) h8 (show 24 = 24 by omega))).trans ((hF11 b9 (fun j9 h8 h7 => h9 j9 h8 (show j9 = 24 by have h6 : j9 = 24 := h7; omega))).trans ((fset_fr hΦ11 (fun h8 => h9 (24) h8 (show 24 = 24 by omega))).trans ((hF10 b9 (fun j9 h8 h7 => (show False from h7).elim)).trans ((hF9 b9 (fun j9 h8 h7 => (show False from h7).elim)).trans ((fset_fr hΦ10 (fun h8 => h9 (24) h8 (show 24 = 24 by omega))).trans ((hF8 b9 (fun j9 h8 h7 => (show False from h7).elim)).trans ((hF7 b9 (fun j9 h8 h7 => (show False from h7).elim)).trans ((hF1 b9 (fun j9 h8 h7 => h9 j9 h8 (show j9 = 24 by have h6 : j9 = 24 := h7; omega))).trans rfl))))))))))⟩
            · refine z_bipush (v := 6) B dX6_nextToken_154 rfl ?_
              refine z_goto (tgt := 161) B dX6_nextToken_156 rfl ?_
              refine z_istore_n (lv' := [(1, .int 6), (0, .ref (x + 24))]) B dX6_nextToken_161 rfl (Nat.le_of_ble_eq_true rfl) rfl ?_
              refine z_aload_n B dX6_nextToken_162 rfl 1 rfl ?_
              refine z_get (ref := "FlowExporter$Parser") (C := RX6) (T := TX6) (N := 8) (ci := 8) (v := .int (nI n_4)) B (by decide +kernel) rfl 4 (by decide) (by decide +kernel) rfl b_4 rfl dX6_nextToken_163 ?_
              refine z_aload_n B dX6_nextToken_166 rfl 1 rfl ?_
              refine z_get (ref := "FlowExporter$Parser") (C := RX6) (T := TX6) (N := 8) (ci := 8) (v := .int i_17) B (by decide +kernel) rfl 6 (by decide) (by decide +kernel) rfl b_4 rfl dX6_nextToken_167 ?_
              refine z_isub B dX6_nextToken_170 ?_
              refine z_fi (fun v_21 => ?_)
              refine z_iload_n B dX6_nextToken_171 rfl 0 rfl ?_
              refine z_icmp_le (tgt := 180) B dX6_nextToken_172 rfl (fun c_18 => ?_) (fun c_18 => ?_)
              · exact z_ret_v B dX6_nextToken_180 ⟨rfl, rfl, hI23, (fun b9 h9 => ((hF11 b9 (fun j9 h8 h7 => h9 j9 h8 (show j9 = 24 by have h6 : j9 = 24 := h7; omega))).trans ((fset_fr hΦ11 (fun h8 => h9 (24) h8 (show 24 = 24 by omega))).trans ((hF10 b9 (fun j9 h8 h7 => (show False from h7).elim)).trans ((hF9 b9 (fun j9 h8 h7 => (show False from h7).elim)).trans ((fset_fr hΦ10 (fun h8 => h9 (24) h8 (show 24 = 24 by omega))).trans ((hF8 b9 (fun j9 h8 h7 => (show False from h7).elim)).trans ((hF7 b9 (fun j9 h8 h7 => (show False from h7).elim)).trans ((hF1 b9 (fun j9 h8 h7 => h9 j9 h8 (show j9 = 24 by have h6 : j9 = 24 := h7; omega))).trans rfl)))))))))⟩
              · refine z_aload_n B dX6_nextToken_175 rfl 1 rfl ?_
                refine z_iconst (v := 5) B dX6_nextToken_176 rfl ?_
                refine z_put (ref := "FlowExporter$Parser") (C := RX6) (T := TX6) (N := 8) (ci := 8) (v := .int 5) B (by decide +kernel) tyX6 tyX6_ok nmX6 rfl 5 (by decide) (by decide +kernel) rfl (Or.inl rfl) b_4 (Nat.le_trans hx (Nat.le_add_right x 24)) rfl rfl (Nat.le_of_ble_eq_true rfl) dX6_nextToken_177 (fun Φ22 hΦ14 => ?_)
                have h_27 : Φ22 (x + 24) = some (o_ 8 [.ref (x + 25), .int i_13, .int i_14, .ref (x + 1), .int (nI n_4), .int 5, .int i_17, .int i_18]) := fset_at hΦ14
                have hI25 : In G x (ca) Φ22 := In.put (k := 24) hI23 hΦ14 (ok10 (k := 24) rfl ⟨i_13, i_14, nI n_4, 5, i_17, i_18, rfl⟩)
                exact z_ret_v B dX6_nextToken_180 ⟨rfl, rfl, hI25, (fun b9 h9 => ((fset_fr hΦ14 (fun h8 => h9 (24) h8 (show 24 = 24 by omega))).trans ((hF11 b9 (fun j9 h8 h7 => h9 j9 h8 (show j9 = 24 by have h6 : j9 = 24 := h7; omega))).trans ((fset_fr hΦ11 (fun h8 => h9 (24) h8 (show 24 = 24 by omega))).trans ((hF10 b9 (fun j9 h8 h7 => (show False from h7).elim)).trans ((hF9 b9 (fun j9 h8 h7 => (show False from h7).elim)).trans ((fset_fr hΦ10 (fun h8 => h9 (24) h8 (show 24 = 24 by omega))).trans ((hF8 b9 (fun j9 h8 h7 => (show False from h7).elim)).trans ((hF7 b9 (fun j9 h8 h7 => (show False from h7).elim)).trans ((hF1 b9 (fun j9 h8 h7 => h9 j9 h8 (show j9 = 24 by have h6 : j9 = 24 := h7; omega))).trans rfl))))))))))⟩
          · refine z_aload_n B dX6_nextToken_112 rfl 0 rfl ?_
            refine z_get (ref := "FlowExporter$Parser") (C := RX6) (T := TX6) (N := 8) (ci := 8) (v := .ref (x + 1)) B (by decide +kernel) rfl 3 (by decide) (by decide +kernel) rfl b_4 rfl dX6_nextToken_113 ?_
            refine z_aload_n B dX6_nextToken_116 rfl 0 rfl ?_
            refine z_get (ref := "FlowExporter$Parser") (C := RX6) (T := TX6) (N := 8) (ci := 8) (v := .int i_15) B (by decide +kernel) rfl 4 (by decide) (by decide +kernel) rfl b_4 rfl dX6_nextToken_117 ?_
            refine z_callV (As := [.int i_15]) (rest := []) B (s_X5_byteAt G l Φl3 sz x (ca) 1 i_15 hx hI23 rfl) (cwV 1 B.1.2.2.2.2 gX6_nextToken_X5_byteAt rfl rfl rfl (by decide +kernel) ⟨Nat.le_of_ble_eq_true rfl, Nat.le_of_ble_eq_true rfl⟩) h_25 rfl rfl rfl rfl (Nat.le_of_ble_eq_true rfl) dX6_nextToken_120 ⟨Nat.le_of_ble_eq_true rfl, Nat.le_of_ble_eq_true rfl⟩ (fun r_9 Φ23 sz9 st9 hp9 hs9 => ?_)
            obtain ⟨⟨v_22, rfl⟩, hq9, hI26, hF12⟩ := hp9
            subst sz9
            replace hs9 : st9 = [.int v_22] := hs9
            subst st9
            replace hI26 : In G x (ca) Φ23 := hI26
            refine z_callS (As := [.int v_22]) (rest := []) B (s_X6_kindOf G l Φ23 sz x (ca) v_22 hx hI26 ) (va_cwS 1 B.1.2.2.2.2 gX6_nextToken_X6_kindOf rfl rfl rfl (by decide +kernel) ⟨Nat.le_of_ble_eq_true rfl, Nat.le_of_ble_eq_true rfl⟩) rfl rfl (Nat.le_of_ble_eq_true rfl) dX6_nextToken_123 ⟨Nat.le_of_ble_eq_true rfl, Nat.le_of_ble_eq_true rfl⟩ (fun r_10 Φ24 sz10 st10 hp10 hs10 => ?_)
            obtain ⟨⟨v_23, rfl⟩, hq10, hI27, hF13⟩ := hp10
            subst sz10
            replace hs10 : st10 = [.int v_23] := hs10
            subst st10
            replace hI27 : In G x (ca) Φ24 := hI27
            refine z_aload_n B dX6_nextToken_126 rfl 0 rfl ?_
            have h_28 : Φ24 (x + 24) = some (o_ 8 [.ref (x + 25), .int i_13, .int i_14, .ref (x + 1), .int i_15, .int i_16, .int i_17, .int i_18]) := ((hF13 (x + 24) (fun j9 h8 h7 => (show False from h7).elim)).trans ((hF12 (x + 24) (fun j9 h8 h7 => (show False from h7).elim)).trans b_4))
            refine z_get (ref := "FlowExporter$Parser") (C := RX6) (T := TX6) (N := 8) (ci := 8) (v := .int i_16) B (by decide +kernel) rfl 5 (by decide) (by decide +kernel) rfl h_28 rfl dX6_nextToken_127 ?_
            refine z_icmp_ne (tgt := 146) B dX6_nextToken_130 rfl (fun c_19 => ?_) (fun c_19 => ?_)
            · refine z_aload_n B dX6_nextToken_146 rfl 0 rfl ?_
              refine z_get (ref := "FlowExporter$Parser") (C := RX6) (T := TX6) (N := 8) (ci := 8) (v := .int i_16) B (by decide +kernel) rfl 5 (by decide) (by decide +kernel) rfl h_28 rfl dX6_nextToken_147 ?_
              refine z_iconst (v := 3) B dX6_nextToken_150 rfl ?_
              refine z_icmp_ne (tgt := 159) B dX6_nextToken_151 rfl (fun c_20 => ?_) (fun c_20 => ?_)
              · refine z_bipush (v := 12) B dX6_nextToken_159 rfl ?_
                refine z_istore_n (lv' := [(1, .int 12), (0, .ref (x + 24))]) B dX6_nextToken_161 rfl (Nat.le_of_ble_eq_true rfl) rfl ?_
                refine z_aload_n B dX6_nextToken_162 rfl 1 rfl ?_
                refine z_get (ref := "FlowExporter$Parser") (C := RX6) (T := TX6) (N := 8) (ci := 8) (v := .int i_15) B (by decide +kernel) rfl 4 (by decide) (by decide +kernel) rfl h_28 rfl dX6_nextToken_163 ?_
                refine z_aload_n B dX6_nextToken_166 rfl 1 rfl ?_
                refine z_get (ref := "FlowExporter$Parser") (C := RX6) (T := TX6) (N := 8) (ci := 8) (v := .int i_17) B (by decide +kernel) rfl 6 (by decide) (by decide +kernel) rfl h_28 rfl dX6_nextToken_167 ?_
                refine z_isub B dX6_nextToken_170 ?_
                refine z_fi (fun v_24 => ?_)
                refine z_iload_n B dX6_nextToken_171 rfl 0 rfl ?_
                refine z_icmp_le (tgt := 180) B dX6_nextToken_172 rfl (fun c_21 => ?_) (fun c_21 => ?_)
                · exact z_ret_v B dX6_nextToken_180 ⟨rfl, rfl, hI27, (fun b9 h9 => ((hF13 b9 (fun j9 h8 h7 => (show False from h7).elim)).trans ((hF12 b9 (fun j9 h8 h7 => (show False from h7).elim)).trans ((hF11 b9 (fun j9 h8 h7 => h9 j9 h8 (show j9 = 24 by have h6 : j9 = 24 := h7; omega))).trans ((fset_fr hΦ11 (fun h8 => h9 (24) h8 (show 24 = 24 by omega))).trans ((hF10 b9 (fun j9 h8 h7 => (show False from h7).elim)).trans ((hF9 b9 (fun j9 h8 h7 => (show False from h7).elim)).trans ((fset_fr hΦ10 (fun h8 => h9 (24) h8 (show 24 = 24 by omega))).trans ((hF8 b9 (fun j9 h8 h7 => (show False from h7).elim)).trans ((hF7 b9 (fun j9 h8 h7 => (show False from h7).elim)).trans ((hF1 b9 (fun j9 h8 h7 => h9 j9 h8 (show j9 = 24 by have h6 : j9 = 24 := h7; omega))).trans rfl)))))))))))⟩
                · refine z_aload_n B dX6_nextToken_175 rfl 1 rfl ?_
                  refine z_iconst (v := 5) B dX6_nextToken_176 rfl ?_
                  refine z_put (ref := "FlowExporter$Parser") (C := RX6) (T := TX6) (N := 8) (ci := 8) (v := .int 5) B (by decide +kernel) tyX6 tyX6_ok nmX6 rfl 5 (by decide) (by decide +kernel) rfl (Or.inl rfl) h_28 (Nat.le_trans hx (Nat.le_add_right x 24)) rfl rfl (Nat.le_of_ble_eq_true rfl) dX6_nextToken_177 (fun Φ25 hΦ15 => ?_)
                  have h_29 : Φ25 (x + 24) = some (o_ 8 [.ref (x + 25), .int i_13, .int i_14, .ref (x + 1), .int i_15, .int 5, .int i_17, .int i_18]) := fset_at hΦ15
                  have hI28 : In G x (ca) Φ25 := In.put (k := 24) hI27 hΦ15 (ok10 (k := 24) rfl ⟨i_13, i_14, i_15, 5, i_17, i_18, rfl⟩)
                  exact z_ret_v B dX6_nextToken_180 ⟨rfl, rfl, hI28, (fun b9 h9 => ((fset_fr hΦ15 (fun h8 => h9 (24) h8 (show 24 = 24 by omega))).trans ((hF13 b9 (fun j9 h8 h7 => (show False from h7).elim)).trans ((hF12 b9 (fun j9 h8 h7 => (show False from h7).elim)).trans ((hF11 b9 (fun j9 h8 h7 => h9 j9 h8 (show j9 = 24 by have h6 : j9 = 24 := h7; omega))).trans ((fset_fr hΦ11 (fun h8 => h9 (24) h8 (show 24 = 24 by omega))).trans ((hF10 b9 (fun j9 h8 h7 => (show False from h7).elim)).trans ((hF9 b9 (fun j9 h8 h7 => (show False from h7).elim)).trans ((fset_fr hΦ10 (fun h8 => h9 (24) h8 (show 24 = 24 by omega))).trans ((hF8 b9 (fun j9 h8 h7 => (show False from h7).elim)).trans ((hF7 b9 (fun j9 h8 h7 => (show False from h7).elim)).trans ((hF1 b9 (fun j9 h8 h7 => h9 j9 h8 (show j9 = 24 by have h6 : j9 = 24 := h7; omega))).trans rfl))))))))))))⟩
              · refine z_bipush (v := 6) B dX6_nextToken_154 rfl ?_
                refine z_goto (tgt := 161) B dX6_nextToken_156 rfl ?_
                refine z_istore_n (lv' := [(1, .int 6), (0, .ref (x + 24))]) B dX6_nextToken_161 rfl (Nat.le_of_ble_eq_true rfl) rfl ?_
                refine z_aload_n B dX6_nextToken_162 rfl 1 rfl ?_
                refine z_get (ref := "FlowExporter$Parser") (C := RX6) (T := TX6) (N := 8) (ci := 8) (v := .int i_15) B (by decide +kernel) rfl 4 (by decide) (by decide +kernel) rfl h_28 rfl dX6_nextToken_163 ?_
                refine z_aload_n B dX6_nextToken_166 rfl 1 rfl ?_
                refine z_get (ref := "FlowExporter$Parser") (C := RX6) (T := TX6) (N := 8) (ci := 8) (v := .int i_17) B (by decide +kernel) rfl 6 (by decide) (by decide +kernel) rfl h_28 rfl dX6_nextToken_167 ?_
                refine z_isub B dX6_nextToken_170 ?_
                refine z_fi (fun v_25 => ?_)
                refine z_iload_n B dX6_nextToken_171 rfl 0 rfl ?_
                refine z_icmp_le (tgt := 180) B dX6_nextToken_172 rfl (fun c_22 => ?_) (fun c_22 => ?_)
                · exact z_ret_v B dX6_nextToken_180 ⟨rfl, rfl, hI27, (fun b9 h9 => ((hF13 b9 (fun j9 h8 h7 => (show False from h7).elim)).trans ((hF12 b9 (fun j9 h8 h7 => (show False from h7).elim)).trans ((hF11 b9 (fun j9 h8 h7 => h9 j9 h8 (show j9 = 24 by have h6 : j9 = 24 := h7; omega))).trans ((fset_fr hΦ11 (fun h8 => h9 (24) h8 (show 24 = 24 by omega))).trans ((hF10 b9 (fun j9 h8 h7 => (show False from h7).elim)).trans ((hF9 b9 (fun j9 h8 h7 => (show False from h7).elim)).trans ((fset_fr hΦ10 (fun h8 => h9 (24) h8 (show 24 = 24 by omega))).trans ((hF8 b9 (fun j9 h8 h7 => (show False from h7).elim)).trans ((hF7 b9 (fun j9 h8 h7 => (show False from h7).elim)).trans ((hF1 b9 (fun j9 h8 h7 => h9 j9 h8 (show j9 = 24 by have h6 : j9 = 24 := h7; omega))).trans rfl)))))))))))⟩
                · refine z_aload_n B dX6_nextToken_175 rfl 1 rfl ?_
                  refine z_iconst (v := 5) B dX6_nextToken_176 rfl ?_
                  refine z_put (ref := "FlowExporter$Parser") (C := RX6) (T := TX6) (N := 8) (ci := 8) (v := .int 5) B (by decide +kernel) tyX6 tyX6_ok nmX6 rfl 5 (by decide) (by decide +kernel) rfl (Or.inl rfl) h_28 (Nat.le_trans hx (Nat.le_add_right x 24)) rfl rfl (Nat.le_of_ble_eq_true rfl) dX6_nextToken_177 (fun Φ26 hΦ16 => ?_)
                  have h_30 : Φ26 (x + 24) = some (o_ 8 [.ref (x + 25), .int i_13, .int i_14, .ref (x + 1), .int i_15, .int 5, .int i_17, .int i_18]) := fset_at hΦ16
                  have hI29 : In G x (ca) Φ26 := In.put (k := 24) hI27 hΦ16 (ok10 (k := 24) rfl ⟨i_13, i_14, i_15, 5, i_17, i_18, rfl⟩)
                  exact z_ret_v B dX6_nextToken_180 ⟨rfl, rfl, hI29, (fun b9 h9 => ((fset_fr hΦ16 (fun h8 => h9 (24) h8 (show 24 = 24 by omega))).trans ((hF13 b9 (fun j9 h8 h7 => (show False from h7).elim)).trans ((hF12 b9 (fun j9 h8 h7 => (show False from h7).elim)).trans ((hF11 b9 (fun j9 h8 h7 => h9 j9 h8 (show j9 = 24 by have h6 : j9 = 24 := h7; omega))).trans ((fset_fr hΦ11 (fun h8 => h9 (24) h8 (show 24 = 24 by omega))).trans ((hF10 b9 (fun j9 h8 h7 => (show False from h7).elim)).trans ((hF9 b9 (fun j9 h8 h7 => (show False from h7).elim)).trans ((fset_fr hΦ10 (fun h8 => h9 (24) h8 (show 24 = 24 by omega))).trans ((hF8 b9 (fun j9 h8 h7 => (show False from h7).elim)).trans ((hF7 b9 (fun j9 h8 h7 => (show False from h7).elim)).trans ((hF1 b9 (fun j9 h8 h7 => h9 j9 h8 (show j9 = 24 by have h6 : j9 = 24 := h7; omega))).trans rfl))))))))))))⟩
            · refine z_aload_n B dX6_nextToken_133 rfl 0 rfl ?_
              refine z_dup B dX6_nextToken_134 rfl ?_
              refine z_get (ref := "FlowExporter$Parser") (C := RX6) (T := TX6) (N := 8) (ci := 8) (v := .int i_15) B (by decide +kernel) rfl 4 (by decide) (by decide +kernel) rfl h_28 rfl dX6_nextToken_135 ?_
              refine z_iconst (v := 1) B dX6_nextToken_138 rfl ?_
              refine z_iadd B dX6_nextToken_139 ?_
              refine z_put (ref := "FlowExporter$Parser") (C := RX6) (T := TX6) (N := 8) (ci := 8) (v := .int (i_15 + 1)) B (by decide +kernel) tyX6 tyX6_ok nmX6 rfl 4 (by decide) (by decide +kernel) rfl (Or.inl rfl) h_28 (Nat.le_trans hx (Nat.le_add_right x 24)) rfl rfl (Nat.le_of_ble_eq_true rfl) dX6_nextToken_140 (fun Φ27 hΦ17 => ?_)
              have h_31 : Φ27 (x + 24) = some (o_ 8 [.ref (x + 25), .int i_13, .int i_14, .ref (x + 1), .int (i_15 + 1), .int i_16, .int i_17, .int i_18]) := fset_at hΦ17
              have hI30 : In G x (ca) Φ27 := In.put (k := 24) hI27 hΦ17 (ok10 (k := 24) rfl ⟨i_13, i_14, i_15 + 1, i_16, i_17, i_18, rfl⟩)
              refine z_goto (tgt := 98) B dX6_nextToken_143 rfl ?_
              refine z_lv [0] rfl ?_
              exact ih3 (i_13, i_14, i_15 + 1, i_16, i_17, i_18) Φ27 (up_dec c_15) ⟨hI30, (fun b9 h9 => ((fset_fr hΦ17 (fun h8 => h9 (24) h8 (show 24 = 24 by omega))).trans ((hF13 b9 (fun j9 h8 h7 => (show False from h7).elim)).trans ((hF12 b9 (fun j9 h8 h7 => (show False from h7).elim)).trans ((hF11 b9 (fun j9 h8 h7 => h9 j9 h8 (show j9 = 24 by have h6 : j9 = 24 := h7; omega))).trans rfl))))), h_31, trivial⟩
        · refine z_aload_n B dX6_nextToken_87 rfl 0 rfl ?_
          refine z_dup B dX6_nextToken_88 rfl ?_
          refine z_get (ref := "FlowExporter$Parser") (C := RX6) (T := TX6) (N := 8) (ci := 8) (v := .int i_3) B (by decide +kernel) rfl 4 (by decide) (by decide +kernel) rfl h_23 rfl dX6_nextToken_89 ?_
          refine z_iconst (v := 1) B dX6_nextToken_92 rfl ?_
          refine z_iadd B dX6_nextToken_93 ?_
          refine z_fi (fun v_26 => ?_)
          refine z_put (ref := "FlowExporter$Parser") (C := RX6) (T := TX6) (N := 8) (ci := 8) (v := .int v_26) B (by decide +kernel) tyX6 tyX6_ok nmX6 rfl 4 (by decide) (by decide +kernel) rfl (Or.inl rfl) h_23 (Nat.le_trans hx (Nat.le_add_right x 24)) rfl rfl (Nat.le_of_ble_eq_true rfl) dX6_nextToken_94 (fun Φ28 hΦ18 => ?_)
          have h_32 : Φ28 (x + 24) = some (o_ 8 [.ref (x + 25), .int i_1, .int i_2, .ref (x + 1), .int v_26, .int v_18, .int i_3, .int i_6]) := fset_at hΦ18
          have hI31 : In G x (ca) Φ28 := In.put (k := 24) hI21 hΦ18 (ok10 (k := 24) rfl ⟨i_1, i_2, v_26, v_18, i_3, i_6, rfl⟩)
          exact z_ret_v B dX6_nextToken_97 ⟨rfl, rfl, hI31, (fun b9 h9 => ((fset_fr hΦ18 (fun h8 => h9 (24) h8 (show 24 = 24 by omega))).trans ((fset_fr hΦ11 (fun h8 => h9 (24) h8 (show 24 = 24 by omega))).trans ((hF10 b9 (fun j9 h8 h7 => (show False from h7).elim)).trans ((hF9 b9 (fun j9 h8 h7 => (show False from h7).elim)).trans ((fset_fr hΦ10 (fun h8 => h9 (24) h8 (show 24 = 24 by omega))).trans ((hF8 b9 (fun j9 h8 h7 => (show False from h7).elim)).trans ((hF7 b9 (fun j9 h8 h7 => (show False from h7).elim)).trans ((hF1 b9 (fun j9 h8 h7 => h9 j9 h8 (show j9 = 24 by have h6 : j9 = 24 := h7; omega))).trans rfl)))))))))⟩
    · refine z_aload_n B dX6_nextToken_32 rfl 0 rfl ?_
      refine z_dup B dX6_nextToken_33 rfl ?_
      have h_33 : Φ15 (x + 24) = some (o_ 8 [.ref (x + 25), .int i_1, .int i_2, .ref (x + 1), .int i_3, .int i_4, .int i_5, .int i_6]) := ((hF8 (x + 24) (fun j9 h8 h7 => (show False from h7).elim)).trans ((hF7 (x + 24) (fun j9 h8 h7 => (show False from h7).elim)).trans b_2))
      refine z_get (ref := "FlowExporter$Parser") (C := RX6) (T := TX6) (N := 8) (ci := 8) (v := .int i_3) B (by decide +kernel) rfl 4 (by decide) (by decide +kernel) rfl h_33 rfl dX6_nextToken_34 ?_
      refine z_iconst (v := 1) B dX6_nextToken_37 rfl ?_
      refine z_iadd B dX6_nextToken_38 ?_
      refine z_put (ref := "FlowExporter$Parser") (C := RX6) (T := TX6) (N := 8) (ci := 8) (v := .int (i_3 + 1)) B (by decide +kernel) tyX6 tyX6_ok nmX6 rfl 4 (by decide) (by decide +kernel) rfl (Or.inl rfl) h_33 (Nat.le_trans hx (Nat.le_add_right x 24)) rfl rfl (Nat.le_of_ble_eq_true rfl) dX6_nextToken_39 (fun Φ29 hΦ19 => ?_)
      have h_34 : Φ29 (x + 24) = some (o_ 8 [.ref (x + 25), .int i_1, .int i_2, .ref (x + 1), .int (i_3 + 1), .int i_4, .int i_5, .int i_6]) := fset_at hΦ19
      have hI32 : In G x (ca) Φ29 := In.put (k := 24) hI17 hΦ19 (ok10 (k := 24) rfl ⟨i_1, i_2, i_3 + 1, i_4, i_5, i_6, rfl⟩)
      refine z_goto (tgt := 0) B dX6_nextToken_42 rfl ?_
      refine z_lv [0] rfl ?_
      exact ih1 (i_1, i_2, i_3 + 1, i_4, i_5, i_6) Φ29 (up_dec c_1) ⟨hI32, (fun b9 h9 => ((fset_fr hΦ19 (fun h8 => h9 (24) h8 (show 24 = 24 by omega))).trans ((hF8 b9 (fun j9 h8 h7 => (show False from h7).elim)).trans ((hF7 b9 (fun j9 h8 h7 => (show False from h7).elim)).trans ((hF1 b9 (fun j9 h8 h7 => h9 j9 h8 (show j9 = 24 by have h6 : j9 = 24 := h7; omega))).trans rfl))))), h_34, trivial⟩

set_option maxHeartbeats 4000000 in
set_option maxRecDepth 100000 in
theorem s_X6_readNumber (G : EnvG) (l : Launch) (Φ : Hm) (sz x ca : Nat) (a : Int32) (b : Int32) (hx : G.2.2.2 ≤ x) (hI : In G x ca Φ)  : Ct G l yX6_readNumber wsX6_readNumber ({ frames := 2, cells := 0, slots := 0, locals := 42 }) 0 0 [.ref (x + 24), .int a, .int b] Φ sz (fun v Φ1 sz1 => (∃ r9 : Int32, v = some (.int r9) ∧ (r9 = 0 ∨ (r9 = 1 ∧ ∃ co po nx ki sa nu : Int32, Φ1 (x + 24) = some (o_ 8 [.ref (x + 25), .int co, .int po, .ref (x + 1), .int nx, .int ki, .int sa, .int nu]) ∧ ¬ nu < a))) ∧ sz1 = sz ∧ In G x (ca) Φ1 ∧ Fr x (fun j9 => j9 = 24) Φ Φ1) := by
  refine Ct.of (cc := cX6_readNumber) (maxL := 4) (ret := (some .boolean)) (by decide) rfl (Nat.le_of_ble_eq_true rfl) ?_
  intro p9 e9 s9 m9 w9 t9 k9 B
  show Z p9 l e9 _ s9 m9 _ w9 t9 k9 _ G 4 0 [(0, .ref (x + 24)), (1, .int a), (2, .int b)] [] Φ sz 0 0
  refine z_aload_n B dX6_readNumber_0 rfl 0 rfl ?_
  obtain ⟨v_1, v_2, v_3, v_4, v_5, v_6, h_1⟩ := in10 (k := 24) hI rfl
  have h_2 : Φ (x + 24) = some (o_ 8 [.ref (x + 25), .int v_1, .int v_2, .ref (x + 1), .int v_3, .int v_4, .int v_5, .int v_6]) := h_1
  refine z_callV (As := []) (rest := []) B (s_X6_nextToken G l Φ sz x (ca)  hx hI ) (cwV 0 B.1.2.2.2.2 gX6_readNumber_X6_nextToken rfl rfl rfl (by decide +kernel) ⟨Nat.le_of_ble_eq_true rfl, Nat.le_of_ble_eq_true rfl⟩) h_2 rfl rfl rfl rfl (Nat.le_of_ble_eq_true rfl) dX6_readNumber_1 ⟨Nat.le_of_ble_eq_true rfl, Nat.le_of_ble_eq_true rfl⟩ (fun r_1 Φ1 sz1 st1 hp1 hs1 => ?_)
  obtain ⟨rfl, hq1, hI1, hF1⟩ := hp1
  subst sz1
  replace hs1 : st1 = [] := hs1
  subst st1
  replace hI1 : In G x (ca) Φ1 := hI1
  refine z_aload_n B dX6_readNumber_4 rfl 0 rfl ?_
  obtain ⟨v_7, v_8, v_9, v_10, v_11, v_12, h_3⟩ := in10 (k := 24) hI1 rfl
  have h_4 : Φ1 (x + 24) = some (o_ 8 [.ref (x + 25), .int v_7, .int v_8, .ref (x + 1), .int v_9, .int v_10, .int v_11, .int v_12]) := h_3
  refine z_get (ref := "FlowExporter$Parser") (C := RX6) (T := TX6) (N := 8) (ci := 8) (v := .int v_10) B (by decide +kernel) rfl 5 (by decide) (by decide +kernel) rfl h_4 rfl dX6_readNumber_5 ?_
  refine z_iconst (v := 3) B dX6_readNumber_8 rfl ?_
  refine z_icmp_eq (tgt := 18) B dX6_readNumber_9 rfl (fun c_1 => ?_) (fun c_1 => ?_)
  · refine z_aload_n B dX6_readNumber_18 rfl 0 rfl ?_
    refine z_iconst (v := 0) B dX6_readNumber_19 rfl ?_
    refine z_put (ref := "FlowExporter$Parser") (C := RX6) (T := TX6) (N := 8) (ci := 8) (v := .int 0) B (by decide +kernel) tyX6 tyX6_ok nmX6 rfl 7 (by decide) (by decide +kernel) rfl (Or.inl rfl) h_4 (Nat.le_trans hx (Nat.le_add_right x 24)) rfl rfl (Nat.le_of_ble_eq_true rfl) dX6_readNumber_20 (fun Φ2 hΦ1 => ?_)
    have h_5 : Φ2 (x + 24) = some (o_ 8 [.ref (x + 25), .int v_7, .int v_8, .ref (x + 1), .int v_9, .int v_10, .int v_11, .int 0]) := fset_at hΦ1
    have hI2 : In G x (ca) Φ2 := In.put (k := 24) hI1 hΦ1 (ok10 (k := 24) rfl ⟨v_7, v_8, v_9, v_10, v_11, 0, rfl⟩)
    refine z_aload_n B dX6_readNumber_23 rfl 0 rfl ?_
    refine z_get (ref := "FlowExporter$Parser") (C := RX6) (T := TX6) (N := 8) (ci := 8) (v := .int v_11) B (by decide +kernel) rfl 6 (by decide) (by decide +kernel) rfl h_5 rfl dX6_readNumber_24 ?_
    refine z_istore_n (lv' := [(3, .int v_11), (0, .ref (x + 24)), (1, .int a), (2, .int b)]) B dX6_readNumber_27 rfl (Nat.le_of_ble_eq_true rfl) rfl ?_
    refine z_lv [0, 1, 2, 3] rfl ?_
    refine z_loop (α := Int32 × Int32 × Int32 × Int32 × Int32 × Int32 × Int32) (fun (a9 : Int32 × Int32 × Int32 × Int32 × Int32 × Int32 × Int32) Φi => In G x (ca) Φi ∧ Fr x (fun j9 => j9 = 24) Φ2 Φi ∧ (Φi (x + 24) = some (o_ 8 [.ref (x + 25), .int a9.2.1, .int a9.2.2.1, .ref (x + 1), .int a9.2.2.2.1, .int a9.2.2.2.2.1, .int a9.2.2.2.2.2.1, .int a9.2.2.2.2.2.2])) ∧ True) (fun a9 => [(3, .int a9.1), (0, .ref (x + 24)), (1, .int a), (2, .int b)]) (fun a9 => ((a9.2.2.2.1).toInt - (a9.1).toInt).toNat) ?_ (v_11, v_7, v_8, v_9, v_10, v_11, 0) ⟨hI2, fun _ _ => rfl, h_5, trivial⟩
    rintro ⟨i_1, i_2, i_3, i_4, i_5, i_6, i_7⟩ Φl1 ⟨hI3, hF2, b_1, -⟩ ih1
    replace hI3 : In G x (ca) Φl1 := hI3
    replace b_1 : Φl1 (x + 24) = some (o_ 8 [.ref (x + 25), .int i_2, .int i_3, .ref (x + 1), .int i_4, .int i_5, .int i_6, .int i_7]) := b_1
    show Z p9 l e9 _ s9 m9 _ w9 t9 k9 _ G 4 28 [(3, .int i_1), (0, .ref (x + 24)), (1, .int a), (2, .int b)] [] Φl1 _ _ _
    refine z_iload_n B dX6_readNumber_28 rfl 0 rfl ?_
    refine z_aload_n B dX6_readNumber_29 rfl 1 rfl ?_
    refine z_get (ref := "FlowExporter$Parser") (C := RX6) (T := TX6) (N := 8) (ci := 8) (v := .int i_4) B (by decide +kernel) rfl 4 (by decide) (by decide +kernel) rfl b_1 rfl dX6_readNumber_30 ?_
    refine z_icmp_ge (tgt := 65) B dX6_readNumber_33 rfl (fun c_2 => ?_) (fun c_2 => ?_)
    · refine z_aload_n B dX6_readNumber_65 rfl 1 rfl ?_
      refine z_get (ref := "FlowExporter$Parser") (C := RX6) (T := TX6) (N := 8) (ci := 8) (v := .int i_7) B (by decide +kernel) rfl 7 (by decide) (by decide +kernel) rfl b_1 rfl dX6_readNumber_66 ?_
      refine z_iload_n B dX6_readNumber_69 rfl 2 rfl ?_
      refine z_icmp_lt (tgt := 81) B dX6_readNumber_70 rfl (fun c_3 => ?_) (fun c_3 => ?_)
      · refine z_aload_n B dX6_readNumber_81 rfl 1 rfl ?_
        refine z_iconst (v := 2) B dX6_readNumber_82 rfl ?_
        refine z_callV (As := [.int 2]) (rest := []) B (s_X6_fail G l Φl1 sz x (ca) 2 hx hI3 ) (cwV 1 B.1.2.2.2.2 gX6_readNumber_X6_fail rfl rfl rfl (by decide +kernel) ⟨Nat.le_of_ble_eq_true rfl, Nat.le_of_ble_eq_true rfl⟩) b_1 rfl rfl rfl rfl (Nat.le_of_ble_eq_true rfl) dX6_readNumber_83 ⟨Nat.le_of_ble_eq_true rfl, Nat.le_of_ble_eq_true rfl⟩ (fun r_2 Φ3 sz2 st2 hp2 hs2 => ?_)
        obtain ⟨rfl, hq2, hI4, hF3⟩ := hp2
        subst sz2
        replace hs2 : st2 = [.int 0] := hs2
        subst st2
        replace hI4 : In G x (ca) Φ3 := hI4
        refine z_if_eq (tgt := 93) B dX6_readNumber_86 rfl (fun c_4 => ?_) (fun h9 => absurd (by decide) h9)
        refine z_iconst (v := 0) B dX6_readNumber_93 rfl ?_
        exact z_ret_z B dX6_readNumber_94 (by decide) ⟨⟨_, rfl, Or.inl rfl⟩, rfl, hI4, (fun b9 h9 => ((hF3 b9 (fun j9 h8 h7 => h9 j9 h8 (show j9 = 24 by have h6 : j9 = 24 := h7; omega))).trans ((hF2 b9 (fun j9 h8 h7 => h9 j9 h8 (show j9 = 24 by have h6 : j9 = 24 := h7; omega))).trans ((fset_fr hΦ1 (fun h8 => h9 (24) h8 (show 24 = 24 by omega))).trans ((hF1 b9 (fun j9 h8 h7 => h9 j9 h8 (show j9 = 24 by have h6 : j9 = 24 := h7; omega))).trans rfl)))))⟩
      · refine z_aload_n B dX6_readNumber_73 rfl 1 rfl ?_
        refine z_get (ref := "FlowExporter$Parser") (C := RX6) (T := TX6) (N := 8) (ci := 8) (v := .int i_7) B (by decide +kernel) rfl 7 (by decide) (by decide +kernel) rfl b_1 rfl dX6_readNumber_74 ?_
        refine z_iload_n B dX6_readNumber_77 rfl 3 rfl ?_
        refine z_icmp_le (tgt := 89) B dX6_readNumber_78 rfl (fun c_5 => ?_) (fun c_5 => ?_)
        · refine z_iconst (v := 1) B dX6_readNumber_89 rfl ?_
          refine z_goto (tgt := 94) B dX6_readNumber_90 rfl ?_
          exact z_ret_z B dX6_readNumber_94 (by decide) ⟨⟨_, rfl, Or.inr ⟨rfl, _, _, _, _, _, _, b_1, c_3⟩⟩, rfl, hI3, (fun b9 h9 => ((hF2 b9 (fun j9 h8 h7 => h9 j9 h8 (show j9 = 24 by have h6 : j9 = 24 := h7; omega))).trans ((fset_fr hΦ1 (fun h8 => h9 (24) h8 (show 24 = 24 by omega))).trans ((hF1 b9 (fun j9 h8 h7 => h9 j9 h8 (show j9 = 24 by have h6 : j9 = 24 := h7; omega))).trans rfl))))⟩
        · refine z_aload_n B dX6_readNumber_81 rfl 1 rfl ?_
          refine z_iconst (v := 2) B dX6_readNumber_82 rfl ?_
          refine z_callV (As := [.int 2]) (rest := []) B (s_X6_fail G l Φl1 sz x (ca) 2 hx hI3 ) (cwV 1 B.1.2.2.2.2 gX6_readNumber_X6_fail rfl rfl rfl (by decide +kernel) ⟨Nat.le_of_ble_eq_true rfl, Nat.le_of_ble_eq_true rfl⟩) b_1 rfl rfl rfl rfl (Nat.le_of_ble_eq_true rfl) dX6_readNumber_83 ⟨Nat.le_of_ble_eq_true rfl, Nat.le_of_ble_eq_true rfl⟩ (fun r_3 Φ4 sz3 st3 hp3 hs3 => ?_)
          obtain ⟨rfl, hq3, hI5, hF4⟩ := hp3
          subst sz3
          replace hs3 : st3 = [.int 0] := hs3
          subst st3
          replace hI5 : In G x (ca) Φ4 := hI5
          refine z_if_eq (tgt := 93) B dX6_readNumber_86 rfl (fun c_6 => ?_) (fun h9 => absurd (by decide) h9)
          refine z_iconst (v := 0) B dX6_readNumber_93 rfl ?_
          exact z_ret_z B dX6_readNumber_94 (by decide) ⟨⟨_, rfl, Or.inl rfl⟩, rfl, hI5, (fun b9 h9 => ((hF4 b9 (fun j9 h8 h7 => h9 j9 h8 (show j9 = 24 by have h6 : j9 = 24 := h7; omega))).trans ((hF2 b9 (fun j9 h8 h7 => h9 j9 h8 (show j9 = 24 by have h6 : j9 = 24 := h7; omega))).trans ((fset_fr hΦ1 (fun h8 => h9 (24) h8 (show 24 = 24 by omega))).trans ((hF1 b9 (fun j9 h8 h7 => h9 j9 h8 (show j9 = 24 by have h6 : j9 = 24 := h7; omega))).trans rfl)))))⟩
    · refine z_aload_n B dX6_readNumber_36 rfl 1 rfl ?_
      refine z_bipush (v := 10) B dX6_readNumber_37 rfl ?_
      refine z_aload_n B dX6_readNumber_39 rfl 1 rfl ?_
      refine z_get (ref := "FlowExporter$Parser") (C := RX6) (T := TX6) (N := 8) (ci := 8) (v := .int i_7) B (by decide +kernel) rfl 7 (by decide) (by decide +kernel) rfl b_1 rfl dX6_readNumber_40 ?_
      refine z_imul B dX6_readNumber_43 ?_
      refine z_fi (fun v_13 => ?_)
      refine z_aload_n B dX6_readNumber_44 rfl 1 rfl ?_
      refine z_get (ref := "FlowExporter$Parser") (C := RX6) (T := TX6) (N := 8) (ci := 8) (v := .ref (x + 1)) B (by decide +kernel) rfl 3 (by decide) (by decide +kernel) rfl b_1 rfl dX6_readNumber_45 ?_
      refine z_iload_n B dX6_readNumber_48 rfl 0 rfl ?_
      obtain ⟨n_1, h_6, b_2⟩ := in1 (k := 1) hI3 rfl
      replace b_2 : n_1 ≤ 700 := b_2
      have h_7 : Φl1 (x + 1) = some (o_ 7 [.ref (x + 2), .int (nI n_1)]) := h_6
      refine z_callV (As := [.int i_1]) (rest := [.int v_13, .ref (x + 24)]) B (s_X5_byteAt G l Φl1 sz x (ca) 1 i_1 hx hI3 rfl) (cwV 1 B.1.2.2.2.2 gX6_readNumber_X5_byteAt rfl rfl rfl (by decide +kernel) ⟨Nat.le_of_ble_eq_true rfl, Nat.le_of_ble_eq_true rfl⟩) h_7 rfl rfl rfl rfl (Nat.le_of_ble_eq_true rfl) dX6_readNumber_49 ⟨Nat.le_of_ble_eq_true rfl, Nat.le_of_ble_eq_true rfl⟩ (fun r_4 Φ5 sz4 st4 hp4 hs4 => ?_)
      obtain ⟨⟨v_14, rfl⟩, hq4, hI6, hF5⟩ := hp4
      subst sz4
      replace hs4 : st4 = [.int v_14, .int v_13, .ref (x + 24)] := hs4
      subst st4
      replace hI6 : In G x (ca) Φ5 := hI6
      refine z_iadd B dX6_readNumber_52 ?_
      refine z_fi (fun v_15 => ?_)
      refine z_bipush (v := 48) B dX6_readNumber_53 rfl ?_
      refine z_isub B dX6_readNumber_55 ?_
      refine z_fi (fun v_16 => ?_)
      have h_8 : Φ5 (x + 24) = some (o_ 8 [.ref (x + 25), .int i_2, .int i_3, .ref (x + 1), .int i_4, .int i_5, .int i_6, .int i_7]) := ((hF5 (x + 24) (fun j9 h8 h7 => (show False from h7).elim)).trans b_1)
      refine z_put (ref := "FlowExporter$Parser") (C := RX6) (T := TX6) (N := 8) (ci := 8) (v := .int v_16) B (by decide +kernel) tyX6 tyX6_ok nmX6 rfl 7 (by decide) (by decide +kernel) rfl (Or.inl rfl) h_8 (Nat.le_trans hx (Nat.le_add_right x 24)) rfl rfl (Nat.le_of_ble_eq_true rfl) dX6_readNumber_56 (fun Φ6 hΦ2 => ?_)
      have h_9 : Φ6 (x + 24) = some (o_ 8 [.ref (x + 25), .int i_2, .int i_3, .ref (x + 1), .int i_4, .int i_5, .int i_6, .int v_16]) := fset_at hΦ2
      have hI7 : In G x (ca) Φ6 := In.put (k := 24) hI6 hΦ2 (ok10 (k := 24) rfl ⟨i_2, i_3, i_4, i_5, i_6, v_16, rfl⟩)
      refine z_iinc (k := 0) (v := i_1 + 1) (lv' := [(3, .int (i_1 + 1)), (0, .ref (x + 24)), (1, .int a), (2, .int b)]) B dX6_readNumber_59 rfl rfl (Nat.le_of_ble_eq_true rfl) rfl ?_
      refine z_goto (tgt := 28) B dX6_readNumber_62 rfl ?_
      refine z_lv [0, 1, 2, 3] rfl ?_
      exact ih1 (i_1 + 1, i_2, i_3, i_4, i_5, i_6, v_16) Φ6 (up_dec c_2) ⟨hI7, (fun b9 h9 => ((fset_fr hΦ2 (fun h8 => h9 (24) h8 (show 24 = 24 by omega))).trans ((hF5 b9 (fun j9 h8 h7 => (show False from h7).elim)).trans ((hF2 b9 (fun j9 h8 h7 => h9 j9 h8 (show j9 = 24 by have h6 : j9 = 24 := h7; omega))).trans rfl)))), h_9, trivial⟩
  · refine z_aload_n B dX6_readNumber_12 rfl 0 rfl ?_
    refine z_iconst (v := 1) B dX6_readNumber_13 rfl ?_
    refine z_callV (As := [.int 1]) (rest := []) B (s_X6_fail G l Φ1 sz x (ca) 1 hx hI1 ) (cwV 1 B.1.2.2.2.2 gX6_readNumber_X6_fail rfl rfl rfl (by decide +kernel) ⟨Nat.le_of_ble_eq_true rfl, Nat.le_of_ble_eq_true rfl⟩) h_4 rfl rfl rfl rfl (Nat.le_of_ble_eq_true rfl) dX6_readNumber_14 ⟨Nat.le_of_ble_eq_true rfl, Nat.le_of_ble_eq_true rfl⟩ (fun r_5 Φ7 sz5 st5 hp5 hs5 => ?_)
    obtain ⟨rfl, hq5, hI8, hF6⟩ := hp5
    subst sz5
    replace hs5 : st5 = [.int 0] := hs5
    subst st5
    replace hI8 : In G x (ca) Φ7 := hI8
    exact z_ret_z B dX6_readNumber_17 (by decide) ⟨⟨_, rfl, Or.inl rfl⟩, rfl, hI8, (fun b9 h9 => ((hF6 b9 (fun j9 h8 h7 => h9 j9 h8 (show j9 = 24 by have h6 : j9 = 24 := h7; omega))).trans ((hF1 b9 (fun j9 h8 h7 => h9 j9 h8 (show j9 = 24 by have h6 : j9 = 24 := h7; omega))).trans rfl)))⟩

set_option maxHeartbeats 4000000 in
set_option maxRecDepth 100000 in
theorem s_X6_readSemicolon (G : EnvG) (l : Launch) (Φ : Hm) (sz x ca : Nat)  (hx : G.2.2.2 ≤ x) (hI : In G x ca Φ)  : Ct G l yX6_readSemicolon wsX6_readSemicolon ({ frames := 2, cells := 0, slots := 0, locals := 42 }) 0 0 [.ref (x + 24)] Φ sz (fun v Φ1 sz1 => (∃ r9 : Int32, v = some (.int r9) ∧ (r9 = 0 ∨ r9 = 1)) ∧ sz1 = sz ∧ In G x (ca) Φ1 ∧ Fr x (fun j9 => j9 = 24) Φ Φ1) := by
  refine Ct.of (cc := cX6_readSemicolon) (maxL := 1) (ret := (some .boolean)) (by decide) rfl (Nat.le_of_ble_eq_true rfl) ?_
  intro p9 e9 s9 m9 w9 t9 k9 B
  show Z p9 l e9 _ s9 m9 _ w9 t9 k9 _ G 1 0 [(0, .ref (x + 24))] [] Φ sz 0 0
  refine z_aload_n B dX6_readSemicolon_0 rfl 0 rfl ?_
  obtain ⟨v_1, v_2, v_3, v_4, v_5, v_6, h_1⟩ := in10 (k := 24) hI rfl
  have h_2 : Φ (x + 24) = some (o_ 8 [.ref (x + 25), .int v_1, .int v_2, .ref (x + 1), .int v_3, .int v_4, .int v_5, .int v_6]) := h_1
  refine z_callV (As := []) (rest := []) B (s_X6_nextToken G l Φ sz x (ca)  hx hI ) (cwV 0 B.1.2.2.2.2 gX6_readSemicolon_X6_nextToken rfl rfl rfl (by decide +kernel) ⟨Nat.le_of_ble_eq_true rfl, Nat.le_of_ble_eq_true rfl⟩) h_2 rfl rfl rfl rfl (Nat.le_of_ble_eq_true rfl) dX6_readSemicolon_1 ⟨Nat.le_of_ble_eq_true rfl, Nat.le_of_ble_eq_true rfl⟩ (fun r_1 Φ1 sz1 st1 hp1 hs1 => ?_)
  obtain ⟨rfl, hq1, hI1, hF1⟩ := hp1
  subst sz1
  replace hs1 : st1 = [] := hs1
  subst st1
  replace hI1 : In G x (ca) Φ1 := hI1
  refine z_aload_n B dX6_readSemicolon_4 rfl 0 rfl ?_
  obtain ⟨v_7, v_8, v_9, v_10, v_11, v_12, h_3⟩ := in10 (k := 24) hI1 rfl
  have h_4 : Φ1 (x + 24) = some (o_ 8 [.ref (x + 25), .int v_7, .int v_8, .ref (x + 1), .int v_9, .int v_10, .int v_11, .int v_12]) := h_3
  refine z_get (ref := "FlowExporter$Parser") (C := RX6) (T := TX6) (N := 8) (ci := 8) (v := .int v_10) B (by decide +kernel) rfl 5 (by decide) (by decide +kernel) rfl h_4 rfl dX6_readSemicolon_5 ?_
  refine z_iconst (v := 4) B dX6_readSemicolon_8 rfl ?_
  refine z_icmp_eq (tgt := 20) B dX6_readSemicolon_9 rfl (fun c_1 => ?_) (fun c_1 => ?_)
  · refine z_iconst (v := 1) B dX6_readSemicolon_20 rfl ?_
    refine z_goto (tgt := 25) B dX6_readSemicolon_21 rfl ?_
    exact z_ret_z B dX6_readSemicolon_25 (by decide) ⟨⟨_, rfl, by decide⟩, rfl, hI1, (fun b9 h9 => ((hF1 b9 (fun j9 h8 h7 => h9 j9 h8 (show j9 = 24 by have h6 : j9 = 24 := h7; omega))).trans rfl))⟩
  · refine z_aload_n B dX6_readSemicolon_12 rfl 0 rfl ?_
    refine z_iconst (v := 1) B dX6_readSemicolon_13 rfl ?_
    refine z_callV (As := [.int 1]) (rest := []) B (s_X6_fail G l Φ1 sz x (ca) 1 hx hI1 ) (cwV 1 B.1.2.2.2.2 gX6_readSemicolon_X6_fail rfl rfl rfl (by decide +kernel) ⟨Nat.le_of_ble_eq_true rfl, Nat.le_of_ble_eq_true rfl⟩) h_4 rfl rfl rfl rfl (Nat.le_of_ble_eq_true rfl) dX6_readSemicolon_14 ⟨Nat.le_of_ble_eq_true rfl, Nat.le_of_ble_eq_true rfl⟩ (fun r_2 Φ2 sz2 st2 hp2 hs2 => ?_)
    obtain ⟨rfl, hq2, hI2, hF2⟩ := hp2
    subst sz2
    replace hs2 : st2 = [.int 0] := hs2
    subst st2
    replace hI2 : In G x (ca) Φ2 := hI2
    refine z_if_eq (tgt := 24) B dX6_readSemicolon_17 rfl (fun c_2 => ?_) (fun h9 => absurd (by decide) h9)
    refine z_iconst (v := 0) B dX6_readSemicolon_24 rfl ?_
    exact z_ret_z B dX6_readSemicolon_25 (by decide) ⟨⟨_, rfl, by decide⟩, rfl, hI2, (fun b9 h9 => ((hF2 b9 (fun j9 h8 h7 => h9 j9 h8 (show j9 = 24 by have h6 : j9 = 24 := h7; omega))).trans ((hF1 b9 (fun j9 h8 h7 => h9 j9 h8 (show j9 = 24 by have h6 : j9 = 24 := h7; omega))).trans rfl)))⟩

set_option maxHeartbeats 4000000 in
set_option maxRecDepth 100000 in
theorem s_X6_isToken (G : EnvG) (l : Launch) (Φ : Hm) (sz x ca : Nat) (i : Nat) (f : Nat) (t : Nat) (hx : G.2.2.2 ≤ x) (hI : In G x ca Φ) (hi : i < 2) (hf : f ≤ 101) (ht : t ≤ 100) : Ct G l yX6_isToken wsX6_isToken ({ frames := 4, cells := 0, slots := 0, locals := 85 }) 0 0 [.ref (x + 24), .ref (G.2.2.1 (6 + i)), .int (nI f), .int (nI t)] Φ sz (fun v Φ1 sz1 => (∃ r9 : Int32, v = some (.int r9) ∧ (r9 = 0 ∨ r9 = 1)) ∧ sz1 = sz ∧ In G x (ca) Φ1 ∧ Fr x (fun j9 => False) Φ Φ1) := by
  refine Ct.of (cc := cX6_isToken) (maxL := 5) (ret := (some .boolean)) (by decide) rfl (Nat.le_of_ble_eq_true rfl) ?_
  intro p9 e9 s9 m9 w9 t9 k9 B
  show Z p9 l e9 _ s9 m9 _ w9 t9 k9 _ G 5 0 [(0, .ref (x + 24)), (1, .ref (G.2.2.1 (6 + i))), (2, .int (nI f)), (3, .int (nI t))] [] Φ sz 0 0
  refine z_iload_n B dX6_isToken_0 rfl 3 rfl ?_
  refine z_iload_n B dX6_isToken_1 rfl 2 rfl ?_
  refine z_isub B dX6_isToken_2 ?_
  refine z_fi (fun v_1 => ?_)
  refine z_aload_n B dX6_isToken_3 rfl 0 rfl ?_
  obtain ⟨v_2, v_3, v_4, v_5, v_6, v_7, h_1⟩ := in10 (k := 24) hI rfl
  have h_2 : Φ (x + 24) = some (o_ 8 [.ref (x + 25), .int v_2, .int v_3, .ref (x + 1), .int v_4, .int v_5, .int v_6, .int v_7]) := h_1
  refine z_get (ref := "FlowExporter$Parser") (C := RX6) (T := TX6) (N := 8) (ci := 8) (v := .int v_4) B (by decide +kernel) rfl 4 (by decide) (by decide +kernel) rfl h_2 rfl dX6_isToken_4 ?_
  refine z_aload_n B dX6_isToken_7 rfl 0 rfl ?_
  refine z_get (ref := "FlowExporter$Parser") (C := RX6) (T := TX6) (N := 8) (ci := 8) (v := .int v_6) B (by decide +kernel) rfl 6 (by decide) (by decide +kernel) rfl h_2 rfl dX6_isToken_8 ?_
  refine z_isub B dX6_isToken_11 ?_
  refine z_fi (fun v_8 => ?_)
  refine z_icmp_eq (tgt := 17) B dX6_isToken_12 rfl (fun c_1 => ?_) (fun c_1 => ?_)
  · refine z_iload_n B dX6_isToken_17 rfl 2 rfl ?_
    refine z_istore (lv' := [(4, .int (nI f)), (0, .ref (x + 24)), (1, .ref (G.2.2.1 (6 + i))), (2, .int (nI f)), (3, .int (nI t))]) B dX6_isToken_18 (Nat.le_of_ble_eq_true rfl) rfl ?_
    refine z_lv [0, 1, 2, 3, 4] rfl ?_
    refine z_loop (α := Nat) (fun (a9 : Nat) Φi => In G x (ca) Φi ∧ Fr x (fun j9 => False) Φ Φi ∧ (a9 ≤ 101) ∧ True) (fun a9 => [(4, .int (nI a9)), (0, .ref (x + 24)), (1, .ref (G.2.2.1 (6 + i))), (2, .int (nI f)), (3, .int (nI t))]) (fun a9 => 101 - a9) ?_ (f) ⟨hI, fun _ _ => rfl, (show f ≤ 101 by omega), trivial⟩
    rintro i_1 Φl1 ⟨hI1, hF1, b_1, -⟩ ih1
    replace hI1 : In G x (ca) Φl1 := hI1
    replace b_1 : i_1 ≤ 101 := b_1
    show Z p9 l e9 _ s9 m9 _ w9 t9 k9 _ G 5 20 [(4, .int (nI i_1)), (0, .ref (x + 24)), (1, .ref (G.2.2.1 (6 + i))), (2, .int (nI f)), (3, .int (nI t))] [] Φl1 _ _ _
    refine z_iload B dX6_isToken_20 0 rfl ?_
    refine z_iload_n B dX6_isToken_22 rfl 4 rfl ?_
    refine z_icmp_ge (tgt := 68) B dX6_isToken_23 rfl (fun c_2 => ?_) (fun c_2 => ?_)
    · have e_1 : t ≤ i_1 := (nI_leI (a := t) (b := i_1) (by omega) (by omega)).mp c_2
      refine z_iconst (v := 1) B dX6_isToken_68 rfl ?_
      exact z_ret_z B dX6_isToken_69 (by decide) ⟨⟨_, rfl, by decide⟩, rfl, hI1, (fun b9 h9 => ((hF1 b9 (fun j9 h8 h7 => (show False from h7).elim)).trans rfl))⟩
    · have e_2 : ¬ (t ≤ i_1) := fun h9 => c_2 ((nI_leI (a := t) (b := i_1) (by omega) (by omega)).mpr h9)
      refine z_iload B dX6_isToken_26 0 rfl ?_
      refine z_aload_n B dX6_isToken_28 rfl 2 rfl ?_
      have b_2 := lenS_le i
      refine z_callVS (i := i) (As := []) (rest := [.int (nI i_1)]) B (show i < 2 by omega) (c_J0_length G l Φl1 sz i (show i < 2 by omega) (fun v8 Φ8 sz8 => v8 = some (.int (nI (lenS.getD i 0))) ∧ sz8 = sz ∧ In G x (ca) Φ8 ∧ Fr x (fun j9 => False) Φl1 Φ8) ⟨rfl, rfl, hI1, fun _ _ => rfl⟩) (cwV 0 B.1.2.2.2.2 gX6_isToken_J0_length_8abf5 rfl rfl rfl (by decide +kernel) ⟨Nat.le_of_ble_eq_true rfl, Nat.le_of_ble_eq_true rfl⟩) rfl rfl (Nat.le_of_ble_eq_true rfl) dX6_isToken_29 ⟨Nat.le_of_ble_eq_true rfl, Nat.le_of_ble_eq_true rfl⟩ (fun r_1 Φ1 sz1 st1 hp1 hs1 => ?_)
      obtain ⟨rfl, hq1, hI2, hF2⟩ := hp1
      subst sz1
      replace hs1 : st1 = [.int (nI (lenS.getD i 0)), .int (nI i_1)] := hs1
      subst st1
      refine z_icmp_ge (tgt := 68) B dX6_isToken_32 rfl (fun c_3 => ?_) (fun c_3 => ?_)
      · have e_3 : lenS.getD i 0 ≤ i_1 := (nI_leI (a := lenS.getD i 0) (b := i_1) (by omega) (by omega)).mp c_3
        refine z_iconst (v := 1) B dX6_isToken_68 rfl ?_
        exact z_ret_z B dX6_isToken_69 (by decide) ⟨⟨_, rfl, by decide⟩, rfl, hI2, (fun b9 h9 => ((hF2 b9 (fun j9 h8 h7 => (show False from h7).elim)).trans ((hF1 b9 (fun j9 h8 h7 => (show False from h7).elim)).trans rfl)))⟩
      · have e_4 : ¬ (lenS.getD i 0 ≤ i_1) := fun h9 => c_3 ((nI_leI (a := lenS.getD i 0) (b := i_1) (by omega) (by omega)).mpr h9)
        refine z_aload_n B dX6_isToken_35 rfl 2 rfl ?_
        refine z_iload B dX6_isToken_36 0 rfl ?_
        have b_3 := lenS_le i
        refine z_callVS (i := i) (As := [.int (nI i_1)]) (rest := []) B (show i < 2 by omega) (c_J0_charAt G l Φ1 sz i i_1 (show i < 2 by omega) (show i_1 < lenS.getD i 0 by omega) (fun v8 Φ8 sz8 => v8 = some (.int ((bytS.getD i []).getD i_1 0)) ∧ sz8 = sz ∧ In G x (ca) Φ8 ∧ Fr x (fun j9 => False) Φ1 Φ8) ⟨rfl, rfl, hI2, fun _ _ => rfl⟩) (cwV 1 B.1.2.2.2.2 gX6_isToken_J0_charAt_5068e rfl rfl rfl (by decide +kernel) ⟨Nat.le_of_ble_eq_true rfl, Nat.le_of_ble_eq_true rfl⟩) rfl rfl (Nat.le_of_ble_eq_true rfl) dX6_isToken_38 ⟨Nat.le_of_ble_eq_true rfl, Nat.le_of_ble_eq_true rfl⟩ (fun r_2 Φ2 sz2 st2 hp2 hs2 => ?_)
        obtain ⟨rfl, hq2, hI3, hF3⟩ := hp2
        subst sz2
        replace hs2 : st2 = [.int ((bytS.getD i []).getD i_1 0)] := hs2
        subst st2
        refine z_fi (fun v_9 => ?_)
        refine z_aload_n B dX6_isToken_41 rfl 1 rfl ?_
        have h_3 : Φ2 (x + 24) = some (o_ 8 [.ref (x + 25), .int v_2, .int v_3, .ref (x + 1), .int v_4, .int v_5, .int v_6, .int v_7]) := ((hF3 (x + 24) (fun j9 h8 h7 => (show False from h7).elim)).trans ((hF2 (x + 24) (fun j9 h8 h7 => (show False from h7).elim)).trans ((hF1 (x + 24) (fun j9 h8 h7 => (show False from h7).elim)).trans h_2)))
        refine z_get (ref := "FlowExporter$Parser") (C := RX6) (T := TX6) (N := 8) (ci := 8) (v := .ref (x + 1)) B (by decide +kernel) rfl 3 (by decide) (by decide +kernel) rfl h_3 rfl dX6_isToken_42 ?_
        refine z_aload_n B dX6_isToken_45 rfl 1 rfl ?_
        refine z_get (ref := "FlowExporter$Parser") (C := RX6) (T := TX6) (N := 8) (ci := 8) (v := .int v_6) B (by decide +kernel) rfl 6 (by decide) (by decide +kernel) rfl h_3 rfl dX6_isToken_46 ?_
        refine z_iload B dX6_isToken_49 0 rfl ?_
        refine z_iadd B dX6_isToken_51 ?_
        refine z_fi (fun v_10 => ?_)
        refine z_iload_n B dX6_isToken_52 rfl 3 rfl ?_
        refine z_isub B dX6_isToken_53 ?_
        refine z_fi (fun v_11 => ?_)
        obtain ⟨n_1, h_4, b_4⟩ := in1 (k := 1) hI3 rfl
        replace b_4 : n_1 ≤ 700 := b_4
        have h_5 : Φ2 (x + 1) = some (o_ 7 [.ref (x + 2), .int (nI n_1)]) := h_4
        refine z_callV (As := [.int v_11]) (rest := [.int v_9]) B (s_X5_byteAt G l Φ2 sz x (ca) 1 v_11 hx hI3 rfl) (cwV 1 B.1.2.2.2.2 gX6_isToken_X5_byteAt rfl rfl rfl (by decide +kernel) ⟨Nat.le_of_ble_eq_true rfl, Nat.le_of_ble_eq_true rfl⟩) h_5 rfl rfl rfl rfl (Nat.le_of_ble_eq_true rfl) dX6_isToken_54 ⟨Nat.le_of_ble_eq_true rfl, Nat.le_of_ble_eq_true rfl⟩ (fun r_3 Φ3 sz3 st3 hp3 hs3 => ?_)
        obtain ⟨⟨v_12, rfl⟩, hq3, hI4, hF4⟩ := hp3
        subst sz3
        replace hs3 : st3 = [.int v_12, .int v_9] := hs3
        subst st3
        replace hI4 : In G x (ca) Φ3 := hI4
        refine z_icmp_eq (tgt := 62) B dX6_isToken_57 rfl (fun c_4 => ?_) (fun c_4 => ?_)
        · refine z_iinc (k := 0) (v := nI (i_1 + 1)) (lv' := [(4, .int (nI (i_1 + 1))), (0, .ref (x + 24)), (1, .ref (G.2.2.1 (6 + i))), (2, .int (nI f)), (3, .int (nI t))]) B dX6_isToken_62 rfl (nI_add i_1 1) (Nat.le_of_ble_eq_true rfl) rfl ?_
          refine z_goto (tgt := 20) B dX6_isToken_65 rfl ?_
          refine z_lv [0, 1, 2, 3, 4] rfl ?_
          exact ih1 (i_1 + 1) Φ3 (show 101 - (i_1 + 1) < 101 - i_1 by omega) ⟨hI4, (fun b9 h9 => ((hF4 b9 (fun j9 h8 h7 => (show False from h7).elim)).trans ((hF3 b9 (fun j9 h8 h7 => (show False from h7).elim)).trans ((hF2 b9 (fun j9 h8 h7 => (show False from h7).elim)).trans ((hF1 b9 (fun j9 h8 h7 => (show False from h7).elim)).trans rfl))))), (show (i_1 + 1) ≤ 101 by omega), trivial⟩
        · refine z_iconst (v := 0) B dX6_isToken_60 rfl ?_
          exact z_ret_z B dX6_isToken_61 (by decide) ⟨⟨_, rfl, by decide⟩, rfl, hI4, (fun b9 h9 => ((hF4 b9 (fun j9 h8 h7 => (show False from h7).elim)).trans ((hF3 b9 (fun j9 h8 h7 => (show False from h7).elim)).trans ((hF2 b9 (fun j9 h8 h7 => (show False from h7).elim)).trans ((hF1 b9 (fun j9 h8 h7 => (show False from h7).elim)).trans rfl)))))⟩
  · refine z_iconst (v := 0) B dX6_isToken_15 rfl ?_
    exact z_ret_z B dX6_isToken_16 (by decide) ⟨⟨_, rfl, by decide⟩, rfl, hI, (fun b9 h9 => rfl)⟩

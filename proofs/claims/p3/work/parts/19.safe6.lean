set_option maxHeartbeats 4000000 in
set_option maxRecDepth 100000 in
theorem s_X2_exportAll (G : EnvG) (l : Launch) (Φ : Hm) (sz x ca : Nat)  (hx : G.2.2.2 ≤ x) (hI : In G x ca Φ)  : Ct G l yX2_exportAll wsX2_exportAll ({ frames := 4, cells := 0, slots := 0, locals := 94 }) 0 0 [.ref (x + 80)] Φ sz (fun v Φ1 sz1 => (v = none) ∧ sz1 = sz ∧ In G x (ca) Φ1 ∧ Fr x (fun j9 => 74 ≤ j9 ∧ j9 < 95) Φ Φ1) := by
  refine Ct.of (cc := cX2_exportAll) (maxL := 2) (ret := none) (by decide) rfl (Nat.le_of_ble_eq_true rfl) ?_
  intro p9 e9 s9 m9 w9 t9 k9 B
  show Z p9 l e9 _ s9 m9 _ w9 t9 k9 _ G 2 0 [(0, .ref (x + 80))] [] Φ sz 0 0
  refine z_aload_n B dX2_exportAll_0 rfl 0 rfl ?_
  obtain ⟨v_1, v_2, v_3, v_4, v_5, v_6, v_7, v_8, v_9, h_1, b_1⟩ := in16 (k := 80) hI rfl
  have h_2 : Φ (x + 80) = some (o_ 4 [.ref (x + 3), .ref (x + 74), .ref (x + 81), .ref (x + 95), .int v_1, .int v_2, .int v_3, .int v_4, .int v_5, .int v_6, .long v_7, .long v_8, .long v_9]) := h_1
  refine z_get (ref := "FlowExporter$Exporter") (C := RX2) (T := TX2) (N := 13) (ci := 4) (v := .ref (x + 81)) B (by decide +kernel) rfl 2 (by decide) (by decide +kernel) rfl h_2 rfl dX2_exportAll_1 ?_
  obtain ⟨n_1, h_3, b_2⟩ := in17 (k := 81) hI rfl
  replace b_2 : n_1 ≤ 12 := b_2
  have h_4 : Φ (x + 81) = some (o_ 6 [.ref (x + 82), .int (nI n_1)]) := h_3
  refine z_get (ref := "FlowExporter$FlowTable") (C := RX4) (T := TX4) (N := 2) (ci := 6) (v := .int (nI n_1)) B (by decide +kernel) rfl 1 (by decide) (by decide +kernel) rfl h_4 rfl dX2_exportAll_4 ?_
  refine z_istore_n (lv' := [(1, .int (nI n_1)), (0, .ref (x + 80))]) B dX2_exportAll_7 rfl (Nat.le_of_ble_eq_true rfl) rfl ?_
  refine z_lv [0, 1] rfl ?_
  refine z_loop (α := Nat) (fun (a9 : Nat) Φi => In G x (ca) Φi ∧ Fr x (fun j9 => 74 ≤ j9 ∧ j9 < 95) Φ Φi ∧ (a9 ≤ 12) ∧ True) (fun a9 => [(1, .int (nI a9)), (0, .ref (x + 80))]) (fun a9 => a9) ?_ (n_1) ⟨hI, fun _ _ => rfl, (show n_1 ≤ 12 by omega), trivial⟩
  rintro i_1 Φl1 ⟨hI1, hF1, b_3, -⟩ ih1
  replace hI1 : In G x (ca) Φl1 := hI1
  replace b_3 : i_1 ≤ 12 := b_3
  show Z p9 l e9 _ s9 m9 _ w9 t9 k9 _ G 2 8 [(1, .int (nI i_1)), (0, .ref (x + 80))] [] Φl1 _ _ _
  refine z_iload_n B dX2_exportAll_8 rfl 0 rfl ?_
  refine z_if_le (tgt := 23) B dX2_exportAll_9 rfl (fun c_1 => ?_) (fun c_1 => ?_)
  · have e_1 : i_1 ≤ 0 := (nI_leI (a := i_1) (b := 0) (by omega) (by omega)).mp c_1
    exact z_ret_v B dX2_exportAll_23 ⟨rfl, rfl, hI1, (fun b9 h9 => ((hF1 b9 (fun j9 h8 h7 => h9 j9 h8 (show 74 ≤ j9 ∧ j9 < 95 by have h6 : 74 ≤ j9 ∧ j9 < 95 := h7; omega))).trans rfl))⟩
  · have e_2 : ¬ (i_1 ≤ 0) := fun h9 => c_1 ((nI_leI (a := i_1) (b := 0) (by omega) (by omega)).mpr h9)
    refine z_aload_n B dX2_exportAll_12 rfl 1 rfl ?_
    refine z_iconst (v := 0) B dX2_exportAll_13 rfl ?_
    obtain ⟨v_10, v_11, v_12, v_13, v_14, v_15, v_16, v_17, v_18, h_5, b_4⟩ := in16 (k := 80) hI1 rfl
    have h_6 : Φl1 (x + 80) = some (o_ 4 [.ref (x + 3), .ref (x + 74), .ref (x + 81), .ref (x + 95), .int v_10, .int v_11, .int v_12, .int v_13, .int v_14, .int v_15, .long v_16, .long v_17, .long v_18]) := h_5
    refine z_callV (As := [.int 0]) (rest := []) B (s_X2_exportAt G l Φl1 sz x (ca) 0 hx hI1 ) (cwV 1 B.1.2.2.2.2 gX2_exportAll_X2_exportAt rfl rfl rfl (by decide +kernel) ⟨Nat.le_of_ble_eq_true rfl, Nat.le_of_ble_eq_true rfl⟩) h_6 rfl rfl rfl rfl (Nat.le_of_ble_eq_true rfl) dX2_exportAll_14 ⟨Nat.le_of_ble_eq_true rfl, Nat.le_of_ble_eq_true rfl⟩ (fun r_1 Φ1 sz1 st1 hp1 hs1 => ?_)
    obtain ⟨rfl, hq1, hI2, hF2⟩ := hp1
    subst sz1
    replace hs1 : st1 = [] := hs1
    subst st1
    replace hI2 : In G x (ca) Φ1 := hI2
    refine z_iinc (k := 0) (v := nI (i_1 - 1)) (lv' := [(1, .int (nI (i_1 - 1))), (0, .ref (x + 80))]) B dX2_exportAll_17 rfl (nI_m1 (show 1 ≤ i_1 by omega)) (Nat.le_of_ble_eq_true rfl) rfl ?_
    refine z_goto (tgt := 8) B dX2_exportAll_20 rfl ?_
    refine z_lv [0, 1] rfl ?_
    exact ih1 (i_1 - 1) Φ1 (show (i_1 - 1) < i_1 by omega) ⟨hI2, (fun b9 h9 => ((hF2 b9 (fun j9 h8 h7 => h9 j9 h8 (show 74 ≤ j9 ∧ j9 < 95 by have h6 : 74 ≤ j9 ∧ j9 < 95 := h7; omega))).trans ((hF1 b9 (fun j9 h8 h7 => h9 j9 h8 (show 74 ≤ j9 ∧ j9 < 95 by have h6 : 74 ≤ j9 ∧ j9 < 95 := h7; omega))).trans rfl))), (show (i_1 - 1) ≤ 12 by omega), trivial⟩

set_option maxHeartbeats 4000000 in
set_option maxRecDepth 100000 in
theorem s_X2_exportOld (G : EnvG) (l : Launch) (Φ : Hm) (sz x ca : Nat)  (hx : G.2.2.2 ≤ x) (hI : In G x ca Φ)  : Ct G l yX2_exportOld wsX2_exportOld ({ frames := 4, cells := 0, slots := 0, locals := 94 }) 0 0 [.ref (x + 80)] Φ sz (fun v Φ1 sz1 => (v = none) ∧ sz1 = sz ∧ In G x (ca) Φ1 ∧ Fr x (fun j9 => 74 ≤ j9 ∧ j9 < 95) Φ Φ1) := by
  refine Ct.of (cc := cX2_exportOld) (maxL := 6) (ret := none) (by decide) rfl (Nat.le_of_ble_eq_true rfl) ?_
  intro p9 e9 s9 m9 w9 t9 k9 B
  show Z p9 l e9 _ s9 m9 _ w9 t9 k9 _ G 6 0 [(0, .ref (x + 80))] [] Φ sz 0 0
  refine z_aload_n B dX2_exportOld_0 rfl 0 rfl ?_
  obtain ⟨v_1, v_2, v_3, v_4, v_5, v_6, v_7, v_8, v_9, h_1, b_1⟩ := in16 (k := 80) hI rfl
  have h_2 : Φ (x + 80) = some (o_ 4 [.ref (x + 3), .ref (x + 74), .ref (x + 81), .ref (x + 95), .int v_1, .int v_2, .int v_3, .int v_4, .int v_5, .int v_6, .long v_7, .long v_8, .long v_9]) := h_1
  refine z_get (ref := "FlowExporter$Exporter") (C := RX2) (T := TX2) (N := 13) (ci := 4) (v := .ref (x + 3)) B (by decide +kernel) rfl 0 (by decide) (by decide +kernel) rfl h_2 rfl dX2_exportOld_1 ?_
  refine z_iconst (v := 2) B dX2_exportOld_4 rfl ?_
  obtain ⟨v_10, v_11, h_3⟩ := in3 (k := 3) hI rfl
  have h_4 : Φ (x + 3) = some (o_ 3 [.ref (x + 4), .ref (x + 5), .ref (x + 6), .ref (x + 7), .int v_10, .int v_11]) := h_3
  refine z_callV (As := [.int 2]) (rest := []) B (s_X1_get G l Φ sz x (ca) 3 2 hx hI rfl) (cwV 1 B.1.2.2.2.2 gX2_exportOld_X1_get rfl rfl rfl (by decide +kernel) ⟨Nat.le_of_ble_eq_true rfl, Nat.le_of_ble_eq_true rfl⟩) h_4 rfl rfl rfl rfl (Nat.le_of_ble_eq_true rfl) dX2_exportOld_5 ⟨Nat.le_of_ble_eq_true rfl, Nat.le_of_ble_eq_true rfl⟩ (fun r_1 Φ1 sz1 st1 hp1 hs1 => ?_)
  obtain ⟨⟨n_1, rfl, b_2⟩, hq1, hI1, hF1⟩ := hp1
  subst sz1
  replace hs1 : st1 = [.int (nI n_1)] := hs1
  subst st1
  replace hI1 : In G x (ca) Φ1 := hI1
  replace b_2 : n_1 < 2 ^ 31 := b_2
  refine z_istore_n (lv' := [(1, .int (nI n_1)), (0, .ref (x + 80))]) B dX2_exportOld_8 rfl (Nat.le_of_ble_eq_true rfl) rfl ?_
  refine z_aload_n B dX2_exportOld_9 rfl 1 rfl ?_
  have h_5 : Φ1 (x + 80) = some (o_ 4 [.ref (x + 3), .ref (x + 74), .ref (x + 81), .ref (x + 95), .int v_1, .int v_2, .int v_3, .int v_4, .int v_5, .int v_6, .long v_7, .long v_8, .long v_9]) := ((hF1 (x + 80) (fun j9 h8 h7 => (show False from h7).elim)).trans h_2)
  refine z_get (ref := "FlowExporter$Exporter") (C := RX2) (T := TX2) (N := 13) (ci := 4) (v := .ref (x + 3)) B (by decide +kernel) rfl 0 (by decide) (by decide +kernel) rfl h_5 rfl dX2_exportOld_10 ?_
  refine z_iconst (v := 3) B dX2_exportOld_13 rfl ?_
  have h_6 : Φ1 (x + 3) = some (o_ 3 [.ref (x + 4), .ref (x + 5), .ref (x + 6), .ref (x + 7), .int v_10, .int v_11]) := ((hF1 (x + 3) (fun j9 h8 h7 => (show False from h7).elim)).trans h_4)
  refine z_callV (As := [.int 3]) (rest := []) B (s_X1_get G l Φ1 sz x (ca) 3 3 hx hI1 rfl) (cwV 1 B.1.2.2.2.2 gX2_exportOld_X1_get rfl rfl rfl (by decide +kernel) ⟨Nat.le_of_ble_eq_true rfl, Nat.le_of_ble_eq_true rfl⟩) h_6 rfl rfl rfl rfl (Nat.le_of_ble_eq_true rfl) dX2_exportOld_14 ⟨Nat.le_of_ble_eq_true rfl, Nat.le_of_ble_eq_true rfl⟩ (fun r_2 Φ2 sz2 st2 hp2 hs2 => ?_)
  obtain ⟨⟨n_2, rfl, b_3⟩, hq2, hI2, hF2⟩ := hp2
  subst sz2
  replace hs2 : st2 = [.int (nI n_2)] := hs2
  subst st2
  replace hI2 : In G x (ca) Φ2 := hI2
  replace b_3 : n_2 < 2 ^ 31 := b_3
  refine z_istore_n (lv' := [(2, .int (nI n_2)), (1, .int (nI n_1)), (0, .ref (x + 80))]) B dX2_exportOld_17 rfl (Nat.le_of_ble_eq_true rfl) rfl ?_
  refine z_iconst (v := 0) B dX2_exportOld_18 rfl ?_
  refine z_istore_n (lv' := [(3, .int 0), (2, .int (nI n_2)), (1, .int (nI n_1)), (0, .ref (x + 80))]) B dX2_exportOld_19 rfl (Nat.le_of_ble_eq_true rfl) rfl ?_
  refine z_aload_n B dX2_exportOld_20 rfl 3 rfl ?_
  have h_7 : Φ2 (x + 80) = some (o_ 4 [.ref (x + 3), .ref (x + 74), .ref (x + 81), .ref (x + 95), .int v_1, .int v_2, .int v_3, .int v_4, .int v_5, .int v_6, .long v_7, .long v_8, .long v_9]) := ((hF2 (x + 80) (fun j9 h8 h7 => (show False from h7).elim)).trans h_5)
  refine z_get (ref := "FlowExporter$Exporter") (C := RX2) (T := TX2) (N := 13) (ci := 4) (v := .ref (x + 81)) B (by decide +kernel) rfl 2 (by decide) (by decide +kernel) rfl h_7 rfl dX2_exportOld_21 ?_
  obtain ⟨n_3, h_8, b_4⟩ := in17 (k := 81) hI2 rfl
  replace b_4 : n_3 ≤ 12 := b_4
  have h_9 : Φ2 (x + 81) = some (o_ 6 [.ref (x + 82), .int (nI n_3)]) := h_8
  refine z_get (ref := "FlowExporter$FlowTable") (C := RX4) (T := TX4) (N := 2) (ci := 6) (v := .int (nI n_3)) B (by decide +kernel) rfl 1 (by decide) (by decide +kernel) rfl h_9 rfl dX2_exportOld_24 ?_
  refine z_istore (lv' := [(4, .int (nI n_3)), (3, .int 0), (2, .int (nI n_2)), (1, .int (nI n_1)), (0, .ref (x + 80))]) B dX2_exportOld_27 (Nat.le_of_ble_eq_true rfl) rfl ?_
  refine z_lv [0, 1, 2, 3, 4] rfl ?_
  refine z_loop (α := Nat × Int32) (fun (a9 : Nat × Int32) Φi => In G x (ca) Φi ∧ Fr x (fun j9 => 74 ≤ j9 ∧ j9 < 95) Φ2 Φi ∧ (a9.1 ≤ 12) ∧ True) (fun a9 => [(4, .int (nI (a9.1))), (3, .int a9.2), (2, .int (nI n_2)), (1, .int (nI n_1)), (0, .ref (x + 80))]) (fun a9 => a9.1) ?_ (n_3, 0) ⟨hI2, fun _ _ => rfl, (show n_3 ≤ 12 by omega), trivial⟩
  rintro ⟨i_1, i_2⟩ Φl1 ⟨hI3, hF3, b_5, -⟩ ih1
  replace hI3 : In G x (ca) Φl1 := hI3
  replace b_5 : i_1 ≤ 12 := b_5
  show Z p9 l e9 _ s9 m9 _ w9 t9 k9 _ G 6 29 [(4, .int (nI i_1)), (3, .int i_2), (2, .int (nI n_2)), (1, .int (nI n_1)), (0, .ref (x + 80))] [] Φl1 _ _ _
  refine z_iload B dX2_exportOld_29 0 rfl ?_
  refine z_if_le (tgt := 89) B dX2_exportOld_31 rfl (fun c_1 => ?_) (fun c_1 => ?_)
  · have e_1 : i_1 ≤ 0 := (nI_leI (a := i_1) (b := 0) (by omega) (by omega)).mp c_1
    exact z_ret_v B dX2_exportOld_89 ⟨rfl, rfl, hI3, (fun b9 h9 => ((hF3 b9 (fun j9 h8 h7 => h9 j9 h8 (show 74 ≤ j9 ∧ j9 < 95 by have h6 : 74 ≤ j9 ∧ j9 < 95 := h7; omega))).trans ((hF2 b9 (fun j9 h8 h7 => (show False from h7).elim)).trans ((hF1 b9 (fun j9 h8 h7 => (show False from h7).elim)).trans rfl))))⟩
  · have e_2 : ¬ (i_1 ≤ 0) := fun h9 => c_1 ((nI_leI (a := i_1) (b := 0) (by omega) (by omega)).mpr h9)
    refine z_aload_n B dX2_exportOld_34 rfl 4 rfl ?_
    obtain ⟨v_12, v_13, v_14, v_15, v_16, v_17, v_18, v_19, v_20, h_10, b_6⟩ := in16 (k := 80) hI3 rfl
    have h_11 : Φl1 (x + 80) = some (o_ 4 [.ref (x + 3), .ref (x + 74), .ref (x + 81), .ref (x + 95), .int v_12, .int v_13, .int v_14, .int v_15, .int v_16, .int v_17, .long v_18, .long v_19, .long v_20]) := h_10
    refine z_get (ref := "FlowExporter$Exporter") (C := RX2) (T := TX2) (N := 13) (ci := 4) (v := .ref (x + 81)) B (by decide +kernel) rfl 2 (by decide) (by decide +kernel) rfl h_11 rfl dX2_exportOld_35 ?_
    refine z_iload_n B dX2_exportOld_38 rfl 1 rfl ?_
    obtain ⟨n_4, h_12, b_7⟩ := in17 (k := 81) hI3 rfl
    replace b_7 : n_4 ≤ 12 := b_7
    have h_13 : Φl1 (x + 81) = some (o_ 6 [.ref (x + 82), .int (nI n_4)]) := h_12
    refine z_callV (As := [.int i_2]) (rest := []) B (s_X4_flowAt G l Φl1 sz x (ca) 81 i_2 hx hI3 rfl) (cwV 1 B.1.2.2.2.2 gX2_exportOld_X4_flowAt rfl rfl rfl (by decide +kernel) ⟨Nat.le_of_ble_eq_true rfl, Nat.le_of_ble_eq_true rfl⟩) h_13 rfl rfl rfl rfl (Nat.le_of_ble_eq_true rfl) dX2_exportOld_39 ⟨Nat.le_of_ble_eq_true rfl, Nat.le_of_ble_eq_true rfl⟩ (fun r_3 Φ3 sz3 st3 hp3 hs3 => ?_)
    obtain ⟨⟨m_1, hm_1, rfl⟩, hq3, hI4, hF4⟩ := hp3
    subst sz3
    replace hs3 : st3 = [.ref (x + (81 + 2 + m_1))] := hs3
    subst st3
    replace hI4 : In G x (ca) Φ3 := hI4
    replace hm_1 : m_1 < 12 := hm_1
    refine z_astore (lv' := [(5, .ref (x + (81 + 2 + m_1))), (4, .int (nI i_1)), (3, .int i_2), (2, .int (nI n_2)), (1, .int (nI n_1)), (0, .ref (x + 80))]) B dX2_exportOld_42 (Nat.le_of_ble_eq_true rfl) rfl ?_
    refine z_aload_n B dX2_exportOld_44 rfl 5 rfl ?_
    have h_14 : Φ3 (x + 80) = some (o_ 4 [.ref (x + 3), .ref (x + 74), .ref (x + 81), .ref (x + 95), .int v_12, .int v_13, .int v_14, .int v_15, .int v_16, .int v_17, .long v_18, .long v_19, .long v_20]) := ((hF4 (x + 80) (fun j9 h8 h7 => (show False from h7).elim)).trans h_11)
    refine z_get (ref := "FlowExporter$Exporter") (C := RX2) (T := TX2) (N := 13) (ci := 4) (v := .int v_12) B (by decide +kernel) rfl 4 (by decide) (by decide +kernel) rfl h_14 rfl dX2_exportOld_45 ?_
    refine z_aload B dX2_exportOld_48 0 rfl ?_
    obtain ⟨v_21, v_22, v_23, v_24, v_25, h_15⟩ := in19 (k := 81 + 2 + m_1) hI4 (kd_f (kd_r rfl) hm_1)
    have h_16 : Φ3 (x + (81 + 2 + m_1)) = some (o_ 5 [.long v_21, .long v_22, .long v_23, .int v_24, .int v_25]) := h_15
    refine z_get (ref := "FlowExporter$Flow") (C := RX3) (T := TX3) (N := 5) (ci := 5) (v := .int v_24) B (by decide +kernel) rfl 3 (by decide) (by decide +kernel) rfl h_16 rfl dX2_exportOld_50 ?_
    refine z_isub B dX2_exportOld_53 ?_
    refine z_fi (fun v_26 => ?_)
    refine z_iload_n B dX2_exportOld_54 rfl 4 rfl ?_
    refine z_icmp_ge (tgt := 72) B dX2_exportOld_55 rfl (fun c_2 => ?_) (fun c_2 => ?_)
    · obtain ⟨n_5, e_4, e_3, rfl⟩ := nI_ofge (c := n_1) (by omega) (Int32.not_lt.mpr c_2)
      refine z_aload_n B dX2_exportOld_72 rfl 5 rfl ?_
      refine z_iload_n B dX2_exportOld_73 rfl 2 rfl ?_
      refine z_callV (As := [.int i_2]) (rest := []) B (s_X2_exportAt G l Φ3 sz x (ca) i_2 hx hI4 ) (cwV 1 B.1.2.2.2.2 gX2_exportOld_X2_exportAt rfl rfl rfl (by decide +kernel) ⟨Nat.le_of_ble_eq_true rfl, Nat.le_of_ble_eq_true rfl⟩) h_14 rfl rfl rfl rfl (Nat.le_of_ble_eq_true rfl) dX2_exportOld_74 ⟨Nat.le_of_ble_eq_true rfl, Nat.le_of_ble_eq_true rfl⟩ (fun r_4 Φ4 sz4 st4 hp4 hs4 => ?_)
      obtain ⟨rfl, hq4, hI5, hF5⟩ := hp4
      subst sz4
      replace hs4 : st4 = [] := hs4
      subst st4
      replace hI5 : In G x (ca) Φ4 := hI5
      refine z_goto (tgt := 83) B dX2_exportOld_77 rfl ?_
      refine z_iinc (k := 1) (v := nI (i_1 - 1)) (lv' := [(4, .int (nI (i_1 - 1))), (5, .ref (x + (81 + 2 + m_1))), (3, .int i_2), (2, .int (nI n_2)), (1, .int (nI n_1)), (0, .ref (x + 80))]) B dX2_exportOld_83 rfl (nI_m1 (show 1 ≤ i_1 by omega)) (Nat.le_of_ble_eq_true rfl) rfl ?_
      refine z_goto (tgt := 29) B dX2_exportOld_86 rfl ?_
      refine z_lv [0, 2, 3, 4, 5] rfl ?_
      exact ih1 (i_1 - 1, i_2) Φ4 (show (i_1 - 1) < i_1 by omega) ⟨hI5, (fun b9 h9 => ((hF5 b9 (fun j9 h8 h7 => h9 j9 h8 (show 74 ≤ j9 ∧ j9 < 95 by have h6 : 74 ≤ j9 ∧ j9 < 95 := h7; omega))).trans ((hF4 b9 (fun j9 h8 h7 => (show False from h7).elim)).trans ((hF3 b9 (fun j9 h8 h7 => h9 j9 h8 (show 74 ≤ j9 ∧ j9 < 95 by have h6 : 74 ≤ j9 ∧ j9 < 95 := h7; omega))).trans rfl)))), (show (i_1 - 1) ≤ 12 by omega), trivial⟩
    · refine z_aload_n B dX2_exportOld_58 rfl 5 rfl ?_
      refine z_get (ref := "FlowExporter$Exporter") (C := RX2) (T := TX2) (N := 13) (ci := 4) (v := .int v_12) B (by decide +kernel) rfl 4 (by decide) (by decide +kernel) rfl h_14 rfl dX2_exportOld_59 ?_
      refine z_aload B dX2_exportOld_62 0 rfl ?_
      refine z_get (ref := "FlowExporter$Flow") (C := RX3) (T := TX3) (N := 5) (ci := 5) (v := .int v_25) B (by decide +kernel) rfl 4 (by decide) (by decide +kernel) rfl h_16 rfl dX2_exportOld_64 ?_
      refine z_isub B dX2_exportOld_67 ?_
      refine z_fi (fun v_27 => ?_)
      refine z_iload_n B dX2_exportOld_68 rfl 3 rfl ?_
      refine z_icmp_lt (tgt := 80) B dX2_exportOld_69 rfl (fun c_3 => ?_) (fun c_3 => ?_)
      · refine z_iinc (k := 2) (v := i_2 + 1) (lv' := [(3, .int (i_2 + 1)), (5, .ref (x + (81 + 2 + m_1))), (4, .int (nI i_1)), (2, .int (nI n_2)), (1, .int (nI n_1)), (0, .ref (x + 80))]) B dX2_exportOld_80 rfl rfl (Nat.le_of_ble_eq_true rfl) rfl ?_
        refine z_iinc (k := 2) (v := nI (i_1 - 1)) (lv' := [(4, .int (nI (i_1 - 1))), (3, .int (i_2 + 1)), (5, .ref (x + (81 + 2 + m_1))), (2, .int (nI n_2)), (1, .int (nI n_1)), (0, .ref (x + 80))]) B dX2_exportOld_83 rfl (nI_m1 (show 1 ≤ i_1 by omega)) (Nat.le_of_ble_eq_true rfl) rfl ?_
        refine z_goto (tgt := 29) B dX2_exportOld_86 rfl ?_
        refine z_lv [0, 1, 3, 4, 5] rfl ?_
        exact ih1 (i_1 - 1, i_2 + 1) Φ3 (show (i_1 - 1) < i_1 by omega) ⟨hI4, (fun b9 h9 => ((hF4 b9 (fun j9 h8 h7 => (show False from h7).elim)).trans ((hF3 b9 (fun j9 h8 h7 => h9 j9 h8 (show 74 ≤ j9 ∧ j9 < 95 by have h6 : 74 ≤ j9 ∧ j9 < 95 := h7; omega))).trans rfl))), (show (i_1 - 1) ≤ 12 by omega), trivial⟩
      · obtain ⟨n_6, e_6, e_5, rfl⟩ := nI_ofge (c := n_2) (by omega) c_3
        refine z_aload_n B dX2_exportOld_72 rfl 5 rfl ?_
        refine z_iload_n B dX2_exportOld_73 rfl 2 rfl ?_
        refine z_callV (As := [.int i_2]) (rest := []) B (s_X2_exportAt G l Φ3 sz x (ca) i_2 hx hI4 ) (cwV 1 B.1.2.2.2.2 gX2_exportOld_X2_exportAt rfl rfl rfl (by decide +kernel) ⟨Nat.le_of_ble_eq_true rfl, Nat.le_of_ble_eq_true rfl⟩) h_14 rfl rfl rfl rfl (Nat.le_of_ble_eq_true rfl) dX2_exportOld_74 ⟨Nat.le_of_ble_eq_true rfl, Nat.le_of_ble_eq_true rfl⟩ (fun r_5 Φ5 sz5 st5 hp5 hs5 => ?_)
        obtain ⟨rfl, hq5, hI6, hF6⟩ := hp5
        subst sz5
        replace hs5 : st5 = [] := hs5
        subst st5
        replace hI6 : In G x (ca) Φ5 := hI6
        refine z_goto (tgt := 83) B dX2_exportOld_77 rfl ?_
        refine z_iinc (k := 1) (v := nI (i_1 - 1)) (lv' := [(4, .int (nI (i_1 - 1))), (5, .ref (x + (81 + 2 + m_1))), (3, .int i_2), (2, .int (nI n_2)), (1, .int (nI n_1)), (0, .ref (x + 80))]) B dX2_exportOld_83 rfl (nI_m1 (show 1 ≤ i_1 by omega)) (Nat.le_of_ble_eq_true rfl) rfl ?_
        refine z_goto (tgt := 29) B dX2_exportOld_86 rfl ?_
        refine z_lv [0, 2, 3, 4, 5] rfl ?_
        exact ih1 (i_1 - 1, i_2) Φ5 (show (i_1 - 1) < i_1 by omega) ⟨hI6, (fun b9 h9 => ((hF6 b9 (fun j9 h8 h7 => h9 j9 h8 (show 74 ≤ j9 ∧ j9 < 95 by have h6 : 74 ≤ j9 ∧ j9 < 95 := h7; omega))).trans ((hF4 b9 (fun j9 h8 h7 => (show False from h7).elim)).trans ((hF3 b9 (fun j9 h8 h7 => h9 j9 h8 (show 74 ≤ j9 ∧ j9 < 95 by have h6 : 74 ≤ j9 ∧ j9 < 95 := h7; omega))).trans rfl)))), (show (i_1 - 1) ≤ 12 by omega), trivial⟩

set_option maxHeartbeats 4000000 in
set_option maxRecDepth 100000 in
theorem s_X2_endInterval (G : EnvG) (l : Launch) (Φ : Hm) (sz x ca : Nat)  (hx : G.2.2.2 ≤ x) (hI : In G x ca Φ)  : Ct G l yX2_endInterval wsX2_endInterval ({ frames := 1, cells := 0, slots := 0, locals := 21 }) 0 0 [.ref (x + 80)] Φ sz (fun v Φ1 sz1 => (∃ r9 : Int32, v = some (.int r9)) ∧ sz1 = sz ∧ In G x (ca) Φ1 ∧ Fr x (fun j9 => j9 = 80) Φ Φ1) := by
  refine Ct.of (cc := cX2_endInterval) (maxL := 3) (ret := (some .int)) (by decide) rfl (Nat.le_of_ble_eq_true rfl) ?_
  intro p9 e9 s9 m9 w9 t9 k9 B
  show Z p9 l e9 _ s9 m9 _ w9 t9 k9 _ G 3 0 [(0, .ref (x + 80))] [] Φ sz 0 0
  refine z_aload_n B dX2_endInterval_0 rfl 0 rfl ?_
  obtain ⟨v_1, v_2, v_3, v_4, v_5, v_6, v_7, v_8, v_9, h_1, b_1⟩ := in16 (k := 80) hI rfl
  have h_2 : Φ (x + 80) = some (o_ 4 [.ref (x + 3), .ref (x + 74), .ref (x + 81), .ref (x + 95), .int v_1, .int v_2, .int v_3, .int v_4, .int v_5, .int v_6, .long v_7, .long v_8, .long v_9]) := h_1
  refine z_get (ref := "FlowExporter$Exporter") (C := RX2) (T := TX2) (N := 13) (ci := 4) (v := .int v_5) B (by decide +kernel) rfl 8 (by decide) (by decide +kernel) rfl h_2 rfl dX2_endInterval_1 ?_
  refine z_aload_n B dX2_endInterval_4 rfl 0 rfl ?_
  refine z_get (ref := "FlowExporter$Exporter") (C := RX2) (T := TX2) (N := 13) (ci := 4) (v := .int v_6) B (by decide +kernel) rfl 9 (by decide) (by decide +kernel) rfl h_2 rfl dX2_endInterval_5 ?_
  refine z_isub B dX2_endInterval_8 ?_
  refine z_fi (fun v_10 => ?_)
  refine z_istore_n (lv' := [(1, .int v_10), (0, .ref (x + 80))]) B dX2_endInterval_9 rfl (Nat.le_of_ble_eq_true rfl) rfl ?_
  refine z_aload_n B dX2_endInterval_10 rfl 1 rfl ?_
  refine z_aload_n B dX2_endInterval_11 rfl 1 rfl ?_
  refine z_get (ref := "FlowExporter$Exporter") (C := RX2) (T := TX2) (N := 13) (ci := 4) (v := .int v_5) B (by decide +kernel) rfl 8 (by decide) (by decide +kernel) rfl h_2 rfl dX2_endInterval_12 ?_
  refine z_put (ref := "FlowExporter$Exporter") (C := RX2) (T := TX2) (N := 13) (ci := 4) (v := .int v_5) B (by decide +kernel) tyX2 tyX2_ok nmX2 rfl 9 (by decide) (by decide +kernel) rfl (Or.inl rfl) h_2 (Nat.le_trans hx (Nat.le_add_right x 80)) rfl rfl (Nat.le_of_ble_eq_true rfl) dX2_endInterval_15 (fun Φ1 hΦ1 => ?_)
  have h_3 : Φ1 (x + 80) = some (o_ 4 [.ref (x + 3), .ref (x + 74), .ref (x + 81), .ref (x + 95), .int v_1, .int v_2, .int v_3, .int v_4, .int v_5, .int v_5, .long v_7, .long v_8, .long v_9]) := fset_at hΦ1
  have hI1 : In G x (ca) Φ1 := In.put (k := 80) hI hΦ1 (ok16 (k := 80) rfl ⟨v_1, v_2, v_3, v_4, v_5, v_5, v_7, v_8, v_9, rfl, b_1⟩)
  refine z_aload_n B dX2_endInterval_18 rfl 1 rfl ?_
  refine z_get (ref := "FlowExporter$Exporter") (C := RX2) (T := TX2) (N := 13) (ci := 4) (v := .ref (x + 3)) B (by decide +kernel) rfl 0 (by decide) (by decide +kernel) rfl h_3 rfl dX2_endInterval_19 ?_
  refine z_iconst (v := 1) B dX2_endInterval_22 rfl ?_
  obtain ⟨v_11, v_12, h_4⟩ := in3 (k := 3) hI1 rfl
  have h_5 : Φ1 (x + 3) = some (o_ 3 [.ref (x + 4), .ref (x + 5), .ref (x + 6), .ref (x + 7), .int v_11, .int v_12]) := h_4
  refine z_callV (As := [.int 1]) (rest := []) B (s_X1_get G l Φ1 sz x (ca) 3 1 hx hI1 rfl) (cwV 1 B.1.2.2.2.2 gX2_endInterval_X1_get rfl rfl rfl (by decide +kernel) ⟨Nat.le_of_ble_eq_true rfl, Nat.le_of_ble_eq_true rfl⟩) h_5 rfl rfl rfl rfl (Nat.le_of_ble_eq_true rfl) dX2_endInterval_23 ⟨Nat.le_of_ble_eq_true rfl, Nat.le_of_ble_eq_true rfl⟩ (fun r_1 Φ2 sz1 st1 hp1 hs1 => ?_)
  obtain ⟨⟨n_1, rfl, b_2⟩, hq1, hI2, hF1⟩ := hp1
  subst sz1
  replace hs1 : st1 = [.int (nI n_1)] := hs1
  subst st1
  replace hI2 : In G x (ca) Φ2 := hI2
  replace b_2 : n_1 < 2 ^ 31 := b_2
  refine z_istore_n (lv' := [(2, .int (nI n_1)), (1, .int v_10), (0, .ref (x + 80))]) B dX2_endInterval_26 rfl (Nat.le_of_ble_eq_true rfl) rfl ?_
  refine z_aload_n B dX2_endInterval_27 rfl 2 rfl ?_
  have h_6 : Φ2 (x + 80) = some (o_ 4 [.ref (x + 3), .ref (x + 74), .ref (x + 81), .ref (x + 95), .int v_1, .int v_2, .int v_3, .int v_4, .int v_5, .int v_5, .long v_7, .long v_8, .long v_9]) := ((hF1 (x + 80) (fun j9 h8 h7 => (show False from h7).elim)).trans h_3)
  refine z_get (ref := "FlowExporter$Exporter") (C := RX2) (T := TX2) (N := 13) (ci := 4) (v := .int v_4) B (by decide +kernel) rfl 7 (by decide) (by decide +kernel) rfl h_6 rfl dX2_endInterval_28 ?_
  refine z_if_eq (tgt := 56) B dX2_endInterval_31 rfl (fun c_1 => ?_) (fun c_1 => ?_)
  · refine z_aload_n B dX2_endInterval_56 rfl 2 rfl ?_
    refine z_get (ref := "FlowExporter$Exporter") (C := RX2) (T := TX2) (N := 13) (ci := 4) (v := .int v_4) B (by decide +kernel) rfl 7 (by decide) (by decide +kernel) rfl h_6 rfl dX2_endInterval_57 ?_
    refine z_if_eq (tgt := 85) B dX2_endInterval_60 rfl (fun c_2 => ?_) (fun c_2 => ?_)
    · refine z_aload_n B dX2_endInterval_85 rfl 2 rfl ?_
      refine z_get (ref := "FlowExporter$Exporter") (C := RX2) (T := TX2) (N := 13) (ci := 4) (v := .int v_2) B (by decide +kernel) rfl 5 (by decide) (by decide +kernel) rfl h_6 rfl dX2_endInterval_86 ?_
      exact z_ret_i B dX2_endInterval_89 ⟨⟨_, rfl⟩, rfl, hI2, (fun b9 h9 => ((hF1 b9 (fun j9 h8 h7 => (show False from h7).elim)).trans ((fset_fr hΦ1 (fun h8 => h9 (80) h8 (show 80 = 80 by omega))).trans rfl)))⟩
    · refine z_iconst (v := 2) B dX2_endInterval_63 rfl ?_
      refine z_iload_n B dX2_endInterval_64 rfl 1 rfl ?_
      refine z_imul B dX2_endInterval_65 ?_
      refine z_fi (fun v_13 => ?_)
      refine z_iload_n B dX2_endInterval_66 rfl 0 rfl ?_
      refine z_icmp_ge (tgt := 85) B dX2_endInterval_67 rfl (fun c_3 => ?_) (fun c_3 => ?_)
      · obtain ⟨n_2, e_2, e_1, rfl⟩ := nI_ofge (c := n_1) (by omega) (Int32.not_lt.mpr c_3)
        refine z_aload_n B dX2_endInterval_85 rfl 2 rfl ?_
        refine z_get (ref := "FlowExporter$Exporter") (C := RX2) (T := TX2) (N := 13) (ci := 4) (v := .int v_2) B (by decide +kernel) rfl 5 (by decide) (by decide +kernel) rfl h_6 rfl dX2_endInterval_86 ?_
        exact z_ret_i B dX2_endInterval_89 ⟨⟨_, rfl⟩, rfl, hI2, (fun b9 h9 => ((hF1 b9 (fun j9 h8 h7 => (show False from h7).elim)).trans ((fset_fr hΦ1 (fun h8 => h9 (80) h8 (show 80 = 80 by omega))).trans rfl)))⟩
      · refine z_aload_n B dX2_endInterval_70 rfl 2 rfl ?_
        refine z_get (ref := "FlowExporter$Exporter") (C := RX2) (T := TX2) (N := 13) (ci := 4) (v := .int v_2) B (by decide +kernel) rfl 5 (by decide) (by decide +kernel) rfl h_6 rfl dX2_endInterval_71 ?_
        refine z_iconst (v := 2) B dX2_endInterval_74 rfl ?_
        refine z_icmp_lt (tgt := 85) B dX2_endInterval_75 rfl (fun c_4 => ?_) (fun c_4 => ?_)
        · refine z_aload_n B dX2_endInterval_85 rfl 2 rfl ?_
          refine z_get (ref := "FlowExporter$Exporter") (C := RX2) (T := TX2) (N := 13) (ci := 4) (v := .int v_2) B (by decide +kernel) rfl 5 (by decide) (by decide +kernel) rfl h_6 rfl dX2_endInterval_86 ?_
          exact z_ret_i B dX2_endInterval_89 ⟨⟨_, rfl⟩, rfl, hI2, (fun b9 h9 => ((hF1 b9 (fun j9 h8 h7 => (show False from h7).elim)).trans ((fset_fr hΦ1 (fun h8 => h9 (80) h8 (show 80 = 80 by omega))).trans rfl)))⟩
        · obtain ⟨n_3, e_4, e_3, rfl⟩ := nI_ofge (c := 2) (by omega) c_4
          refine z_aload_n B dX2_endInterval_78 rfl 2 rfl ?_
          refine z_get (ref := "FlowExporter$Exporter") (C := RX2) (T := TX2) (N := 13) (ci := 4) (v := .int (nI n_3)) B (by decide +kernel) rfl 5 (by decide) (by decide +kernel) rfl h_6 rfl dX2_endInterval_79 ?_
          refine z_iconst (v := 2) B dX2_endInterval_82 rfl ?_
          refine z_idiv B dX2_endInterval_83 (by decide) ?_
          refine z_fi (fun v_14 => ?_)
          exact z_ret_i B dX2_endInterval_84 ⟨⟨_, rfl⟩, rfl, hI2, (fun b9 h9 => ((hF1 b9 (fun j9 h8 h7 => (show False from h7).elim)).trans ((fset_fr hΦ1 (fun h8 => h9 (80) h8 (show 80 = 80 by omega))).trans rfl)))⟩
  · refine z_iload_n B dX2_endInterval_34 rfl 1 rfl ?_
    refine z_iload_n B dX2_endInterval_35 rfl 0 rfl ?_
    refine z_icmp_le (tgt := 56) B dX2_endInterval_36 rfl (fun c_5 => ?_) (fun c_5 => ?_)
    · refine z_aload_n B dX2_endInterval_56 rfl 2 rfl ?_
      refine z_get (ref := "FlowExporter$Exporter") (C := RX2) (T := TX2) (N := 13) (ci := 4) (v := .int v_4) B (by decide +kernel) rfl 7 (by decide) (by decide +kernel) rfl h_6 rfl dX2_endInterval_57 ?_
      refine z_if_eq (tgt := 85) B dX2_endInterval_60 rfl (fun c_6 => ?_) (fun c_6 => ?_)
      · refine z_aload_n B dX2_endInterval_85 rfl 2 rfl ?_
        refine z_get (ref := "FlowExporter$Exporter") (C := RX2) (T := TX2) (N := 13) (ci := 4) (v := .int v_2) B (by decide +kernel) rfl 5 (by decide) (by decide +kernel) rfl h_6 rfl dX2_endInterval_86 ?_
        exact z_ret_i B dX2_endInterval_89 ⟨⟨_, rfl⟩, rfl, hI2, (fun b9 h9 => ((hF1 b9 (fun j9 h8 h7 => (show False from h7).elim)).trans ((fset_fr hΦ1 (fun h8 => h9 (80) h8 (show 80 = 80 by omega))).trans rfl)))⟩
      · refine z_iconst (v := 2) B dX2_endInterval_63 rfl ?_
        refine z_iload_n B dX2_endInterval_64 rfl 1 rfl ?_
        refine z_imul B dX2_endInterval_65 ?_
        refine z_fi (fun v_15 => ?_)
        refine z_iload_n B dX2_endInterval_66 rfl 0 rfl ?_
        refine z_icmp_ge (tgt := 85) B dX2_endInterval_67 rfl (fun c_7 => ?_) (fun c_7 => ?_)
        · obtain ⟨n_4, e_6, e_5, rfl⟩ := nI_ofge (c := n_1) (by omega) (Int32.not_lt.mpr c_7)
          refine z_aload_n B dX2_endInterval_85 rfl 2 rfl ?_
          refine z_get (ref := "FlowExporter$Exporter") (C := RX2) (T := TX2) (N := 13) (ci := 4) (v := .int v_2) B (by decide +kernel) rfl 5 (by decide) (by decide +kernel) rfl h_6 rfl dX2_endInterval_86 ?_
          exact z_ret_i B dX2_endInterval_89 ⟨⟨_, rfl⟩, rfl, hI2, (fun b9 h9 => ((hF1 b9 (fun j9 h8 h7 => (show False from h7).elim)).trans ((fset_fr hΦ1 (fun h8 => h9 (80) h8 (show 80 = 80 by omega))).trans rfl)))⟩
        · refine z_aload_n B dX2_endInterval_70 rfl 2 rfl ?_
          refine z_get (ref := "FlowExporter$Exporter") (C := RX2) (T := TX2) (N := 13) (ci := 4) (v := .int v_2) B (by decide +kernel) rfl 5 (by decide) (by decide +kernel) rfl h_6 rfl dX2_endInterval_71 ?_
          refine z_iconst (v := 2) B dX2_endInterval_74 rfl ?_
          refine z_icmp_lt (tgt := 85) B dX2_endInterval_75 rfl (fun c_8 => ?_) (fun c_8 => ?_)
          · refine z_aload_n B dX2_endInterval_85 rfl 2 rfl ?_
            refine z_get (ref := "FlowExporter$Exporter") (C := RX2) (T := TX2) (N := 13) (ci := 4) (v := .int v_2) B (by decide +kernel) rfl 5 (by decide) (by decide +kernel) rfl h_6 rfl dX2_endInterval_86 ?_
            exact z_ret_i B dX2_endInterval_89 ⟨⟨_, rfl⟩, rfl, hI2, (fun b9 h9 => ((hF1 b9 (fun j9 h8 h7 => (show False from h7).elim)).trans ((fset_fr hΦ1 (fun h8 => h9 (80) h8 (show 80 = 80 by omega))).trans rfl)))⟩
          · obtain ⟨n_5, e_8, e_7, rfl⟩ := nI_ofge (c := 2) (by omega) c_8
            refine z_aload_n B dX2_endInterval_78 rfl 2 rfl ?_
            refine z_get (ref := "FlowExporter$Exporter") (C := RX2) (T := TX2) (N := 13) (ci := 4) (v := .int (nI n_5)) B (by decide +kernel) rfl 5 (by decide) (by decide +kernel) rfl h_6 rfl dX2_endInterval_79 ?_
            refine z_iconst (v := 2) B dX2_endInterval_82 rfl ?_
            refine z_idiv B dX2_endInterval_83 (by decide) ?_
            refine z_fi (fun v_16 => ?_)
            exact z_ret_i B dX2_endInterval_84 ⟨⟨_, rfl⟩, rfl, hI2, (fun b9 h9 => ((hF1 b9 (fun j9 h8 h7 => (show False from h7).elim)).trans ((fset_fr hΦ1 (fun h8 => h9 (80) h8 (show 80 = 80 by omega))).trans rfl)))⟩
    · refine z_aload_n B dX2_endInterval_39 rfl 2 rfl ?_
      refine z_get (ref := "FlowExporter$Exporter") (C := RX2) (T := TX2) (N := 13) (ci := 4) (v := .int v_2) B (by decide +kernel) rfl 5 (by decide) (by decide +kernel) rfl h_6 rfl dX2_endInterval_40 ?_
      refine z_sipush (v := 512) B dX2_endInterval_43 rfl ?_
      refine z_icmp_gt (tgt := 56) B dX2_endInterval_46 rfl (fun c_9 => ?_) (fun c_9 => ?_)
      · refine z_aload_n B dX2_endInterval_56 rfl 2 rfl ?_
        refine z_get (ref := "FlowExporter$Exporter") (C := RX2) (T := TX2) (N := 13) (ci := 4) (v := .int v_4) B (by decide +kernel) rfl 7 (by decide) (by decide +kernel) rfl h_6 rfl dX2_endInterval_57 ?_
        refine z_if_eq (tgt := 85) B dX2_endInterval_60 rfl (fun c_10 => ?_) (fun c_10 => ?_)
        · refine z_aload_n B dX2_endInterval_85 rfl 2 rfl ?_
          refine z_get (ref := "FlowExporter$Exporter") (C := RX2) (T := TX2) (N := 13) (ci := 4) (v := .int v_2) B (by decide +kernel) rfl 5 (by decide) (by decide +kernel) rfl h_6 rfl dX2_endInterval_86 ?_
          exact z_ret_i B dX2_endInterval_89 ⟨⟨_, rfl⟩, rfl, hI2, (fun b9 h9 => ((hF1 b9 (fun j9 h8 h7 => (show False from h7).elim)).trans ((fset_fr hΦ1 (fun h8 => h9 (80) h8 (show 80 = 80 by omega))).trans rfl)))⟩
        · refine z_iconst (v := 2) B dX2_endInterval_63 rfl ?_
          refine z_iload_n B dX2_endInterval_64 rfl 1 rfl ?_
          refine z_imul B dX2_endInterval_65 ?_
          refine z_fi (fun v_17 => ?_)
          refine z_iload_n B dX2_endInterval_66 rfl 0 rfl ?_
          refine z_icmp_ge (tgt := 85) B dX2_endInterval_67 rfl (fun c_11 => ?_) (fun c_11 => ?_)
          · obtain ⟨n_6, e_10, e_9, rfl⟩ := nI_ofge (c := n_1) (by omega) (Int32.not_lt.mpr c_11)
            refine z_aload_n B dX2_endInterval_85 rfl 2 rfl ?_
            refine z_get (ref := "FlowExporter$Exporter") (C := RX2) (T := TX2) (N := 13) (ci := 4) (v := .int v_2) B (by decide +kernel) rfl 5 (by decide) (by decide +kernel) rfl h_6 rfl dX2_endInterval_86 ?_
            exact z_ret_i B dX2_endInterval_89 ⟨⟨_, rfl⟩, rfl, hI2, (fun b9 h9 => ((hF1 b9 (fun j9 h8 h7 => (show False from h7).elim)).trans ((fset_fr hΦ1 (fun h8 => h9 (80) h8 (show 80 = 80 by omega))).trans rfl)))⟩
          · refine z_aload_n B dX2_endInterval_70 rfl 2 rfl ?_
            refine z_get (ref := "FlowExporter$Exporter") (C := RX2) (T := TX2) (N := 13) (ci := 4) (v := .int v_2) B (by decide +kernel) rfl 5 (by decide) (by decide +kernel) rfl h_6 rfl dX2_endInterval_71 ?_
            refine z_iconst (v := 2) B dX2_endInterval_74 rfl ?_
            refine z_icmp_lt (tgt := 85) B dX2_endInterval_75 rfl (fun c_12 => ?_) (fun c_12 => ?_)
            · refine z_aload_n B dX2_endInterval_85 rfl 2 rfl ?_
              refine z_get (ref := "FlowExporter$Exporter") (C := RX2) (T := TX2) (N := 13) (ci := 4) (v := .int v_2) B (by decide +kernel) rfl 5 (by decide) (by decide +kernel) rfl h_6 rfl dX2_endInterval_86 ?_
              exact z_ret_i B dX2_endInterval_89 ⟨⟨_, rfl⟩, rfl, hI2, (fun b9 h9 => ((hF1 b9 (fun j9 h8 h7 => (show False from h7).elim)).trans ((fset_fr hΦ1 (fun h8 => h9 (80) h8 (show 80 = 80 by omega))).trans rfl)))⟩
            · obtain ⟨n_7, e_12, e_11, rfl⟩ := nI_ofge (c := 2) (by omega) c_12
              refine z_aload_n B dX2_endInterval_78 rfl 2 rfl ?_
              refine z_get (ref := "FlowExporter$Exporter") (C := RX2) (T := TX2) (N := 13) (ci := 4) (v := .int (nI n_7)) B (by decide +kernel) rfl 5 (by decide) (by decide +kernel) rfl h_6 rfl dX2_endInterval_79 ?_
              refine z_iconst (v := 2) B dX2_endInterval_82 rfl ?_
              refine z_idiv B dX2_endInterval_83 (by decide) ?_
              refine z_fi (fun v_18 => ?_)
              exact z_ret_i B dX2_endInterval_84 ⟨⟨_, rfl⟩, rfl, hI2, (fun b9 h9 => ((hF1 b9 (fun j9 h8 h7 => (show False from h7).elim)).trans ((fset_fr hΦ1 (fun h8 => h9 (80) h8 (show 80 = 80 by omega))).trans rfl)))⟩
      · refine z_iconst (v := 2) B dX2_endInterval_49 rfl ?_
        refine z_aload_n B dX2_endInterval_50 rfl 2 rfl ?_
        refine z_get (ref := "FlowExporter$Exporter") (C := RX2) (T := TX2) (N := 13) (ci := 4) (v := .int v_2) B (by decide +kernel) rfl 5 (by decide) (by decide +kernel) rfl h_6 rfl dX2_endInterval_51 ?_
        refine z_imul B dX2_endInterval_54 ?_
        refine z_fi (fun v_19 => ?_)
        exact z_ret_i B dX2_endInterval_55 ⟨⟨_, rfl⟩, rfl, hI2, (fun b9 h9 => ((hF1 b9 (fun j9 h8 h7 => (show False from h7).elim)).trans ((fset_fr hΦ1 (fun h8 => h9 (80) h8 (show 80 = 80 by omega))).trans rfl)))⟩

set_option maxHeartbeats 4000000 in
set_option maxRecDepth 100000 in
theorem s_X2_exportAllAndSend (G : EnvG) (l : Launch) (Φ : Hm) (sz x ca : Nat)  (hx : G.2.2.2 ≤ x) (hI : In G x ca Φ)  : Ct G l yX2_exportAllAndSend wsX2_exportAllAndSend ({ frames := 5, cells := 0, slots := 0, locals := 125 }) 0 0 [.ref (x + 80)] Φ sz (fun v Φ1 sz1 => (∃ n9 : Nat, v = some (.int (nI n9)) ∧ n9 ≤ 12) ∧ sz1 = sz ∧ In G x (ca) Φ1 ∧ Fr x (fun j9 => 46 ≤ j9 ∧ j9 < 95) Φ Φ1) := by
  refine Ct.of (cc := cX2_exportAllAndSend) (maxL := 2) (ret := (some .int)) (by decide) rfl (Nat.le_of_ble_eq_true rfl) ?_
  intro p9 e9 s9 m9 w9 t9 k9 B
  show Z p9 l e9 _ s9 m9 _ w9 t9 k9 _ G 2 0 [(0, .ref (x + 80))] [] Φ sz 0 0
  refine z_aload_n B dX2_exportAllAndSend_0 rfl 0 rfl ?_
  obtain ⟨v_1, v_2, v_3, v_4, v_5, v_6, v_7, v_8, v_9, h_1, b_1⟩ := in16 (k := 80) hI rfl
  have h_2 : Φ (x + 80) = some (o_ 4 [.ref (x + 3), .ref (x + 74), .ref (x + 81), .ref (x + 95), .int v_1, .int v_2, .int v_3, .int v_4, .int v_5, .int v_6, .long v_7, .long v_8, .long v_9]) := h_1
  refine z_get (ref := "FlowExporter$Exporter") (C := RX2) (T := TX2) (N := 13) (ci := 4) (v := .ref (x + 81)) B (by decide +kernel) rfl 2 (by decide) (by decide +kernel) rfl h_2 rfl dX2_exportAllAndSend_1 ?_
  obtain ⟨n_1, h_3, b_2⟩ := in17 (k := 81) hI rfl
  replace b_2 : n_1 ≤ 12 := b_2
  have h_4 : Φ (x + 81) = some (o_ 6 [.ref (x + 82), .int (nI n_1)]) := h_3
  refine z_get (ref := "FlowExporter$FlowTable") (C := RX4) (T := TX4) (N := 2) (ci := 6) (v := .int (nI n_1)) B (by decide +kernel) rfl 1 (by decide) (by decide +kernel) rfl h_4 rfl dX2_exportAllAndSend_4 ?_
  refine z_istore_n (lv' := [(1, .int (nI n_1)), (0, .ref (x + 80))]) B dX2_exportAllAndSend_7 rfl (Nat.le_of_ble_eq_true rfl) rfl ?_
  refine z_aload_n B dX2_exportAllAndSend_8 rfl 1 rfl ?_
  refine z_callV (As := []) (rest := []) B (s_X2_exportAll G l Φ sz x (ca)  hx hI ) (cwV 0 B.1.2.2.2.2 gX2_exportAllAndSend_X2_exportAll rfl rfl rfl (by decide +kernel) ⟨Nat.le_of_ble_eq_true rfl, Nat.le_of_ble_eq_true rfl⟩) h_2 rfl rfl rfl rfl (Nat.le_of_ble_eq_true rfl) dX2_exportAllAndSend_9 ⟨Nat.le_of_ble_eq_true rfl, Nat.le_of_ble_eq_true rfl⟩ (fun r_1 Φ1 sz1 st1 hp1 hs1 => ?_)
  obtain ⟨rfl, hq1, hI1, hF1⟩ := hp1
  subst sz1
  replace hs1 : st1 = [] := hs1
  subst st1
  replace hI1 : In G x (ca) Φ1 := hI1
  refine z_aload_n B dX2_exportAllAndSend_12 rfl 1 rfl ?_
  obtain ⟨v_10, v_11, v_12, v_13, v_14, v_15, v_16, v_17, v_18, h_5, b_3⟩ := in16 (k := 80) hI1 rfl
  have h_6 : Φ1 (x + 80) = some (o_ 4 [.ref (x + 3), .ref (x + 74), .ref (x + 81), .ref (x + 95), .int v_10, .int v_11, .int v_12, .int v_13, .int v_14, .int v_15, .long v_16, .long v_17, .long v_18]) := h_5
  refine z_get (ref := "FlowExporter$Exporter") (C := RX2) (T := TX2) (N := 13) (ci := 4) (v := .ref (x + 74)) B (by decide +kernel) rfl 1 (by decide) (by decide +kernel) rfl h_6 rfl dX2_exportAllAndSend_13 ?_
  refine z_aload_n B dX2_exportAllAndSend_16 rfl 1 rfl ?_
  refine z_get (ref := "FlowExporter$Exporter") (C := RX2) (T := TX2) (N := 13) (ci := 4) (v := .int v_10) B (by decide +kernel) rfl 4 (by decide) (by decide +kernel) rfl h_6 rfl dX2_exportAllAndSend_17 ?_
  obtain ⟨n_2, v_19, v_20, v_21, h_7, b_4⟩ := in13 (k := 74) hI1 rfl
  have h_8 : Φ1 (x + 74) = some (o_ 10 [.ref (x + 3), .ref (x + 46), .ref (x + 75), .ref (x + 77), .int (nI n_2), .ref (x + 78), .ref (x + 79), .int v_19, .long v_20, .int v_21]) := h_7
  refine z_callV (As := [.int v_10]) (rest := []) B (s_X8_sendPending G l Φ1 sz x (ca) v_10 hx hI1 ) (cwV 1 B.1.2.2.2.2 gX2_exportAllAndSend_X8_sendPending rfl rfl rfl (by decide +kernel) ⟨Nat.le_of_ble_eq_true rfl, Nat.le_of_ble_eq_true rfl⟩) h_8 rfl rfl rfl rfl (Nat.le_of_ble_eq_true rfl) dX2_exportAllAndSend_20 ⟨Nat.le_of_ble_eq_true rfl, Nat.le_of_ble_eq_true rfl⟩ (fun r_2 Φ2 sz2 st2 hp2 hs2 => ?_)
  obtain ⟨rfl, hq2, hI2, hF2⟩ := hp2
  subst sz2
  replace hs2 : st2 = [] := hs2
  subst st2
  replace hI2 : In G x (ca) Φ2 := hI2
  refine z_iload_n B dX2_exportAllAndSend_23 rfl 0 rfl ?_
  exact z_ret_i B dX2_exportAllAndSend_24 ⟨⟨n_1, rfl, (show n_1 ≤ 12 by omega)⟩, rfl, hI2, (fun b9 h9 => ((hF2 b9 (fun j9 h8 h7 => h9 j9 h8 (show 46 ≤ j9 ∧ j9 < 95 by have h6 : 46 ≤ j9 ∧ j9 < 80 := h7; omega))).trans ((hF1 b9 (fun j9 h8 h7 => h9 j9 h8 (show 46 ≤ j9 ∧ j9 < 95 by have h6 : 74 ≤ j9 ∧ j9 < 95 := h7; omega))).trans rfl)))⟩

set_option maxHeartbeats 4000000 in
set_option maxRecDepth 100000 in
theorem s_X2_tick (G : EnvG) (l : Launch) (Φ : Hm) (sz x ca : Nat)  (hx : G.2.2.2 ≤ x) (hI : In G x ca Φ)  : Ct G l yX2_tick wsX2_tick ({ frames := 5, cells := 0, slots := 0, locals := 125 }) 0 0 [.ref (x + 80)] Φ sz (fun v Φ1 sz1 => (v = none) ∧ sz1 = sz ∧ In G x (ca) Φ1 ∧ Fr x (fun j9 => 46 ≤ j9 ∧ j9 < 95) Φ Φ1) := by
  refine Ct.of (cc := cX2_tick) (maxL := 2) (ret := none) (by decide) rfl (Nat.le_of_ble_eq_true rfl) ?_
  intro p9 e9 s9 m9 w9 t9 k9 B
  show Z p9 l e9 _ s9 m9 _ w9 t9 k9 _ G 2 0 [(0, .ref (x + 80))] [] Φ sz 0 0
  refine z_aload_n B dX2_tick_0 rfl 0 rfl ?_
  refine z_dup B dX2_tick_1 rfl ?_
  obtain ⟨v_1, v_2, v_3, v_4, v_5, v_6, v_7, v_8, v_9, h_1, b_1⟩ := in16 (k := 80) hI rfl
  have h_2 : Φ (x + 80) = some (o_ 4 [.ref (x + 3), .ref (x + 74), .ref (x + 81), .ref (x + 95), .int v_1, .int v_2, .int v_3, .int v_4, .int v_5, .int v_6, .long v_7, .long v_8, .long v_9]) := h_1
  refine z_get (ref := "FlowExporter$Exporter") (C := RX2) (T := TX2) (N := 13) (ci := 4) (v := .int v_1) B (by decide +kernel) rfl 4 (by decide) (by decide +kernel) rfl h_2 rfl dX2_tick_2 ?_
  refine z_iconst (v := 1) B dX2_tick_5 rfl ?_
  refine z_iadd B dX2_tick_6 ?_
  refine z_fi (fun v_10 => ?_)
  refine z_put (ref := "FlowExporter$Exporter") (C := RX2) (T := TX2) (N := 13) (ci := 4) (v := .int v_10) B (by decide +kernel) tyX2 tyX2_ok nmX2 rfl 4 (by decide) (by decide +kernel) rfl (Or.inl rfl) h_2 (Nat.le_trans hx (Nat.le_add_right x 80)) rfl rfl (Nat.le_of_ble_eq_true rfl) dX2_tick_7 (fun Φ1 hΦ1 => ?_)
  have h_3 : Φ1 (x + 80) = some (o_ 4 [.ref (x + 3), .ref (x + 74), .ref (x + 81), .ref (x + 95), .int v_10, .int v_2, .int v_3, .int v_4, .int v_5, .int v_6, .long v_7, .long v_8, .long v_9]) := fset_at hΦ1
  have hI1 : In G x (ca) Φ1 := In.put (k := 80) hI hΦ1 (ok16 (k := 80) rfl ⟨v_10, v_2, v_3, v_4, v_5, v_6, v_7, v_8, v_9, rfl, b_1⟩)
  refine z_aload_n B dX2_tick_10 rfl 0 rfl ?_
  refine z_callV (As := []) (rest := []) B (s_X2_exportOld G l Φ1 sz x (ca)  hx hI1 ) (cwV 0 B.1.2.2.2.2 gX2_tick_X2_exportOld rfl rfl rfl (by decide +kernel) ⟨Nat.le_of_ble_eq_true rfl, Nat.le_of_ble_eq_true rfl⟩) h_3 rfl rfl rfl rfl (Nat.le_of_ble_eq_true rfl) dX2_tick_11 ⟨Nat.le_of_ble_eq_true rfl, Nat.le_of_ble_eq_true rfl⟩ (fun r_1 Φ2 sz1 st1 hp1 hs1 => ?_)
  obtain ⟨rfl, hq1, hI2, hF1⟩ := hp1
  subst sz1
  replace hs1 : st1 = [] := hs1
  subst st1
  replace hI2 : In G x (ca) Φ2 := hI2
  refine z_aload_n B dX2_tick_14 rfl 0 rfl ?_
  obtain ⟨v_11, v_12, v_13, v_14, v_15, v_16, v_17, v_18, v_19, h_4, b_2⟩ := in16 (k := 80) hI2 rfl
  have h_5 : Φ2 (x + 80) = some (o_ 4 [.ref (x + 3), .ref (x + 74), .ref (x + 81), .ref (x + 95), .int v_11, .int v_12, .int v_13, .int v_14, .int v_15, .int v_16, .long v_17, .long v_18, .long v_19]) := h_4
  refine z_get (ref := "FlowExporter$Exporter") (C := RX2) (T := TX2) (N := 13) (ci := 4) (v := .int v_11) B (by decide +kernel) rfl 4 (by decide) (by decide +kernel) rfl h_5 rfl dX2_tick_15 ?_
  refine z_bipush (v := 100) B dX2_tick_18 rfl ?_
  refine z_irem B dX2_tick_20 (by decide) ?_
  refine z_fi (fun v_20 => ?_)
  refine z_if_ne (tgt := 31) B dX2_tick_21 rfl (fun c_1 => ?_) (fun c_1 => ?_)
  · refine z_aload_n B dX2_tick_31 rfl 0 rfl ?_
    refine z_get (ref := "FlowExporter$Exporter") (C := RX2) (T := TX2) (N := 13) (ci := 4) (v := .int v_12) B (by decide +kernel) rfl 5 (by decide) (by decide +kernel) rfl h_5 rfl dX2_tick_32 ?_
    refine z_istore_n (lv' := [(1, .int v_12), (0, .ref (x + 80))]) B dX2_tick_35 rfl (Nat.le_of_ble_eq_true rfl) rfl ?_
    refine z_iload_n B dX2_tick_36 rfl 0 rfl ?_
    refine z_aload_n B dX2_tick_37 rfl 1 rfl ?_
    refine z_get (ref := "FlowExporter$Exporter") (C := RX2) (T := TX2) (N := 13) (ci := 4) (v := .int v_12) B (by decide +kernel) rfl 5 (by decide) (by decide +kernel) rfl h_5 rfl dX2_tick_38 ?_
    refine z_icmp_eq (tgt := 53) B dX2_tick_41 rfl (fun c_2 => ?_) (fun c_2 => ?_)
    · refine z_aload_n B dX2_tick_53 rfl 1 rfl ?_
      refine z_get (ref := "FlowExporter$Exporter") (C := RX2) (T := TX2) (N := 13) (ci := 4) (v := .ref (x + 74)) B (by decide +kernel) rfl 1 (by decide) (by decide +kernel) rfl h_5 rfl dX2_tick_54 ?_
      refine z_aload_n B dX2_tick_57 rfl 1 rfl ?_
      refine z_get (ref := "FlowExporter$Exporter") (C := RX2) (T := TX2) (N := 13) (ci := 4) (v := .int v_11) B (by decide +kernel) rfl 4 (by decide) (by decide +kernel) rfl h_5 rfl dX2_tick_58 ?_
      obtain ⟨n_1, v_21, v_22, v_23, h_6, b_3⟩ := in13 (k := 74) hI2 rfl
      have h_7 : Φ2 (x + 74) = some (o_ 10 [.ref (x + 3), .ref (x + 46), .ref (x + 75), .ref (x + 77), .int (nI n_1), .ref (x + 78), .ref (x + 79), .int v_21, .long v_22, .int v_23]) := h_6
      refine z_callV (As := [.int v_11]) (rest := []) B (s_X8_sendPending G l Φ2 sz x (ca) v_11 hx hI2 ) (cwV 1 B.1.2.2.2.2 gX2_tick_X8_sendPending rfl rfl rfl (by decide +kernel) ⟨Nat.le_of_ble_eq_true rfl, Nat.le_of_ble_eq_true rfl⟩) h_7 rfl rfl rfl rfl (Nat.le_of_ble_eq_true rfl) dX2_tick_61 ⟨Nat.le_of_ble_eq_true rfl, Nat.le_of_ble_eq_true rfl⟩ (fun r_2 Φ3 sz2 st2 hp2 hs2 => ?_)
      obtain ⟨rfl, hq2, hI3, hF2⟩ := hp2
      subst sz2
      replace hs2 : st2 = [] := hs2
      subst st2
      replace hI3 : In G x (ca) Φ3 := hI3
      exact z_ret_v B dX2_tick_64 ⟨rfl, rfl, hI3, (fun b9 h9 => ((hF2 b9 (fun j9 h8 h7 => h9 j9 h8 (show 46 ≤ j9 ∧ j9 < 95 by have h6 : 46 ≤ j9 ∧ j9 < 80 := h7; omega))).trans ((hF1 b9 (fun j9 h8 h7 => h9 j9 h8 (show 46 ≤ j9 ∧ j9 < 95 by have h6 : 74 ≤ j9 ∧ j9 < 95 := h7; omega))).trans ((fset_fr hΦ1 (fun h8 => h9 (80) h8 (show 46 ≤ 80 ∧ 80 < 95 by omega))).trans rfl))))⟩
    · refine z_aload_n B dX2_tick_44 rfl 1 rfl ?_
      refine z_callV (As := []) (rest := []) B (s_X2_exportAll G l Φ2 sz x (ca)  hx hI2 ) (cwV 0 B.1.2.2.2.2 gX2_tick_X2_exportAll rfl rfl rfl (by decide +kernel) ⟨Nat.le_of_ble_eq_true rfl, Nat.le_of_ble_eq_true rfl⟩) h_5 rfl rfl rfl rfl (Nat.le_of_ble_eq_true rfl) dX2_tick_45 ⟨Nat.le_of_ble_eq_true rfl, Nat.le_of_ble_eq_true rfl⟩ (fun r_3 Φ4 sz3 st3 hp3 hs3 => ?_)
      obtain ⟨rfl, hq3, hI4, hF3⟩ := hp3
      subst sz3
      replace hs3 : st3 = [] := hs3
      subst st3
      replace hI4 : In G x (ca) Φ4 := hI4
      refine z_aload_n B dX2_tick_48 rfl 1 rfl ?_
      refine z_iload_n B dX2_tick_49 rfl 0 rfl ?_
      obtain ⟨v_24, v_25, v_26, v_27, v_28, v_29, v_30, v_31, v_32, h_8, b_4⟩ := in16 (k := 80) hI4 rfl
      have h_9 : Φ4 (x + 80) = some (o_ 4 [.ref (x + 3), .ref (x + 74), .ref (x + 81), .ref (x + 95), .int v_24, .int v_25, .int v_26, .int v_27, .int v_28, .int v_29, .long v_30, .long v_31, .long v_32]) := h_8
      refine z_put (ref := "FlowExporter$Exporter") (C := RX2) (T := TX2) (N := 13) (ci := 4) (v := .int v_12) B (by decide +kernel) tyX2 tyX2_ok nmX2 rfl 5 (by decide) (by decide +kernel) rfl (Or.inl rfl) h_9 (Nat.le_trans hx (Nat.le_add_right x 80)) rfl rfl (Nat.le_of_ble_eq_true rfl) dX2_tick_50 (fun Φ5 hΦ2 => ?_)
      have h_10 : Φ5 (x + 80) = some (o_ 4 [.ref (x + 3), .ref (x + 74), .ref (x + 81), .ref (x + 95), .int v_24, .int v_12, .int v_26, .int v_27, .int v_28, .int v_29, .long v_30, .long v_31, .long v_32]) := fset_at hΦ2
      have hI5 : In G x (ca) Φ5 := In.put (k := 80) hI4 hΦ2 (ok16 (k := 80) rfl ⟨v_24, v_12, v_26, v_27, v_28, v_29, v_30, v_31, v_32, rfl, b_4⟩)
      refine z_aload_n B dX2_tick_53 rfl 1 rfl ?_
      refine z_get (ref := "FlowExporter$Exporter") (C := RX2) (T := TX2) (N := 13) (ci := 4) (v := .ref (x + 74)) B (by decide +kernel) rfl 1 (by decide) (by decide +kernel) rfl h_10 rfl dX2_tick_54 ?_
      refine z_aload_n B dX2_tick_57 rfl 1 rfl ?_
      refine z_get (ref := "FlowExporter$Exporter") (C := RX2) (T := TX2) (N := 13) (ci := 4) (v := .int v_24) B (by decide +kernel) rfl 4 (by decide) (by decide +kernel) rfl h_10 rfl dX2_tick_58 ?_
      obtain ⟨n_2, v_33, v_34, v_35, h_11, b_5⟩ := in13 (k := 74) hI5 rfl
      have h_12 : Φ5 (x + 74) = some (o_ 10 [.ref (x + 3), .ref (x + 46), .ref (x + 75), .ref (x + 77), .int (nI n_2), .ref (x + 78), .ref (x + 79), .int v_33, .long v_34, .int v_35]) := h_11
      refine z_callV (As := [.int v_24]) (rest := []) B (s_X8_sendPending G l Φ5 sz x (ca) v_24 hx hI5 ) (cwV 1 B.1.2.2.2.2 gX2_tick_X8_sendPending rfl rfl rfl (by decide +kernel) ⟨Nat.le_of_ble_eq_true rfl, Nat.le_of_ble_eq_true rfl⟩) h_12 rfl rfl rfl rfl (Nat.le_of_ble_eq_true rfl) dX2_tick_61 ⟨Nat.le_of_ble_eq_true rfl, Nat.le_of_ble_eq_true rfl⟩ (fun r_4 Φ6 sz4 st4 hp4 hs4 => ?_)
      obtain ⟨rfl, hq4, hI6, hF4⟩ := hp4
      subst sz4
      replace hs4 : st4 = [] := hs4
      subst st4
      replace hI6 : In G x (ca) Φ6 := hI6
      exact z_ret_v B dX2_tick_64 ⟨rfl, rfl, hI6, (fun b9 h9 => ((hF4 b9 (fun j9 h8 h7 => h9 j9 h8 (show 46 ≤ j9 ∧ j9 < 95 by have h6 : 46 ≤ j9 ∧ j9 < 80 := h7; omega))).trans ((fset_fr hΦ2 (fun h8 => h9 (80) h8 (show 46 ≤ 80 ∧ 80 < 95 by omega))).trans ((hF3 b9 (fun j9 h8 h7 => h9 j9 h8 (show 46 ≤ j9 ∧ j9 < 95 by have h6 : 74 ≤ j9 ∧ j9 < 95 := h7; omega))).trans ((hF1 b9 (fun j9 h8 h7 => h9 j9 h8 (show 46 ≤ j9 ∧ j9 < 95 by have h6 : 74 ≤ j9 ∧ j9 < 95 := h7; omega))).trans ((fset_fr hΦ1 (fun h8 => h9 (80) h8 (show 46 ≤ 80 ∧ 80 < 95 by omega))).trans rfl))))))⟩
  · refine z_aload_n B dX2_tick_24 rfl 0 rfl ?_
    refine z_callV (As := []) (rest := []) B (s_X2_endInterval G l Φ2 sz x (ca)  hx hI2 ) (cwV 0 B.1.2.2.2.2 gX2_tick_X2_endInterval rfl rfl rfl (by decide +kernel) ⟨Nat.le_of_ble_eq_true rfl, Nat.le_of_ble_eq_true rfl⟩) h_5 rfl rfl rfl rfl (Nat.le_of_ble_eq_true rfl) dX2_tick_25 ⟨Nat.le_of_ble_eq_true rfl, Nat.le_of_ble_eq_true rfl⟩ (fun r_5 Φ7 sz5 st5 hp5 hs5 => ?_)
    obtain ⟨⟨v_36, rfl⟩, hq5, hI7, hF5⟩ := hp5
    subst sz5
    replace hs5 : st5 = [.int v_36] := hs5
    subst st5
    replace hI7 : In G x (ca) Φ7 := hI7
    refine z_goto (tgt := 35) B dX2_tick_28 rfl ?_
    refine z_istore_n (lv' := [(1, .int v_36), (0, .ref (x + 80))]) B dX2_tick_35 rfl (Nat.le_of_ble_eq_true rfl) rfl ?_
    refine z_iload_n B dX2_tick_36 rfl 0 rfl ?_
    refine z_aload_n B dX2_tick_37 rfl 1 rfl ?_
    obtain ⟨v_37, v_38, v_39, v_40, v_41, v_42, v_43, v_44, v_45, h_13, b_6⟩ := in16 (k := 80) hI7 rfl
    have h_14 : Φ7 (x + 80) = some (o_ 4 [.ref (x + 3), .ref (x + 74), .ref (x + 81), .ref (x + 95), .int v_37, .int v_38, .int v_39, .int v_40, .int v_41, .int v_42, .long v_43, .long v_44, .long v_45]) := h_13
    refine z_get (ref := "FlowExporter$Exporter") (C := RX2) (T := TX2) (N := 13) (ci := 4) (v := .int v_38) B (by decide +kernel) rfl 5 (by decide) (by decide +kernel) rfl h_14 rfl dX2_tick_38 ?_
    refine z_icmp_eq (tgt := 53) B dX2_tick_41 rfl (fun c_3 => ?_) (fun c_3 => ?_)
    · refine z_aload_n B dX2_tick_53 rfl 1 rfl ?_
      refine z_get (ref := "FlowExporter$Exporter") (C := RX2) (T := TX2) (N := 13) (ci := 4) (v := .ref (x + 74)) B (by decide +kernel) rfl 1 (by decide) (by decide +kernel) rfl h_14 rfl dX2_tick_54 ?_
      refine z_aload_n B dX2_tick_57 rfl 1 rfl ?_
      refine z_get (ref := "FlowExporter$Exporter") (C := RX2) (T := TX2) (N := 13) (ci := 4) (v := .int v_37) B (by decide +kernel) rfl 4 (by decide) (by decide +kernel) rfl h_14 rfl dX2_tick_58 ?_
      obtain ⟨n_3, v_46, v_47, v_48, h_15, b_7⟩ := in13 (k := 74) hI7 rfl
      have h_16 : Φ7 (x + 74) = some (o_ 10 [.ref (x + 3), .ref (x + 46), .ref (x + 75), .ref (x + 77), .int (nI n_3), .ref (x + 78), .ref (x + 79), .int v_46, .long v_47, .int v_48]) := h_15
      refine z_callV (As := [.int v_37]) (rest := []) B (s_X8_sendPending G l Φ7 sz x (ca) v_37 hx hI7 ) (cwV 1 B.1.2.2.2.2 gX2_tick_X8_sendPending rfl rfl rfl (by decide +kernel) ⟨Nat.le_of_ble_eq_true rfl, Nat.le_of_ble_eq_true rfl⟩) h_16 rfl rfl rfl rfl (Nat.le_of_ble_eq_true rfl) dX2_tick_61 ⟨Nat.le_of_ble_eq_true rfl, Nat.le_of_ble_eq_true rfl⟩ (fun r_6 Φ8 sz6 st6 hp6 hs6 => ?_)
      obtain ⟨rfl, hq6, hI8, hF6⟩ := hp6
      subst sz6
      replace hs6 : st6 = [] := hs6
      subst st6
      replace hI8 : In G x (ca) Φ8 := hI8
      exact z_ret_v B dX2_tick_64 ⟨rfl, rfl, hI8, (fun b9 h9 => ((hF6 b9 (fun j9 h8 h7 => h9 j9 h8 (show 46 ≤ j9 ∧ j9 < 95 by have h6 : 46 ≤ j9 ∧ j9 < 80 := h7; omega))).trans ((hF5 b9 (fun j9 h8 h7 => h9 j9 h8 (show 46 ≤ j9 ∧ j9 < 95 by have h6 : j9 = 80 := h7; omega))).trans ((hF1 b9 (fun j9 h8 h7 => h9 j9 h8 (show 46 ≤ j9 ∧ j9 < 95 by have h6 : 74 ≤ j9 ∧ j9 < 95 := h7; omega))).trans ((fset_fr hΦ1 (fun h8 => h9 (80) h8 (show 46 ≤ 80 ∧ 80 < 95 by omega))).trans rfl)))))⟩
    · refine z_aload_n B dX2_tick_44 rfl 1 rfl ?_
      refine z_callV (As := []) (rest := []) B (s_X2_exportAll G l Φ7 sz x (ca)  hx hI7 ) (cwV 0 B.1.2.2.2.2 gX2_tick_X2_exportAll rfl rfl rfl (by decide +kernel) ⟨Nat.le_of_ble_eq_true rfl, Nat.le_of_ble_eq_true rfl⟩) h_14 rfl rfl rfl rfl (Nat.le_of_ble_eq_true rfl) dX2_tick_45 ⟨Nat.le_of_ble_eq_true rfl, Nat.le_of_ble_eq_true rfl⟩ (fun r_7 Φ9 sz7 st7 hp7 hs7 => ?_)
      obtain ⟨rfl, hq7, hI9, hF7⟩ := hp7
      subst sz7
      replace hs7 : st7 = [] := hs7
      subst st7
      replace hI9 : In G x (ca) Φ9 := hI9
      refine z_aload_n B dX2_tick_48 rfl 1 rfl ?_
      refine z_iload_n B dX2_tick_49 rfl 0 rfl ?_
      obtain ⟨v_49, v_50, v_51, v_52, v_53, v_54, v_55, v_56, v_57, h_17, b_8⟩ := in16 (k := 80) hI9 rfl
      have h_18 : Φ9 (x + 80) = some (o_ 4 [.ref (x + 3), .ref (x + 74), .ref (x + 81), .ref (x + 95), .int v_49, .int v_50, .int v_51, .int v_52, .int v_53, .int v_54, .long v_55, .long v_56, .long v_57]) := h_17
      refine z_put (ref := "FlowExporter$Exporter") (C := RX2) (T := TX2) (N := 13) (ci := 4) (v := .int v_36) B (by decide +kernel) tyX2 tyX2_ok nmX2 rfl 5 (by decide) (by decide +kernel) rfl (Or.inl rfl) h_18 (Nat.le_trans hx (Nat.le_add_right x 80)) rfl rfl (Nat.le_of_ble_eq_true rfl) dX2_tick_50 (fun Φ10 hΦ3 => ?_)
      have h_19 : Φ10 (x + 80) = some (o_ 4 [.ref (x + 3), .ref (x + 74), .ref (x + 81), .ref (x + 95), .int v_49, .int v_36, .int v_51, .int v_52, .int v_53, .int v_54, .long v_55, .long v_56, .long v_57]) := fset_at hΦ3
      have hI10 : In G x (ca) Φ10 := In.put (k := 80) hI9 hΦ3 (ok16 (k := 80) rfl ⟨v_49, v_36, v_51, v_52, v_53, v_54, v_55, v_56, v_57, rfl, b_8⟩)
      refine z_aload_n B dX2_tick_53 rfl 1 rfl ?_
      refine z_get (ref := "FlowExporter$Exporter") (C := RX2) (T := TX2) (N := 13) (ci := 4) (v := .ref (x + 74)) B (by decide +kernel) rfl 1 (by decide) (by decide +kernel) rfl h_19 rfl dX2_tick_54 ?_
      refine z_aload_n B dX2_tick_57 rfl 1 rfl ?_
      refine z_get (ref := "FlowExporter$Exporter") (C := RX2) (T := TX2) (N := 13) (ci := 4) (v := .int v_49) B (by decide +kernel) rfl 4 (by decide) (by decide +kernel) rfl h_19 rfl dX2_tick_58 ?_
      obtain ⟨n_4, v_58, v_59, v_60, h_20, b_9⟩ := in13 (k := 74) hI10 rfl
      have h_21 : Φ10 (x + 74) = some (o_ 10 [.ref (x + 3), .ref (x + 46), .ref (x + 75), .ref (x + 77), .int (nI n_4), .ref (x + 78), .ref (x + 79), .int v_58, .long v_59, .int v_60]) := h_20
      refine z_callV (As := [.int v_49]) (rest := []) B (s_X8_sendPending G l Φ10 sz x (ca) v_49 hx hI10 ) (cwV 1 B.1.2.2.2.2 gX2_tick_X8_sendPending rfl rfl rfl (by decide +kernel) ⟨Nat.le_of_ble_eq_true rfl, Nat.le_of_ble_eq_true rfl⟩) h_21 rfl rfl rfl rfl (Nat.le_of_ble_eq_true rfl) dX2_tick_61 ⟨Nat.le_of_ble_eq_true rfl, Nat.le_of_ble_eq_true rfl⟩ (fun r_8 Φ11 sz8 st8 hp8 hs8 => ?_)
      obtain ⟨rfl, hq8, hI11, hF8⟩ := hp8
      subst sz8
      replace hs8 : st8 = [] := hs8
      subst st8
      replace hI11 : In G x (ca) Φ11 := hI11
      exact z_ret_v B dX2_tick_64 ⟨rfl, rfl, hI11, (fun b9 h9 => ((hF8 b9 (fun j9 h8 h7 => h9 j9 h8 (show 46 ≤ j9 ∧ j9 < 95 by have h6 : 46 ≤ j9 ∧ j9 < 80 := h7; omega))).trans ((fset_fr hΦ3 (fun h8 => h9 (80) h8 (show 46 ≤ 80 ∧ 80 < 95 by omega))).trans ((hF7 b9 (fun j9 h8 h7 => h9 j9 h8 (show 46 ≤ j9 ∧ j9 < 95 by have h6 : 74 ≤ j9 ∧ j9 < 95 := h7; omega))).trans ((hF5 b9 (fun j9 h8 h7 => h9 j9 h8 (show 46 ≤ j9 ∧ j9 < 95 by have h6 : j9 = 80 := h7; omega))).trans ((hF1 b9 (fun j9 h8 h7 => h9 j9 h8 (show 46 ≤ j9 ∧ j9 < 95 by have h6 : 74 ≤ j9 ∧ j9 < 95 := h7; omega))).trans ((fset_fr hΦ1 (fun h8 => h9 (80) h8 (show 46 ≤ 80 ∧ 80 < 95 by omega))).trans rfl)))))))⟩

set_option maxHeartbeats 4000000 in
set_option maxRecDepth 100000 in
theorem s_X2_takePackets (G : EnvG) (l : Launch) (Φ : Hm) (sz x ca : Nat) (a : Int64) (b : Int32) (n : Nat) (hx : G.2.2.2 ≤ x) (hI : In G x ca Φ) (hn : n ≤ 200) : Ct G l yX2_takePackets wsX2_takePackets ({ frames := 5, cells := 0, slots := 0, locals := 125 }) 0 0 [.ref (x + 80), .long a, .int b, .int (nI n)] Φ sz (fun v Φ1 sz1 => (∃ r9 : Int32, v = some (.int r9)) ∧ sz1 = sz ∧ In G x (ca) Φ1 ∧ Fr x (fun j9 => 46 ≤ j9 ∧ j9 < 121) Φ Φ1) := by
  refine Ct.of (cc := cX2_takePackets) (maxL := 7) (ret := (some .int)) (by decide) rfl (Nat.le_of_ble_eq_true rfl) ?_
  intro p9 e9 s9 m9 w9 t9 k9 B
  show Z p9 l e9 _ s9 m9 _ w9 t9 k9 _ G 7 0 [(0, .ref (x + 80)), (1, .long a), (3, .int b), (4, .int (nI n))] [] Φ sz 0 0
  refine z_aload_n B dX2_takePackets_0 rfl 0 rfl ?_
  refine z_dup B dX2_takePackets_1 rfl ?_
  obtain ⟨v_1, v_2, v_3, v_4, v_5, v_6, v_7, v_8, v_9, h_1, b_1⟩ := in16 (k := 80) hI rfl
  have h_2 : Φ (x + 80) = some (o_ 4 [.ref (x + 3), .ref (x + 74), .ref (x + 81), .ref (x + 95), .int v_1, .int v_2, .int v_3, .int v_4, .int v_5, .int v_6, .long v_7, .long v_8, .long v_9]) := h_1
  refine z_get (ref := "FlowExporter$Exporter") (C := RX2) (T := TX2) (N := 13) (ci := 4) (v := .long v_7) B (by decide +kernel) rfl 10 (by decide) (by decide +kernel) rfl h_2 rfl dX2_takePackets_2 ?_
  refine z_iload B dX2_takePackets_5 3 rfl ?_
  refine z_i2l (v := (nI n).toInt64) B dX2_takePackets_7 rfl ?_
  refine z_fl (fun v_10 => ?_)
  refine z_ladd B dX2_takePackets_8 ?_
  refine z_fl (fun v_11 => ?_)
  refine z_put (ref := "FlowExporter$Exporter") (C := RX2) (T := TX2) (N := 13) (ci := 4) (v := .long v_11) B (by decide +kernel) tyX2 tyX2_ok nmX2 rfl 10 (by decide) (by decide +kernel) rfl (Or.inl rfl) h_2 (Nat.le_trans hx (Nat.le_add_right x 80)) rfl rfl (Nat.le_of_ble_eq_true rfl) dX2_takePackets_9 (fun Φ1 hΦ1 => ?_)
  have h_3 : Φ1 (x + 80) = some (o_ 4 [.ref (x + 3), .ref (x + 74), .ref (x + 81), .ref (x + 95), .int v_1, .int v_2, .int v_3, .int v_4, .int v_5, .int v_6, .long v_11, .long v_8, .long v_9]) := fset_at hΦ1
  have hI1 : In G x (ca) Φ1 := In.put (k := 80) hI hΦ1 (ok16 (k := 80) rfl ⟨v_1, v_2, v_3, v_4, v_5, v_6, v_11, v_8, v_9, rfl, b_1⟩)
  refine z_aload_n B dX2_takePackets_12 rfl 0 rfl ?_
  refine z_lload_n B dX2_takePackets_13 rfl 1 rfl ?_
  refine z_iload_n B dX2_takePackets_14 rfl 2 rfl ?_
  refine z_iload B dX2_takePackets_15 3 rfl ?_
  refine z_callV (As := [.long a, .int b, .int (nI n)]) (rest := []) B (s_X2_remember G l Φ1 sz x (ca) a b (nI n) hx hI1 ) (cwV 3 B.1.2.2.2.2 gX2_takePackets_X2_remember rfl rfl rfl (by decide +kernel) ⟨Nat.le_of_ble_eq_true rfl, Nat.le_of_ble_eq_true rfl⟩) h_3 rfl rfl rfl rfl (Nat.le_of_ble_eq_true rfl) dX2_takePackets_17 ⟨Nat.le_of_ble_eq_true rfl, Nat.le_of_ble_eq_true rfl⟩ (fun r_1 Φ2 sz1 st1 hp1 hs1 => ?_)
  obtain ⟨rfl, hq1, hI2, hF1⟩ := hp1
  subst sz1
  replace hs1 : st1 = [] := hs1
  subst st1
  replace hI2 : In G x (ca) Φ2 := hI2
  refine z_iconst (v := 0) B dX2_takePackets_20 rfl ?_
  refine z_istore (lv' := [(5, .int 0), (0, .ref (x + 80)), (1, .long a), (3, .int b), (4, .int (nI n))]) B dX2_takePackets_21 (Nat.le_of_ble_eq_true rfl) rfl ?_
  refine z_iconst (v := 0) B dX2_takePackets_23 rfl ?_
  refine z_istore (lv' := [(6, .int 0), (5, .int 0), (0, .ref (x + 80)), (1, .long a), (3, .int b), (4, .int (nI n))]) B dX2_takePackets_24 (Nat.le_of_ble_eq_true rfl) rfl ?_
  refine z_lv [0, 1, 2, 3, 4, 5] rfl ?_
  refine z_loop (α := Nat × Int32) (fun (a9 : Nat × Int32) Φi => In G x (ca) Φi ∧ Fr x (fun j9 => 46 ≤ j9 ∧ j9 < 121) Φ2 Φi ∧ (a9.1 ≤ n) ∧ True) (fun a9 => [(6, .int (nI (a9.1))), (5, .int a9.2), (0, .ref (x + 80)), (1, .long a), (3, .int b), (4, .int (nI n))]) (fun a9 => n - a9.1) ?_ (0, 0) ⟨hI2, fun _ _ => rfl, (show 0 ≤ n by omega), trivial⟩
  rintro ⟨i_1, i_2⟩ Φl1 ⟨hI3, hF2, b_2, -⟩ ih1
  replace hI3 : In G x (ca) Φl1 := hI3
  replace b_2 : i_1 ≤ n := b_2
  show Z p9 l e9 _ s9 m9 _ w9 t9 k9 _ G 7 26 [(6, .int (nI i_1)), (5, .int i_2), (0, .ref (x + 80)), (1, .long a), (3, .int b), (4, .int (nI n))] [] Φl1 _ _ _
  refine z_iload B dX2_takePackets_26 0 rfl ?_
  refine z_iload B dX2_takePackets_28 5 rfl ?_
  refine z_icmp_ge (tgt := 55) B dX2_takePackets_30 rfl (fun c_1 => ?_) (fun c_1 => ?_)
  · have e_1 : n ≤ i_1 := (nI_leI (a := n) (b := i_1) (by omega) (by omega)).mp c_1
    refine z_aload_n B dX2_takePackets_55 rfl 2 rfl ?_
    refine z_dup B dX2_takePackets_56 rfl ?_
    obtain ⟨v_12, v_13, v_14, v_15, v_16, v_17, v_18, v_19, v_20, h_4, b_3⟩ := in16 (k := 80) hI3 rfl
    have h_5 : Φl1 (x + 80) = some (o_ 4 [.ref (x + 3), .ref (x + 74), .ref (x + 81), .ref (x + 95), .int v_12, .int v_13, .int v_14, .int v_15, .int v_16, .int v_17, .long v_18, .long v_19, .long v_20]) := h_4
    refine z_get (ref := "FlowExporter$Exporter") (C := RX2) (T := TX2) (N := 13) (ci := 4) (v := .long v_19) B (by decide +kernel) rfl 11 (by decide) (by decide +kernel) rfl h_5 rfl dX2_takePackets_57 ?_
    refine z_iload B dX2_takePackets_60 1 rfl ?_
    refine z_i2l (v := i_2.toInt64) B dX2_takePackets_62 rfl ?_
    refine z_fl (fun v_21 => ?_)
    refine z_ladd B dX2_takePackets_63 ?_
    refine z_fl (fun v_22 => ?_)
    refine z_put (ref := "FlowExporter$Exporter") (C := RX2) (T := TX2) (N := 13) (ci := 4) (v := .long v_22) B (by decide +kernel) tyX2 tyX2_ok nmX2 rfl 11 (by decide) (by decide +kernel) rfl (Or.inl rfl) h_5 (Nat.le_trans hx (Nat.le_add_right x 80)) rfl rfl (Nat.le_of_ble_eq_true rfl) dX2_takePackets_64 (fun Φ3 hΦ2 => ?_)
    have h_6 : Φ3 (x + 80) = some (o_ 4 [.ref (x + 3), .ref (x + 74), .ref (x + 81), .ref (x + 95), .int v_12, .int v_13, .int v_14, .int v_15, .int v_16, .int v_17, .long v_18, .long v_22, .long v_20]) := fset_at hΦ2
    have hI4 : In G x (ca) Φ3 := In.put (k := 80) hI3 hΦ2 (ok16 (k := 80) rfl ⟨v_12, v_13, v_14, v_15, v_16, v_17, v_18, v_22, v_20, rfl, b_3⟩)
    refine z_aload_n B dX2_takePackets_67 rfl 2 rfl ?_
    refine z_get (ref := "FlowExporter$Exporter") (C := RX2) (T := TX2) (N := 13) (ci := 4) (v := .ref (x + 74)) B (by decide +kernel) rfl 1 (by decide) (by decide +kernel) rfl h_6 rfl dX2_takePackets_68 ?_
    refine z_aload_n B dX2_takePackets_71 rfl 2 rfl ?_
    refine z_get (ref := "FlowExporter$Exporter") (C := RX2) (T := TX2) (N := 13) (ci := 4) (v := .int v_12) B (by decide +kernel) rfl 4 (by decide) (by decide +kernel) rfl h_6 rfl dX2_takePackets_72 ?_
    obtain ⟨n_1, v_23, v_24, v_25, h_7, b_4⟩ := in13 (k := 74) hI4 rfl
    have h_8 : Φ3 (x + 74) = some (o_ 10 [.ref (x + 3), .ref (x + 46), .ref (x + 75), .ref (x + 77), .int (nI n_1), .ref (x + 78), .ref (x + 79), .int v_23, .long v_24, .int v_25]) := h_7
    refine z_callV (As := [.int v_12]) (rest := []) B (s_X8_sendPending G l Φ3 sz x (ca) v_12 hx hI4 ) (cwV 1 B.1.2.2.2.2 gX2_takePackets_X8_sendPending rfl rfl rfl (by decide +kernel) ⟨Nat.le_of_ble_eq_true rfl, Nat.le_of_ble_eq_true rfl⟩) h_8 rfl rfl rfl rfl (Nat.le_of_ble_eq_true rfl) dX2_takePackets_75 ⟨Nat.le_of_ble_eq_true rfl, Nat.le_of_ble_eq_true rfl⟩ (fun r_2 Φ4 sz2 st2 hp2 hs2 => ?_)
    obtain ⟨rfl, hq2, hI5, hF3⟩ := hp2
    subst sz2
    replace hs2 : st2 = [] := hs2
    subst st2
    replace hI5 : In G x (ca) Φ4 := hI5
    refine z_iload B dX2_takePackets_78 1 rfl ?_
    exact z_ret_i B dX2_takePackets_80 ⟨⟨_, rfl⟩, rfl, hI5, (fun b9 h9 => ((hF3 b9 (fun j9 h8 h7 => h9 j9 h8 (show 46 ≤ j9 ∧ j9 < 121 by have h6 : 46 ≤ j9 ∧ j9 < 80 := h7; omega))).trans ((fset_fr hΦ2 (fun h8 => h9 (80) h8 (show 46 ≤ 80 ∧ 80 < 121 by omega))).trans ((hF2 b9 (fun j9 h8 h7 => h9 j9 h8 (show 46 ≤ j9 ∧ j9 < 121 by have h6 : 46 ≤ j9 ∧ j9 < 121 := h7; omega))).trans ((hF1 b9 (fun j9 h8 h7 => h9 j9 h8 (show 46 ≤ j9 ∧ j9 < 121 by have h6 : 95 ≤ j9 ∧ j9 < 121 := h7; omega))).trans ((fset_fr hΦ1 (fun h8 => h9 (80) h8 (show 46 ≤ 80 ∧ 80 < 121 by omega))).trans rfl))))))⟩
  · have e_2 : ¬ (n ≤ i_1) := fun h9 => c_1 ((nI_leI (a := n) (b := i_1) (by omega) (by omega)).mpr h9)
    refine z_aload_n B dX2_takePackets_33 rfl 2 rfl ?_
    obtain ⟨v_26, v_27, v_28, v_29, v_30, v_31, v_32, v_33, v_34, h_9, b_5⟩ := in16 (k := 80) hI3 rfl
    have h_10 : Φl1 (x + 80) = some (o_ 4 [.ref (x + 3), .ref (x + 74), .ref (x + 81), .ref (x + 95), .int v_26, .int v_27, .int v_28, .int v_29, .int v_30, .int v_31, .long v_32, .long v_33, .long v_34]) := h_9
    refine z_callV (As := []) (rest := []) B (s_X2_isSampled G l Φl1 sz x (ca)  hx hI3 ) (cwV 0 B.1.2.2.2.2 gX2_takePackets_X2_isSampled rfl rfl rfl (by decide +kernel) ⟨Nat.le_of_ble_eq_true rfl, Nat.le_of_ble_eq_true rfl⟩) h_10 rfl rfl rfl rfl (Nat.le_of_ble_eq_true rfl) dX2_takePackets_34 ⟨Nat.le_of_ble_eq_true rfl, Nat.le_of_ble_eq_true rfl⟩ (fun r_3 Φ5 sz3 st3 hp3 hs3 => ?_)
    obtain ⟨⟨v_35, rfl, b_6⟩, hq3, hI6, hF4⟩ := hp3
    subst sz3
    replace hs3 : st3 = [.int v_35] := hs3
    subst st3
    replace hI6 : In G x (ca) Φ5 := hI6
    refine z_if_eq (tgt := 49) B dX2_takePackets_37 rfl (fun c_2 => ?_) (fun c_2 => ?_)
    · refine z_iinc (k := 0) (v := nI (i_1 + 1)) (lv' := [(6, .int (nI (i_1 + 1))), (5, .int i_2), (0, .ref (x + 80)), (1, .long a), (3, .int b), (4, .int (nI n))]) B dX2_takePackets_49 rfl (nI_add i_1 1) (Nat.le_of_ble_eq_true rfl) rfl ?_
      refine z_goto (tgt := 26) B dX2_takePackets_52 rfl ?_
      refine z_lv [0, 1, 2, 3, 4, 5] rfl ?_
      exact ih1 (i_1 + 1, i_2) Φ5 (show n - (i_1 + 1) < n - i_1 by omega) ⟨hI6, (fun b9 h9 => ((hF4 b9 (fun j9 h8 h7 => h9 j9 h8 (show 46 ≤ j9 ∧ j9 < 121 by have h6 : j9 = 80 := h7; omega))).trans ((hF2 b9 (fun j9 h8 h7 => h9 j9 h8 (show 46 ≤ j9 ∧ j9 < 121 by have h6 : 46 ≤ j9 ∧ j9 < 121 := h7; omega))).trans rfl))), (show (i_1 + 1) ≤ n by omega), trivial⟩
    · refine z_aload_n B dX2_takePackets_40 rfl 2 rfl ?_
      refine z_lload_n B dX2_takePackets_41 rfl 3 rfl ?_
      refine z_iload_n B dX2_takePackets_42 rfl 4 rfl ?_
      obtain ⟨v_36, v_37, v_38, v_39, v_40, v_41, v_42, v_43, v_44, h_11, b_7⟩ := in16 (k := 80) hI6 rfl
      have h_12 : Φ5 (x + 80) = some (o_ 4 [.ref (x + 3), .ref (x + 74), .ref (x + 81), .ref (x + 95), .int v_36, .int v_37, .int v_38, .int v_39, .int v_40, .int v_41, .long v_42, .long v_43, .long v_44]) := h_11
      refine z_callV (As := [.long a, .int b]) (rest := []) B (s_X2_addToFlow G l Φ5 sz x (ca) a b hx hI6 ) (cwV 2 B.1.2.2.2.2 gX2_takePackets_X2_addToFlow rfl rfl rfl (by decide +kernel) ⟨Nat.le_of_ble_eq_true rfl, Nat.le_of_ble_eq_true rfl⟩) h_12 rfl rfl rfl rfl (Nat.le_of_ble_eq_true rfl) dX2_takePackets_43 ⟨Nat.le_of_ble_eq_true rfl, Nat.le_of_ble_eq_true rfl⟩ (fun r_4 Φ6 sz4 st4 hp4 hs4 => ?_)
      obtain ⟨rfl, hq4, hI7, hF5⟩ := hp4
      subst sz4
      replace hs4 : st4 = [] := hs4
      subst st4
      replace hI7 : In G x (ca) Φ6 := hI7
      refine z_iinc (k := 1) (v := i_2 + 1) (lv' := [(5, .int (i_2 + 1)), (6, .int (nI i_1)), (0, .ref (x + 80)), (1, .long a), (3, .int b), (4, .int (nI n))]) B dX2_takePackets_46 rfl rfl (Nat.le_of_ble_eq_true rfl) rfl ?_
      refine z_iinc (k := 1) (v := nI (i_1 + 1)) (lv' := [(6, .int (nI (i_1 + 1))), (5, .int (i_2 + 1)), (0, .ref (x + 80)), (1, .long a), (3, .int b), (4, .int (nI n))]) B dX2_takePackets_49 rfl (nI_add i_1 1) (Nat.le_of_ble_eq_true rfl) rfl ?_
      refine z_goto (tgt := 26) B dX2_takePackets_52 rfl ?_
      refine z_lv [0, 1, 2, 3, 4, 5] rfl ?_
      exact ih1 (i_1 + 1, i_2 + 1) Φ6 (show n - (i_1 + 1) < n - i_1 by omega) ⟨hI7, (fun b9 h9 => ((hF5 b9 (fun j9 h8 h7 => h9 j9 h8 (show 46 ≤ j9 ∧ j9 < 121 by have h6 : 74 ≤ j9 ∧ j9 < 95 := h7; omega))).trans ((hF4 b9 (fun j9 h8 h7 => h9 j9 h8 (show 46 ≤ j9 ∧ j9 < 121 by have h6 : j9 = 80 := h7; omega))).trans ((hF2 b9 (fun j9 h8 h7 => h9 j9 h8 (show 46 ≤ j9 ∧ j9 < 121 by have h6 : 46 ≤ j9 ∧ j9 < 121 := h7; omega))).trans rfl)))), (show (i_1 + 1) ≤ n by omega), trivial⟩

set_option maxHeartbeats 4000000 in
set_option maxRecDepth 100000 in
theorem s_X0_hasStarted (G : EnvG) (l : Launch) (Φ : Hm) (sz x ca : Nat)  (hx : G.2.2.2 ≤ x) (hI : In G x ca Φ) (hca : ca < 1000000) : Ct G l yX0_hasStarted wsX0_hasStarted ({ frames := 0, cells := 0, slots := 0, locals := 0 }) 0 0 [.ref (x + 132)] Φ sz (fun v Φ1 sz1 => (∃ r9 : Int32, v = some (.int r9) ∧ (r9 = 0 ∨ r9 = 1)) ∧ sz1 = sz ∧ In G x (ca) Φ1 ∧ Fr x (fun j9 => False) Φ Φ1) := by
  refine Ct.of (cc := cX0_hasStarted) (maxL := 1) (ret := (some .boolean)) (by decide) rfl (Nat.le_of_ble_eq_true rfl) ?_
  intro p9 e9 s9 m9 w9 t9 k9 B
  show Z p9 l e9 _ s9 m9 _ w9 t9 k9 _ G 1 0 [(0, .ref (x + 132))] [] Φ sz 0 0
  refine z_aload_n B dX0_hasStarted_0 rfl 0 rfl ?_
  obtain ⟨n_1, v_1, v_2, h_1, b_1⟩ := in25 (k := 132) hI rfl
  have h_2 : Φ (x + 132) = some (o_ 2 [.ref (x + 3), .ref (x + 121), .ref (x + 133), .ref (x + 134), .ref (x + 135), .ref (x + 137), .ref (x + 138), .ref (x + 139), .ref (x + 140), .int (nI n_1), .int v_1, .int v_2]) := h_1
  refine z_get (ref := "FlowExporter$Collector") (C := RX0) (T := TX0) (N := 12) (ci := 2) (v := .int (nI n_1)) B (by decide +kernel) rfl 9 (by decide) (by decide +kernel) rfl h_2 rfl dX0_hasStarted_1 ?_
  refine z_if_le (tgt := 11) B dX0_hasStarted_4 rfl (fun c_1 => ?_) (fun c_1 => ?_)
  · have e_1 : n_1 ≤ 0 := (nI_leI (a := n_1) (b := 0) (by omega) (by omega)).mp c_1
    refine z_iconst (v := 0) B dX0_hasStarted_11 rfl ?_
    exact z_ret_z B dX0_hasStarted_12 (by decide) ⟨⟨_, rfl, by decide⟩, rfl, hI, (fun b9 h9 => rfl)⟩
  · have e_2 : ¬ (n_1 ≤ 0) := fun h9 => c_1 ((nI_leI (a := n_1) (b := 0) (by omega) (by omega)).mpr h9)
    refine z_iconst (v := 1) B dX0_hasStarted_7 rfl ?_
    refine z_goto (tgt := 12) B dX0_hasStarted_8 rfl ?_
    exact z_ret_z B dX0_hasStarted_12 (by decide) ⟨⟨_, rfl, by decide⟩, rfl, hI, (fun b9 h9 => rfl)⟩

set_option maxHeartbeats 4000000 in
set_option maxRecDepth 100000 in
theorem s_X0_restart (G : EnvG) (l : Launch) (Φ : Hm) (sz x ca : Nat)  (hx : G.2.2.2 ≤ x) (hI : In G x ca Φ)  : Ct G l yX0_restart wsX0_restart ({ frames := 1, cells := 0, slots := 0, locals := 20 }) 0 0 [.ref (x + 132)] Φ sz (fun v Φ1 sz1 => (∃ r9 : Int32, v = some (.int r9)) ∧ sz1 = sz ∧ In G x (ca) Φ1 ∧ Fr x (fun j9 => 132 ≤ j9 ∧ j9 < 149) Φ Φ1) := by
  refine Ct.of (cc := cX0_restart) (maxL := 3) (ret := (some .int)) (by decide) rfl (Nat.le_of_ble_eq_true rfl) ?_
  intro p9 e9 s9 m9 w9 t9 k9 B
  show Z p9 l e9 _ s9 m9 _ w9 t9 k9 _ G 3 0 [(0, .ref (x + 132))] [] Φ sz 0 0
  refine z_iconst (v := 0) B dX0_restart_0 rfl ?_
  refine z_istore_n (lv' := [(1, .int 0), (0, .ref (x + 132))]) B dX0_restart_1 rfl (Nat.le_of_ble_eq_true rfl) rfl ?_
  refine z_iconst (v := 0) B dX0_restart_2 rfl ?_
  refine z_istore_n (lv' := [(2, .int 0), (1, .int 0), (0, .ref (x + 132))]) B dX0_restart_3 rfl (Nat.le_of_ble_eq_true rfl) rfl ?_
  refine z_lv [0, 1, 2] rfl ?_
  refine z_loop (α := Nat × Int32) (fun (a9 : Nat × Int32) Φi => In G x (ca) Φi ∧ Fr x (fun j9 => 132 ≤ j9 ∧ j9 < 149) Φ Φi ∧ (a9.1 ≤ 4) ∧ True) (fun a9 => [(2, .int (nI (a9.1))), (1, .int a9.2), (0, .ref (x + 132))]) (fun a9 => 4 - a9.1) ?_ (0, 0) ⟨hI, fun _ _ => rfl, (show 0 ≤ 4 by omega), trivial⟩
  rintro ⟨i_1, i_2⟩ Φl1 ⟨hI1, hF1, b_1, -⟩ ih1
  replace hI1 : In G x (ca) Φl1 := hI1
  replace b_1 : i_1 ≤ 4 := b_1
  show Z p9 l e9 _ s9 m9 _ w9 t9 k9 _ G 3 4 [(2, .int (nI i_1)), (1, .int i_2), (0, .ref (x + 132))] [] Φl1 _ _ _
  refine z_iload_n B dX0_restart_4 rfl 0 rfl ?_
  refine z_iconst (v := 4) B dX0_restart_5 rfl ?_
  refine z_icmp_ge (tgt := 39) B dX0_restart_6 rfl (fun c_1 => ?_) (fun c_1 => ?_)
  · have e_1 : 4 ≤ i_1 := (nI_leI (a := 4) (b := i_1) (by omega) (by omega)).mp c_1
    refine z_aload_n B dX0_restart_39 rfl 2 rfl ?_
    refine z_iconst (v := 0) B dX0_restart_40 rfl ?_
    obtain ⟨n_1, v_1, v_2, h_1, b_2⟩ := in25 (k := 132) hI1 rfl
    have h_2 : Φl1 (x + 132) = some (o_ 2 [.ref (x + 3), .ref (x + 121), .ref (x + 133), .ref (x + 134), .ref (x + 135), .ref (x + 137), .ref (x + 138), .ref (x + 139), .ref (x + 140), .int (nI n_1), .int v_1, .int v_2]) := h_1
    refine z_put (ref := "FlowExporter$Collector") (C := RX0) (T := TX0) (N := 12) (ci := 2) (v := .int 0) B (by decide +kernel) tyX0 tyX0_ok nmX0 rfl 9 (by decide) (by decide +kernel) rfl (Or.inl rfl) h_2 (Nat.le_trans hx (Nat.le_add_right x 132)) rfl rfl (Nat.le_of_ble_eq_true rfl) dX0_restart_41 (fun Φ1 hΦ1 => ?_)
    have h_3 : Φ1 (x + 132) = some (o_ 2 [.ref (x + 3), .ref (x + 121), .ref (x + 133), .ref (x + 134), .ref (x + 135), .ref (x + 137), .ref (x + 138), .ref (x + 139), .ref (x + 140), .int 0, .int v_1, .int v_2]) := fset_at hΦ1
    have hI2 : In G x (ca) Φ1 := In.put (k := 132) hI1 hΦ1 (ok25 (k := 132) rfl ⟨0, v_1, v_2, rfl, (show 0 ≤ ca by omega)⟩)
    refine z_iload_n B dX0_restart_44 rfl 1 rfl ?_
    exact z_ret_i B dX0_restart_45 ⟨⟨_, rfl⟩, rfl, hI2, (fun b9 h9 => ((fset_fr hΦ1 (fun h8 => h9 (132) h8 (show 132 ≤ 132 ∧ 132 < 149 by omega))).trans ((hF1 b9 (fun j9 h8 h7 => h9 j9 h8 (show 132 ≤ j9 ∧ j9 < 149 by have h6 : 132 ≤ j9 ∧ j9 < 149 := h7; omega))).trans rfl)))⟩
  · have e_2 : ¬ (4 ≤ i_1) := fun h9 => c_1 ((nI_leI (a := 4) (b := i_1) (by omega) (by omega)).mpr h9)
    refine z_aload_n B dX0_restart_9 rfl 2 rfl ?_
    obtain ⟨n_2, v_3, v_4, h_4, b_3⟩ := in25 (k := 132) hI1 rfl
    have h_5 : Φl1 (x + 132) = some (o_ 2 [.ref (x + 3), .ref (x + 121), .ref (x + 133), .ref (x + 134), .ref (x + 135), .ref (x + 137), .ref (x + 138), .ref (x + 139), .ref (x + 140), .int (nI n_2), .int v_3, .int v_4]) := h_4
    refine z_get (ref := "FlowExporter$Collector") (C := RX0) (T := TX0) (N := 12) (ci := 2) (v := .ref (x + 133)) B (by decide +kernel) rfl 2 (by decide) (by decide +kernel) rfl h_5 rfl dX0_restart_10 ?_
    refine z_iload_n B dX0_restart_13 rfl 0 rfl ?_
    obtain ⟨f_1, h_6, r_1⟩ := in26 (k := 133) hI1 rfl
    have h_7 : Φl1 (x + 133) = some (aq_ G 4 4 f_1) := h_6
    refine z_aald (b := x + (133 + 8 + 2 * i_1)) B rfl h_7 (vp_in_nI (by omega) (by omega)) ((congrArg f_1 (nI_clamp (by omega))).trans (r_1 i_1 (by omega))) dX0_restart_14 ?_
    obtain ⟨n_3, v_5, v_6, h_8, b_4⟩ := in8 (k := 133 + 8 + 2 * i_1) hI1 (kd_k (by omega))
    have h_9 : Φl1 (x + (133 + 8 + 2 * i_1)) = some (o_ 12 [.ref (x + (133 + 8 + 2 * i_1 + 1)), .int (nI n_3), .int v_5, .int v_6]) := h_8
    refine z_get (ref := "FlowExporter$Template") (C := RX10) (T := TX10) (N := 4) (ci := 12) (v := .int (nI n_3)) B (by decide +kernel) rfl 1 (by decide) (by decide +kernel) rfl h_9 rfl dX0_restart_15 ?_
    refine z_if_le (tgt := 24) B dX0_restart_18 rfl (fun c_2 => ?_) (fun c_2 => ?_)
    · have e_3 : n_3 ≤ 0 := (nI_leI (a := n_3) (b := 0) (by omega) (by omega)).mp c_2
      refine z_aload_n B dX0_restart_24 rfl 2 rfl ?_
      refine z_get (ref := "FlowExporter$Collector") (C := RX0) (T := TX0) (N := 12) (ci := 2) (v := .ref (x + 133)) B (by decide +kernel) rfl 2 (by decide) (by decide +kernel) rfl h_5 rfl dX0_restart_25 ?_
      refine z_iload_n B dX0_restart_28 rfl 0 rfl ?_
      refine z_aald (b := x + (133 + 8 + 2 * i_1)) B rfl h_7 (vp_in_nI (by omega) (by omega)) ((congrArg f_1 (nI_clamp (by omega))).trans (r_1 i_1 (by omega))) dX0_restart_29 ?_
      refine z_callV (As := []) (rest := []) B (s_X10_clear G l Φl1 sz x (ca) (133 + 8 + 2 * i_1) hx hI1 (kd_k (by omega))) (cwV 0 B.1.2.2.2.2 gX0_restart_X10_clear rfl rfl rfl (by decide +kernel) ⟨Nat.le_of_ble_eq_true rfl, Nat.le_of_ble_eq_true rfl⟩) h_9 rfl rfl rfl rfl (Nat.le_of_ble_eq_true rfl) dX0_restart_30 ⟨Nat.le_of_ble_eq_true rfl, Nat.le_of_ble_eq_true rfl⟩ (fun r_2 Φ2 sz1 st1 hp1 hs1 => ?_)
      obtain ⟨rfl, hq1, hI3, hF2⟩ := hp1
      subst sz1
      replace hs1 : st1 = [] := hs1
      subst st1
      replace hI3 : In G x (ca) Φ2 := hI3
      refine z_iinc (k := 0) (v := nI (i_1 + 1)) (lv' := [(2, .int (nI (i_1 + 1))), (1, .int i_2), (0, .ref (x + 132))]) B dX0_restart_33 rfl (nI_add i_1 1) (Nat.le_of_ble_eq_true rfl) rfl ?_
      refine z_goto (tgt := 4) B dX0_restart_36 rfl ?_
      refine z_lv [0, 1, 2] rfl ?_
      exact ih1 (i_1 + 1, i_2) Φ2 (show 4 - (i_1 + 1) < 4 - i_1 by omega) ⟨hI3, (fun b9 h9 => ((hF2 b9 (fun j9 h8 h7 => h9 j9 h8 (show 132 ≤ j9 ∧ j9 < 149 by have h6 : j9 = (133 + 8 + 2 * i_1) := h7; omega))).trans ((hF1 b9 (fun j9 h8 h7 => h9 j9 h8 (show 132 ≤ j9 ∧ j9 < 149 by have h6 : 132 ≤ j9 ∧ j9 < 149 := h7; omega))).trans rfl))), (show (i_1 + 1) ≤ 4 by omega), trivial⟩
    · have e_4 : ¬ (n_3 ≤ 0) := fun h9 => c_2 ((nI_leI (a := n_3) (b := 0) (by omega) (by omega)).mpr h9)
      refine z_iinc (k := 1) (v := i_2 + 1) (lv' := [(1, .int (i_2 + 1)), (2, .int (nI i_1)), (0, .ref (x + 132))]) B dX0_restart_21 rfl rfl (Nat.le_of_ble_eq_true rfl) rfl ?_
      refine z_aload_n B dX0_restart_24 rfl 2 rfl ?_
      refine z_get (ref := "FlowExporter$Collector") (C := RX0) (T := TX0) (N := 12) (ci := 2) (v := .ref (x + 133)) B (by decide +kernel) rfl 2 (by decide) (by decide +kernel) rfl h_5 rfl dX0_restart_25 ?_
      refine z_iload_n B dX0_restart_28 rfl 1 rfl ?_
      refine z_aald (b := x + (133 + 8 + 2 * i_1)) B rfl h_7 (vp_in_nI (by omega) (by omega)) ((congrArg f_1 (nI_clamp (by omega))).trans (r_1 i_1 (by omega))) dX0_restart_29 ?_
      refine z_callV (As := []) (rest := []) B (s_X10_clear G l Φl1 sz x (ca) (133 + 8 + 2 * i_1) hx hI1 (kd_k (by omega))) (cwV 0 B.1.2.2.2.2 gX0_restart_X10_clear rfl rfl rfl (by decide +kernel) ⟨Nat.le_of_ble_eq_true rfl, Nat.le_of_ble_eq_true rfl⟩) h_9 rfl rfl rfl rfl (Nat.le_of_ble_eq_true rfl) dX0_restart_30 ⟨Nat.le_of_ble_eq_true rfl, Nat.le_of_ble_eq_true rfl⟩ (fun r_3 Φ3 sz2 st2 hp2 hs2 => ?_)
      obtain ⟨rfl, hq2, hI4, hF3⟩ := hp2
      subst sz2
      replace hs2 : st2 = [] := hs2
      subst st2
      replace hI4 : In G x (ca) Φ3 := hI4
      refine z_iinc (k := 1) (v := nI (i_1 + 1)) (lv' := [(2, .int (nI (i_1 + 1))), (1, .int (i_2 + 1)), (0, .ref (x + 132))]) B dX0_restart_33 rfl (nI_add i_1 1) (Nat.le_of_ble_eq_true rfl) rfl ?_
      refine z_goto (tgt := 4) B dX0_restart_36 rfl ?_
      refine z_lv [0, 1, 2] rfl ?_
      exact ih1 (i_1 + 1, i_2 + 1) Φ3 (show 4 - (i_1 + 1) < 4 - i_1 by omega) ⟨hI4, (fun b9 h9 => ((hF3 b9 (fun j9 h8 h7 => h9 j9 h8 (show 132 ≤ j9 ∧ j9 < 149 by have h6 : j9 = (133 + 8 + 2 * i_1) := h7; omega))).trans ((hF1 b9 (fun j9 h8 h7 => h9 j9 h8 (show 132 ≤ j9 ∧ j9 < 149 by have h6 : 132 ≤ j9 ∧ j9 < 149 := h7; omega))).trans rfl))), (show (i_1 + 1) ≤ 4 by omega), trivial⟩

set_option maxHeartbeats 4000000 in
set_option maxRecDepth 100000 in
theorem s_X0_clear (G : EnvG) (l : Launch) (Φ : Hm) (sz x ca : Nat)  (hx : G.2.2.2 ≤ x) (hI : In G x ca Φ)  : Ct G l yX0_clear wsX0_clear ({ frames := 2, cells := 0, slots := 0, locals := 42 }) 0 0 [.ref (x + 132)] Φ sz (fun v Φ1 sz1 => (v = none) ∧ sz1 = sz ∧ In G x (ca) Φ1 ∧ Fr x (fun j9 => 132 ≤ j9 ∧ j9 < 149) Φ Φ1) := by
  refine Ct.of (cc := cX0_clear) (maxL := 1) (ret := none) (by decide) rfl (Nat.le_of_ble_eq_true rfl) ?_
  intro p9 e9 s9 m9 w9 t9 k9 B
  show Z p9 l e9 _ s9 m9 _ w9 t9 k9 _ G 1 0 [(0, .ref (x + 132))] [] Φ sz 0 0
  refine z_aload_n B dX0_clear_0 rfl 0 rfl ?_
  obtain ⟨n_1, v_1, v_2, h_1, b_1⟩ := in25 (k := 132) hI rfl
  have h_2 : Φ (x + 132) = some (o_ 2 [.ref (x + 3), .ref (x + 121), .ref (x + 133), .ref (x + 134), .ref (x + 135), .ref (x + 137), .ref (x + 138), .ref (x + 139), .ref (x + 140), .int (nI n_1), .int v_1, .int v_2]) := h_1
  refine z_get (ref := "FlowExporter$Collector") (C := RX0) (T := TX0) (N := 12) (ci := 2) (v := .ref (x + 139)) B (by decide +kernel) rfl 7 (by decide) (by decide +kernel) rfl h_2 rfl dX0_clear_1 ?_
  refine z_lconst (v := 0) B dX0_clear_4 rfl ?_
  obtain ⟨f_1, h_3⟩ := in28 (k := 139) hI rfl
  have h_4 : Φ (x + 139) = some (al_ G 9 f_1) := h_3
  refine z_callS (As := [.ref (x + 139), .long 0]) (rest := []) B (c_J7_fill_d0a16 G l Φ sz (x + 139) 9 f_1 0 h_4 (Nat.le_trans hx (Nat.le_add_right x 139)) (by decide)) (va_cwS 2 B.1.2.2.2.2 gX0_clear_J7_fill_d0a16 rfl rfl rfl (by decide +kernel) ⟨Nat.le_of_ble_eq_true rfl, Nat.le_of_ble_eq_true rfl⟩) rfl rfl (Nat.le_of_ble_eq_true rfl) dX0_clear_5 ⟨Nat.le_of_ble_eq_true rfl, Nat.le_of_ble_eq_true rfl⟩ (fun r_1 Φ1 sz1 st1 hp1 hs1 => ?_)
  obtain ⟨rfl, hq1, fr1, h_5⟩ := hp1
  subst sz1
  replace hs1 : st1 = [] := hs1
  subst st1
  have hΦ1 : Φ1 = fset Φ (x + 139) (al_ G 9 (fun _ => 0)) := fset_of fr1 h_5
  have h_6 : Φ1 (x + 139) = some (al_ G 9 (fun _ => 0)) := fset_at hΦ1
  have hI1 : In G x (ca) Φ1 := In.put (k := 139) hI hΦ1 (ok28 (k := 139) rfl ⟨_, rfl⟩)
  refine z_aload_n B dX0_clear_8 rfl 0 rfl ?_
  have h_7 : Φ1 (x + 132) = some (o_ 2 [.ref (x + 3), .ref (x + 121), .ref (x + 133), .ref (x + 134), .ref (x + 135), .ref (x + 137), .ref (x + 138), .ref (x + 139), .ref (x + 140), .int (nI n_1), .int v_1, .int v_2]) := ((fset_fr hΦ1 (ne_off (x := x) (i := 132) (j := 139) rfl)).trans h_2)
  refine z_callV (As := []) (rest := []) B (s_X0_restart G l Φ1 sz x (ca)  hx hI1 ) (cwV 0 B.1.2.2.2.2 gX0_clear_X0_restart rfl rfl rfl (by decide +kernel) ⟨Nat.le_of_ble_eq_true rfl, Nat.le_of_ble_eq_true rfl⟩) h_7 rfl rfl rfl rfl (Nat.le_of_ble_eq_true rfl) dX0_clear_9 ⟨Nat.le_of_ble_eq_true rfl, Nat.le_of_ble_eq_true rfl⟩ (fun r_2 Φ2 sz2 st2 hp2 hs2 => ?_)
  obtain ⟨⟨v_3, rfl⟩, hq2, hI2, hF1⟩ := hp2
  subst sz2
  replace hs2 : st2 = [.int v_3] := hs2
  subst st2
  replace hI2 : In G x (ca) Φ2 := hI2
  refine z_pop B dX0_clear_12 rfl ?_
  exact z_ret_v B dX0_clear_13 ⟨rfl, rfl, hI2, (fun b9 h9 => ((hF1 b9 (fun j9 h8 h7 => h9 j9 h8 (show 132 ≤ j9 ∧ j9 < 149 by have h6 : 132 ≤ j9 ∧ j9 < 149 := h7; omega))).trans ((fset_fr hΦ1 (fun h8 => h9 (139) h8 (show 132 ≤ 139 ∧ 139 < 149 by omega))).trans rfl)))⟩

set_option maxHeartbeats 4000000 in
set_option maxRecDepth 100000 in
theorem s_X0_ageOf (G : EnvG) (l : Launch) (Φ : Hm) (sz x ca : Nat) (a : Int32) (b : Int32) (hx : G.2.2.2 ≤ x) (hI : In G x ca Φ)  : Ct G l yX0_ageOf wsX0_ageOf ({ frames := 0, cells := 0, slots := 0, locals := 0 }) 0 0 [.ref (x + 132), .int a, .int b] Φ sz (fun v Φ1 sz1 => (∃ r9 : Int32, v = some (.int r9)) ∧ sz1 = sz ∧ In G x (ca) Φ1 ∧ Fr x (fun j9 => False) Φ Φ1) := by
  refine Ct.of (cc := cX0_ageOf) (maxL := 3) (ret := (some .int)) (by decide) rfl (Nat.le_of_ble_eq_true rfl) ?_
  intro p9 e9 s9 m9 w9 t9 k9 B
  show Z p9 l e9 _ s9 m9 _ w9 t9 k9 _ G 3 0 [(0, .ref (x + 132)), (1, .int a), (2, .int b)] [] Φ sz 0 0
  refine z_iload_n B dX0_ageOf_0 rfl 1 rfl ?_
  refine z_if_lt (tgt := 21) B dX0_ageOf_1 rfl (fun c_1 => ?_) (fun c_1 => ?_)
  · refine z_iconst (v := (-1)) B dX0_ageOf_21 rfl ?_
    exact z_ret_i B dX0_ageOf_22 ⟨⟨_, rfl⟩, rfl, hI, (fun b9 h9 => rfl)⟩
  · obtain ⟨n_1, e_1, rfl⟩ := nI_of c_1
    refine z_iload_n B dX0_ageOf_4 rfl 1 rfl ?_
    refine z_iconst (v := 4) B dX0_ageOf_5 rfl ?_
    refine z_icmp_ge (tgt := 21) B dX0_ageOf_6 rfl (fun c_2 => ?_) (fun c_2 => ?_)
    · have e_2 : 4 ≤ n_1 := (nI_leI (a := 4) (b := n_1) (by omega) (by omega)).mp c_2
      refine z_iconst (v := (-1)) B dX0_ageOf_21 rfl ?_
      exact z_ret_i B dX0_ageOf_22 ⟨⟨_, rfl⟩, rfl, hI, (fun b9 h9 => rfl)⟩
    · have e_3 : ¬ (4 ≤ n_1) := fun h9 => c_2 ((nI_leI (a := 4) (b := n_1) (by omega) (by omega)).mpr h9)
      refine z_aload_n B dX0_ageOf_9 rfl 0 rfl ?_
      obtain ⟨n_2, v_1, v_2, h_1, b_1⟩ := in25 (k := 132) hI rfl
      have h_2 : Φ (x + 132) = some (o_ 2 [.ref (x + 3), .ref (x + 121), .ref (x + 133), .ref (x + 134), .ref (x + 135), .ref (x + 137), .ref (x + 138), .ref (x + 139), .ref (x + 140), .int (nI n_2), .int v_1, .int v_2]) := h_1
      refine z_get (ref := "FlowExporter$Collector") (C := RX0) (T := TX0) (N := 12) (ci := 2) (v := .ref (x + 133)) B (by decide +kernel) rfl 2 (by decide) (by decide +kernel) rfl h_2 rfl dX0_ageOf_10 ?_
      refine z_iload_n B dX0_ageOf_13 rfl 1 rfl ?_
      obtain ⟨f_1, h_3, r_1⟩ := in26 (k := 133) hI rfl
      have h_4 : Φ (x + 133) = some (aq_ G 4 4 f_1) := h_3
      refine z_aald (b := x + (133 + 8 + 2 * n_1)) B rfl h_4 (vp_in_nI (by omega) (by omega)) ((congrArg f_1 (nI_clamp (by omega))).trans (r_1 n_1 (by omega))) dX0_ageOf_14 ?_
      obtain ⟨n_3, v_3, v_4, h_5, b_2⟩ := in8 (k := 133 + 8 + 2 * n_1) hI (kd_k (by omega))
      have h_6 : Φ (x + (133 + 8 + 2 * n_1)) = some (o_ 12 [.ref (x + (133 + 8 + 2 * n_1 + 1)), .int (nI n_3), .int v_3, .int v_4]) := h_5
      refine z_get (ref := "FlowExporter$Template") (C := RX10) (T := TX10) (N := 4) (ci := 12) (v := .int (nI n_3)) B (by decide +kernel) rfl 1 (by decide) (by decide +kernel) rfl h_6 rfl dX0_ageOf_15 ?_
      refine z_if_ne (tgt := 23) B dX0_ageOf_18 rfl (fun c_3 => ?_) (fun c_3 => ?_)
      · have e_4 : ¬ (n_3 = 0) := fun h9 => c_3 ((nI_eq (a := n_3) (b := 0) (by omega) (by omega)).mpr h9)
        refine z_iload_n B dX0_ageOf_23 rfl 2 rfl ?_
        refine z_aload_n B dX0_ageOf_24 rfl 0 rfl ?_
        refine z_get (ref := "FlowExporter$Collector") (C := RX0) (T := TX0) (N := 12) (ci := 2) (v := .ref (x + 134)) B (by decide +kernel) rfl 3 (by decide) (by decide +kernel) rfl h_2 rfl dX0_ageOf_25 ?_
        refine z_iload_n B dX0_ageOf_28 rfl 1 rfl ?_
        obtain ⟨f_2, h_7⟩ := in15 (k := 134) hI rfl
        have h_8 : Φ (x + 134) = some (ai_ G 4 f_2) := h_7
        refine z_iald B h_8 (vp_in_nI (by omega) (by omega)) dX0_ageOf_29 ?_
        refine z_fi (fun v_5 => ?_)
        refine z_isub B dX0_ageOf_30 ?_
        refine z_fi (fun v_6 => ?_)
        exact z_ret_i B dX0_ageOf_31 ⟨⟨_, rfl⟩, rfl, hI, (fun b9 h9 => rfl)⟩
      · have e_5 : n_3 = 0 := (nI_eq (a := n_3) (b := 0) (by omega) (by omega)).mp c_3
        refine z_iconst (v := (-1)) B dX0_ageOf_21 rfl ?_
        exact z_ret_i B dX0_ageOf_22 ⟨⟨_, rfl⟩, rfl, hI, (fun b9 h9 => rfl)⟩

set_option maxHeartbeats 4000000 in
set_option maxRecDepth 100000 in
theorem s_X0_isUsable (G : EnvG) (l : Launch) (Φ : Hm) (sz x ca : Nat) (a : Int32) (b : Int32) (hx : G.2.2.2 ≤ x) (hI : In G x ca Φ)  : Ct G l yX0_isUsable wsX0_isUsable ({ frames := 1, cells := 0, slots := 0, locals := 22 }) 0 0 [.ref (x + 132), .int a, .int b] Φ sz (fun v Φ1 sz1 => (∃ r9 : Int32, v = some (.int r9) ∧ (r9 = 0 ∨ r9 = 1)) ∧ sz1 = sz ∧ In G x (ca) Φ1 ∧ Fr x (fun j9 => False) Φ Φ1) := by
  refine Ct.of (cc := cX0_isUsable) (maxL := 4) (ret := (some .boolean)) (by decide) rfl (Nat.le_of_ble_eq_true rfl) ?_
  intro p9 e9 s9 m9 w9 t9 k9 B
  show Z p9 l e9 _ s9 m9 _ w9 t9 k9 _ G 4 0 [(0, .ref (x + 132)), (1, .int a), (2, .int b)] [] Φ sz 0 0
  refine z_aload_n B dX0_isUsable_0 rfl 0 rfl ?_
  refine z_iload_n B dX0_isUsable_1 rfl 1 rfl ?_
  refine z_iload_n B dX0_isUsable_2 rfl 2 rfl ?_
  obtain ⟨n_1, v_1, v_2, h_1, b_1⟩ := in25 (k := 132) hI rfl
  have h_2 : Φ (x + 132) = some (o_ 2 [.ref (x + 3), .ref (x + 121), .ref (x + 133), .ref (x + 134), .ref (x + 135), .ref (x + 137), .ref (x + 138), .ref (x + 139), .ref (x + 140), .int (nI n_1), .int v_1, .int v_2]) := h_1
  refine z_callV (As := [.int a, .int b]) (rest := []) B (s_X0_ageOf G l Φ sz x (ca) a b hx hI ) (cwV 2 B.1.2.2.2.2 gX0_isUsable_X0_ageOf rfl rfl rfl (by decide +kernel) ⟨Nat.le_of_ble_eq_true rfl, Nat.le_of_ble_eq_true rfl⟩) h_2 rfl rfl rfl rfl (Nat.le_of_ble_eq_true rfl) dX0_isUsable_3 ⟨Nat.le_of_ble_eq_true rfl, Nat.le_of_ble_eq_true rfl⟩ (fun r_1 Φ1 sz1 st1 hp1 hs1 => ?_)
  obtain ⟨⟨v_3, rfl⟩, hq1, hI1, hF1⟩ := hp1
  subst sz1
  replace hs1 : st1 = [.int v_3] := hs1
  subst st1
  replace hI1 : In G x (ca) Φ1 := hI1
  refine z_istore_n (lv' := [(3, .int v_3), (0, .ref (x + 132)), (1, .int a), (2, .int b)]) B dX0_isUsable_6 rfl (Nat.le_of_ble_eq_true rfl) rfl ?_
  refine z_iload_n B dX0_isUsable_7 rfl 0 rfl ?_
  refine z_iconst (v := (-1)) B dX0_isUsable_8 rfl ?_
  refine z_icmp_eq (tgt := 29) B dX0_isUsable_9 rfl (fun c_1 => ?_) (fun c_1 => ?_)
  · refine z_iconst (v := 0) B dX0_isUsable_29 rfl ?_
    exact z_ret_z B dX0_isUsable_30 (by decide) ⟨⟨_, rfl, by decide⟩, rfl, hI1, (fun b9 h9 => ((hF1 b9 (fun j9 h8 h7 => (show False from h7).elim)).trans rfl))⟩
  · refine z_iload_n B dX0_isUsable_12 rfl 0 rfl ?_
    refine z_aload_n B dX0_isUsable_13 rfl 1 rfl ?_
    have h_3 : Φ1 (x + 132) = some (o_ 2 [.ref (x + 3), .ref (x + 121), .ref (x + 133), .ref (x + 134), .ref (x + 135), .ref (x + 137), .ref (x + 138), .ref (x + 139), .ref (x + 140), .int (nI n_1), .int v_1, .int v_2]) := ((hF1 (x + 132) (fun j9 h8 h7 => (show False from h7).elim)).trans h_2)
    refine z_get (ref := "FlowExporter$Collector") (C := RX0) (T := TX0) (N := 12) (ci := 2) (v := .ref (x + 3)) B (by decide +kernel) rfl 0 (by decide) (by decide +kernel) rfl h_3 rfl dX0_isUsable_14 ?_
    refine z_bipush (v := 6) B dX0_isUsable_17 rfl ?_
    obtain ⟨v_4, v_5, h_4⟩ := in3 (k := 3) hI1 rfl
    have h_5 : Φ1 (x + 3) = some (o_ 3 [.ref (x + 4), .ref (x + 5), .ref (x + 6), .ref (x + 7), .int v_4, .int v_5]) := h_4
    refine z_callV (As := [.int 6]) (rest := [.int v_3]) B (s_X1_get G l Φ1 sz x (ca) 3 6 hx hI1 rfl) (cwV 1 B.1.2.2.2.2 gX0_isUsable_X1_get rfl rfl rfl (by decide +kernel) ⟨Nat.le_of_ble_eq_true rfl, Nat.le_of_ble_eq_true rfl⟩) h_5 rfl rfl rfl rfl (Nat.le_of_ble_eq_true rfl) dX0_isUsable_19 ⟨Nat.le_of_ble_eq_true rfl, Nat.le_of_ble_eq_true rfl⟩ (fun r_2 Φ2 sz2 st2 hp2 hs2 => ?_)
    obtain ⟨⟨n_2, rfl, b_2⟩, hq2, hI2, hF2⟩ := hp2
    subst sz2
    replace hs2 : st2 = [.int (nI n_2), .int v_3] := hs2
    subst st2
    replace hI2 : In G x (ca) Φ2 := hI2
    replace b_2 : n_2 < 2 ^ 31 := b_2
    refine z_icmp_gt (tgt := 29) B dX0_isUsable_22 rfl (fun c_2 => ?_) (fun c_2 => ?_)
    · refine z_iconst (v := 0) B dX0_isUsable_29 rfl ?_
      exact z_ret_z B dX0_isUsable_30 (by decide) ⟨⟨_, rfl, by decide⟩, rfl, hI2, (fun b9 h9 => ((hF2 b9 (fun j9 h8 h7 => (show False from h7).elim)).trans ((hF1 b9 (fun j9 h8 h7 => (show False from h7).elim)).trans rfl)))⟩
    · refine z_iconst (v := 1) B dX0_isUsable_25 rfl ?_
      refine z_goto (tgt := 30) B dX0_isUsable_26 rfl ?_
      exact z_ret_z B dX0_isUsable_30 (by decide) ⟨⟨_, rfl, by decide⟩, rfl, hI2, (fun b9 h9 => ((hF2 b9 (fun j9 h8 h7 => (show False from h7).elim)).trans ((hF1 b9 (fun j9 h8 h7 => (show False from h7).elim)).trans rfl)))⟩

set_option maxHeartbeats 4000000 in
set_option maxRecDepth 100000 in
theorem s_X0_usableTemplates (G : EnvG) (l : Launch) (Φ : Hm) (sz x ca : Nat) (a : Int32) (hx : G.2.2.2 ≤ x) (hI : In G x ca Φ)  : Ct G l yX0_usableTemplates wsX0_usableTemplates ({ frames := 2, cells := 0, slots := 0, locals := 45 }) 0 0 [.ref (x + 132), .int a] Φ sz (fun v Φ1 sz1 => (∃ r9 : Int32, v = some (.int r9)) ∧ sz1 = sz ∧ In G x (ca) Φ1 ∧ Fr x (fun j9 => False) Φ Φ1) := by
  refine Ct.of (cc := cX0_usableTemplates) (maxL := 4) (ret := (some .int)) (by decide) rfl (Nat.le_of_ble_eq_true rfl) ?_
  intro p9 e9 s9 m9 w9 t9 k9 B
  show Z p9 l e9 _ s9 m9 _ w9 t9 k9 _ G 4 0 [(0, .ref (x + 132)), (1, .int a)] [] Φ sz 0 0
  refine z_iconst (v := 0) B dX0_usableTemplates_0 rfl ?_
  refine z_istore_n (lv' := [(2, .int 0), (0, .ref (x + 132)), (1, .int a)]) B dX0_usableTemplates_1 rfl (Nat.le_of_ble_eq_true rfl) rfl ?_
  refine z_iconst (v := 0) B dX0_usableTemplates_2 rfl ?_
  refine z_istore_n (lv' := [(3, .int 0), (2, .int 0), (0, .ref (x + 132)), (1, .int a)]) B dX0_usableTemplates_3 rfl (Nat.le_of_ble_eq_true rfl) rfl ?_
  refine z_lv [0, 1, 2, 3] rfl ?_
  refine z_loop (α := Nat × Int32) (fun (a9 : Nat × Int32) Φi => In G x (ca) Φi ∧ Fr x (fun j9 => False) Φ Φi ∧ (a9.1 ≤ 4) ∧ True) (fun a9 => [(3, .int (nI (a9.1))), (2, .int a9.2), (0, .ref (x + 132)), (1, .int a)]) (fun a9 => 4 - a9.1) ?_ (0, 0) ⟨hI, fun _ _ => rfl, (show 0 ≤ 4 by omega), trivial⟩
  rintro ⟨i_1, i_2⟩ Φl1 ⟨hI1, hF1, b_1, -⟩ ih1
  replace hI1 : In G x (ca) Φl1 := hI1
  replace b_1 : i_1 ≤ 4 := b_1
  show Z p9 l e9 _ s9 m9 _ w9 t9 k9 _ G 4 4 [(3, .int (nI i_1)), (2, .int i_2), (0, .ref (x + 132)), (1, .int a)] [] Φl1 _ _ _
  refine z_iload_n B dX0_usableTemplates_4 rfl 0 rfl ?_
  refine z_iconst (v := 4) B dX0_usableTemplates_5 rfl ?_
  refine z_icmp_ge (tgt := 30) B dX0_usableTemplates_6 rfl (fun c_1 => ?_) (fun c_1 => ?_)
  · have e_1 : 4 ≤ i_1 := (nI_leI (a := 4) (b := i_1) (by omega) (by omega)).mp c_1
    refine z_iload_n B dX0_usableTemplates_30 rfl 1 rfl ?_
    exact z_ret_i B dX0_usableTemplates_31 ⟨⟨_, rfl⟩, rfl, hI1, (fun b9 h9 => ((hF1 b9 (fun j9 h8 h7 => (show False from h7).elim)).trans rfl))⟩
  · have e_2 : ¬ (4 ≤ i_1) := fun h9 => c_1 ((nI_leI (a := 4) (b := i_1) (by omega) (by omega)).mpr h9)
    refine z_aload_n B dX0_usableTemplates_9 rfl 2 rfl ?_
    refine z_iload_n B dX0_usableTemplates_10 rfl 0 rfl ?_
    refine z_iload_n B dX0_usableTemplates_11 rfl 3 rfl ?_
    obtain ⟨n_1, v_1, v_2, h_1, b_2⟩ := in25 (k := 132) hI1 rfl
    have h_2 : Φl1 (x + 132) = some (o_ 2 [.ref (x + 3), .ref (x + 121), .ref (x + 133), .ref (x + 134), .ref (x + 135), .ref (x + 137), .ref (x + 138), .ref (x + 139), .ref (x + 140), .int (nI n_1), .int v_1, .int v_2]) := h_1
    refine z_callV (As := [.int (nI i_1), .int a]) (rest := []) B (s_X0_isUsable G l Φl1 sz x (ca) (nI i_1) a hx hI1 ) (cwV 2 B.1.2.2.2.2 gX0_usableTemplates_X0_isUsable rfl rfl rfl (by decide +kernel) ⟨Nat.le_of_ble_eq_true rfl, Nat.le_of_ble_eq_true rfl⟩) h_2 rfl rfl rfl rfl (Nat.le_of_ble_eq_true rfl) dX0_usableTemplates_12 ⟨Nat.le_of_ble_eq_true rfl, Nat.le_of_ble_eq_true rfl⟩ (fun r_1 Φ1 sz1 st1 hp1 hs1 => ?_)
    obtain ⟨⟨v_3, rfl, b_3⟩, hq1, hI2, hF2⟩ := hp1
    subst sz1
    replace hs1 : st1 = [.int v_3] := hs1
    subst st1
    replace hI2 : In G x (ca) Φ1 := hI2
    refine z_if_eq (tgt := 24) B dX0_usableTemplates_15 rfl (fun c_2 => ?_) (fun c_2 => ?_)
    · refine z_iinc (k := 0) (v := nI (i_1 + 1)) (lv' := [(3, .int (nI (i_1 + 1))), (2, .int i_2), (0, .ref (x + 132)), (1, .int a)]) B dX0_usableTemplates_24 rfl (nI_add i_1 1) (Nat.le_of_ble_eq_true rfl) rfl ?_
      refine z_goto (tgt := 4) B dX0_usableTemplates_27 rfl ?_
      refine z_lv [0, 1, 2, 3] rfl ?_
      exact ih1 (i_1 + 1, i_2) Φ1 (show 4 - (i_1 + 1) < 4 - i_1 by omega) ⟨hI2, (fun b9 h9 => ((hF2 b9 (fun j9 h8 h7 => (show False from h7).elim)).trans ((hF1 b9 (fun j9 h8 h7 => (show False from h7).elim)).trans rfl))), (show (i_1 + 1) ≤ 4 by omega), trivial⟩
    · refine z_iload_n B dX0_usableTemplates_18 rfl 1 rfl ?_
      refine z_iconst (v := 1) B dX0_usableTemplates_19 rfl ?_
      refine z_iload_n B dX0_usableTemplates_20 rfl 0 rfl ?_
      refine z_ishl B dX0_usableTemplates_21 ?_
      refine z_fi (fun v_4 => ?_)
      refine z_ior B dX0_usableTemplates_22 ?_
      refine z_fi (fun v_5 => ?_)
      refine z_istore_n (lv' := [(2, .int v_5), (3, .int (nI i_1)), (0, .ref (x + 132)), (1, .int a)]) B dX0_usableTemplates_23 rfl (Nat.le_of_ble_eq_true rfl) rfl ?_
      refine z_iinc (k := 1) (v := nI (i_1 + 1)) (lv' := [(3, .int (nI (i_1 + 1))), (2, .int v_5), (0, .ref (x + 132)), (1, .int a)]) B dX0_usableTemplates_24 rfl (nI_add i_1 1) (Nat.le_of_ble_eq_true rfl) rfl ?_
      refine z_goto (tgt := 4) B dX0_usableTemplates_27 rfl ?_
      refine z_lv [0, 1, 2, 3] rfl ?_
      exact ih1 (i_1 + 1, v_5) Φ1 (show 4 - (i_1 + 1) < 4 - i_1 by omega) ⟨hI2, (fun b9 h9 => ((hF2 b9 (fun j9 h8 h7 => (show False from h7).elim)).trans ((hF1 b9 (fun j9 h8 h7 => (show False from h7).elim)).trans rfl))), (show (i_1 + 1) ≤ 4 by omega), trivial⟩

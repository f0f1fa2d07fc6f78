set_option maxHeartbeats 4000000 in
set_option maxRecDepth 100000 in
theorem s_X2_clear (G : EnvG) (l : Launch) (Φ : Hm) (sz x ca : Nat)  (hx : G.2.2.2 ≤ x) (hI : In G x ca Φ)  : Ct G l yX2_clear wsX2_clear ({ frames := 1, cells := 0, slots := 0, locals := 21 }) 0 0 [.ref (x + 80)] Φ sz (fun v Φ1 sz1 => (v = none) ∧ sz1 = sz ∧ In G x (ca) Φ1 ∧ Fr x (fun j9 => j9 = 80 ∨ j9 = 81 ∨ j9 = 95) Φ Φ1) := by
  refine Ct.of (cc := cX2_clear) (maxL := 1) (ret := none) (by decide) rfl (Nat.le_of_ble_eq_true rfl) ?_
  intro p9 e9 s9 m9 w9 t9 k9 B
  show Z p9 l e9 _ s9 m9 _ w9 t9 k9 _ G 1 0 [(0, .ref (x + 80))] [] Φ sz 0 0
  refine z_aload_n B dX2_clear_0 rfl 0 rfl ?_
  obtain ⟨v_1, v_2, v_3, v_4, v_5, v_6, v_7, v_8, v_9, h_1, b_1⟩ := in16 (k := 80) hI rfl
  have h_2 : Φ (x + 80) = some (o_ 4 [.ref (x + 3), .ref (x + 74), .ref (x + 81), .ref (x + 95), .int v_1, .int v_2, .int v_3, .int v_4, .int v_5, .int v_6, .long v_7, .long v_8, .long v_9]) := h_1
  refine z_get (ref := "FlowExporter$Exporter") (C := RX2) (T := TX2) (N := 13) (ci := 4) (v := .ref (x + 81)) B (by decide +kernel) rfl 2 (by decide) (by decide +kernel) rfl h_2 rfl dX2_clear_1 ?_
  refine z_iconst (v := 0) B dX2_clear_4 rfl ?_
  obtain ⟨n_1, h_3, b_2⟩ := in17 (k := 81) hI rfl
  replace b_2 : n_1 ≤ 12 := b_2
  have h_4 : Φ (x + 81) = some (o_ 6 [.ref (x + 82), .int (nI n_1)]) := h_3
  refine z_put (ref := "FlowExporter$FlowTable") (C := RX4) (T := TX4) (N := 2) (ci := 6) (v := .int 0) B (by decide +kernel) tyX4 tyX4_ok nmX4 rfl 1 (by decide) (by decide +kernel) rfl (Or.inl rfl) h_4 (Nat.le_trans hx (Nat.le_add_right x 81)) rfl rfl (Nat.le_of_ble_eq_true rfl) dX2_clear_5 (fun Φ1 hΦ1 => ?_)
  have h_5 : Φ1 (x + 81) = some (o_ 6 [.ref (x + 82), .int 0]) := fset_at hΦ1
  have hI1 : In G x (ca) Φ1 := In.put (k := 81) hI hΦ1 (ok17 (k := 81) rfl ⟨0, rfl, (show 0 ≤ 12 by omega)⟩)
  refine z_aload_n B dX2_clear_8 rfl 0 rfl ?_
  have h_6 : Φ1 (x + 80) = some (o_ 4 [.ref (x + 3), .ref (x + 74), .ref (x + 81), .ref (x + 95), .int v_1, .int v_2, .int v_3, .int v_4, .int v_5, .int v_6, .long v_7, .long v_8, .long v_9]) := ((fset_fr hΦ1 (ne_off (x := x) (i := 80) (j := 81) rfl)).trans h_2)
  refine z_get (ref := "FlowExporter$Exporter") (C := RX2) (T := TX2) (N := 13) (ci := 4) (v := .ref (x + 95)) B (by decide +kernel) rfl 3 (by decide) (by decide +kernel) rfl h_6 rfl dX2_clear_9 ?_
  refine z_iconst (v := 0) B dX2_clear_12 rfl ?_
  obtain ⟨n_2, h_7, b_3⟩ := in17 (k := 95) hI1 rfl
  replace b_3 : n_2 ≤ 24 := b_3
  have h_8 : Φ1 (x + 95) = some (o_ 6 [.ref (x + 96), .int (nI n_2)]) := h_7
  refine z_put (ref := "FlowExporter$FlowTable") (C := RX4) (T := TX4) (N := 2) (ci := 6) (v := .int 0) B (by decide +kernel) tyX4 tyX4_ok nmX4 rfl 1 (by decide) (by decide +kernel) rfl (Or.inl rfl) h_8 (Nat.le_trans hx (Nat.le_add_right x 95)) rfl rfl (Nat.le_of_ble_eq_true rfl) dX2_clear_13 (fun Φ2 hΦ2 => ?_)
  have h_9 : Φ2 (x + 95) = some (o_ 6 [.ref (x + 96), .int 0]) := fset_at hΦ2
  have hI2 : In G x (ca) Φ2 := In.put (k := 95) hI1 hΦ2 (ok17 (k := 95) rfl ⟨0, rfl, (show 0 ≤ 24 by omega)⟩)
  refine z_aload_n B dX2_clear_16 rfl 0 rfl ?_
  refine z_iconst (v := 0) B dX2_clear_17 rfl ?_
  have h_10 : Φ2 (x + 80) = some (o_ 4 [.ref (x + 3), .ref (x + 74), .ref (x + 81), .ref (x + 95), .int v_1, .int v_2, .int v_3, .int v_4, .int v_5, .int v_6, .long v_7, .long v_8, .long v_9]) := ((fset_fr hΦ2 (ne_off (x := x) (i := 80) (j := 95) rfl)).trans h_6)
  refine z_put (ref := "FlowExporter$Exporter") (C := RX2) (T := TX2) (N := 13) (ci := 4) (v := .int 0) B (by decide +kernel) tyX2 tyX2_ok nmX2 rfl 4 (by decide) (by decide +kernel) rfl (Or.inl rfl) h_10 (Nat.le_trans hx (Nat.le_add_right x 80)) rfl rfl (Nat.le_of_ble_eq_true rfl) dX2_clear_18 (fun Φ3 hΦ3 => ?_)
  have h_11 : Φ3 (x + 80) = some (o_ 4 [.ref (x + 3), .ref (x + 74), .ref (x + 81), .ref (x + 95), .int 0, .int v_2, .int v_3, .int v_4, .int v_5, .int v_6, .long v_7, .long v_8, .long v_9]) := fset_at hΦ3
  have hI3 : In G x (ca) Φ3 := In.put (k := 80) hI2 hΦ3 (ok16 (k := 80) rfl ⟨0, v_2, v_3, v_4, v_5, v_6, v_7, v_8, v_9, rfl, b_1⟩)
  refine z_aload_n B dX2_clear_21 rfl 0 rfl ?_
  refine z_aload_n B dX2_clear_22 rfl 0 rfl ?_
  refine z_get (ref := "FlowExporter$Exporter") (C := RX2) (T := TX2) (N := 13) (ci := 4) (v := .ref (x + 3)) B (by decide +kernel) rfl 0 (by decide) (by decide +kernel) rfl h_11 rfl dX2_clear_23 ?_
  refine z_iconst (v := 0) B dX2_clear_26 rfl ?_
  obtain ⟨v_10, v_11, h_12⟩ := in3 (k := 3) hI3 rfl
  have h_13 : Φ3 (x + 3) = some (o_ 3 [.ref (x + 4), .ref (x + 5), .ref (x + 6), .ref (x + 7), .int v_10, .int v_11]) := h_12
  refine z_callV (As := [.int 0]) (rest := [.ref (x + 80)]) B (s_X1_get G l Φ3 sz x (ca) 3 0 hx hI3 rfl) (cwV 1 B.1.2.2.2.2 gX2_clear_X1_get rfl rfl rfl (by decide +kernel) ⟨Nat.le_of_ble_eq_true rfl, Nat.le_of_ble_eq_true rfl⟩) h_13 rfl rfl rfl rfl (Nat.le_of_ble_eq_true rfl) dX2_clear_27 ⟨Nat.le_of_ble_eq_true rfl, Nat.le_of_ble_eq_true rfl⟩ (fun r_1 Φ4 sz1 st1 hp1 hs1 => ?_)
  obtain ⟨⟨n_3, rfl, b_4⟩, hq1, hI4, hF1⟩ := hp1
  subst sz1
  replace hs1 : st1 = [.int (nI n_3), .ref (x + 80)] := hs1
  subst st1
  replace hI4 : In G x (ca) Φ4 := hI4
  replace b_4 : n_3 < 2 ^ 31 := b_4
  have h_14 : Φ4 (x + 80) = some (o_ 4 [.ref (x + 3), .ref (x + 74), .ref (x + 81), .ref (x + 95), .int 0, .int v_2, .int v_3, .int v_4, .int v_5, .int v_6, .long v_7, .long v_8, .long v_9]) := ((hF1 (x + 80) (fun j9 h8 h7 => (show False from h7).elim)).trans h_11)
  refine z_put (ref := "FlowExporter$Exporter") (C := RX2) (T := TX2) (N := 13) (ci := 4) (v := .int (nI n_3)) B (by decide +kernel) tyX2 tyX2_ok nmX2 rfl 5 (by decide) (by decide +kernel) rfl (Or.inl rfl) h_14 (Nat.le_trans hx (Nat.le_add_right x 80)) rfl rfl (Nat.le_of_ble_eq_true rfl) dX2_clear_30 (fun Φ5 hΦ4 => ?_)
  have h_15 : Φ5 (x + 80) = some (o_ 4 [.ref (x + 3), .ref (x + 74), .ref (x + 81), .ref (x + 95), .int 0, .int (nI n_3), .int v_3, .int v_4, .int v_5, .int v_6, .long v_7, .long v_8, .long v_9]) := fset_at hΦ4
  have hI5 : In G x (ca) Φ5 := In.put (k := 80) hI4 hΦ4 (ok16 (k := 80) rfl ⟨0, nI n_3, v_3, v_4, v_5, v_6, v_7, v_8, v_9, rfl, b_1⟩)
  refine z_aload_n B dX2_clear_33 rfl 0 rfl ?_
  refine z_iconst (v := 1) B dX2_clear_34 rfl ?_
  refine z_put (ref := "FlowExporter$Exporter") (C := RX2) (T := TX2) (N := 13) (ci := 4) (v := .int 1) B (by decide +kernel) tyX2 tyX2_ok nmX2 rfl 6 (by decide) (by decide +kernel) rfl (Or.inl rfl) h_15 (Nat.le_trans hx (Nat.le_add_right x 80)) rfl rfl (Nat.le_of_ble_eq_true rfl) dX2_clear_35 (fun Φ6 hΦ5 => ?_)
  have h_16 : Φ6 (x + 80) = some (o_ 4 [.ref (x + 3), .ref (x + 74), .ref (x + 81), .ref (x + 95), .int 0, .int (nI n_3), .int 1, .int v_4, .int v_5, .int v_6, .long v_7, .long v_8, .long v_9]) := fset_at hΦ5
  have hI6 : In G x (ca) Φ6 := In.put (k := 80) hI5 hΦ5 (ok16 (k := 80) rfl ⟨0, nI n_3, 1, v_4, v_5, v_6, v_7, v_8, v_9, rfl, b_1⟩)
  refine z_aload_n B dX2_clear_38 rfl 0 rfl ?_
  refine z_iconst (v := 0) B dX2_clear_39 rfl ?_
  refine z_put (ref := "FlowExporter$Exporter") (C := RX2) (T := TX2) (N := 13) (ci := 4) (v := .int 0) B (by decide +kernel) tyX2 tyX2_ok nmX2 rfl 7 (by decide) (by decide +kernel) rfl (Or.inl rfl) h_16 (Nat.le_trans hx (Nat.le_add_right x 80)) (by decide +kernel) (by decide +kernel) (Nat.le_of_ble_eq_true rfl) dX2_clear_40 (fun Φ7 hΦ6 => ?_)
  have h_17 : Φ7 (x + 80) = some (o_ 4 [.ref (x + 3), .ref (x + 74), .ref (x + 81), .ref (x + 95), .int 0, .int (nI n_3), .int 1, .int 0, .int v_5, .int v_6, .long v_7, .long v_8, .long v_9]) := fset_at hΦ6
  have hI7 : In G x (ca) Φ7 := In.put (k := 80) hI6 hΦ6 (ok16 (k := 80) rfl ⟨0, nI n_3, 1, 0, v_5, v_6, v_7, v_8, v_9, rfl, (by decide)⟩)
  refine z_aload_n B dX2_clear_43 rfl 0 rfl ?_
  refine z_iconst (v := 0) B dX2_clear_44 rfl ?_
  refine z_put (ref := "FlowExporter$Exporter") (C := RX2) (T := TX2) (N := 13) (ci := 4) (v := .int 0) B (by decide +kernel) tyX2 tyX2_ok nmX2 rfl 8 (by decide) (by decide +kernel) rfl (Or.inl rfl) h_17 (Nat.le_trans hx (Nat.le_add_right x 80)) rfl rfl (Nat.le_of_ble_eq_true rfl) dX2_clear_45 (fun Φ8 hΦ7 => ?_)
  have h_18 : Φ8 (x + 80) = some (o_ 4 [.ref (x + 3), .ref (x + 74), .ref (x + 81), .ref (x + 95), .int 0, .int (nI n_3), .int 1, .int 0, .int 0, .int v_6, .long v_7, .long v_8, .long v_9]) := fset_at hΦ7
  have hI8 : In G x (ca) Φ8 := In.put (k := 80) hI7 hΦ7 (ok16 (k := 80) rfl ⟨0, nI n_3, 1, 0, 0, v_6, v_7, v_8, v_9, rfl, (by decide)⟩)
  refine z_aload_n B dX2_clear_48 rfl 0 rfl ?_
  refine z_iconst (v := 0) B dX2_clear_49 rfl ?_
  refine z_put (ref := "FlowExporter$Exporter") (C := RX2) (T := TX2) (N := 13) (ci := 4) (v := .int 0) B (by decide +kernel) tyX2 tyX2_ok nmX2 rfl 9 (by decide) (by decide +kernel) rfl (Or.inl rfl) h_18 (Nat.le_trans hx (Nat.le_add_right x 80)) rfl rfl (Nat.le_of_ble_eq_true rfl) dX2_clear_50 (fun Φ9 hΦ8 => ?_)
  have h_19 : Φ9 (x + 80) = some (o_ 4 [.ref (x + 3), .ref (x + 74), .ref (x + 81), .ref (x + 95), .int 0, .int (nI n_3), .int 1, .int 0, .int 0, .int 0, .long v_7, .long v_8, .long v_9]) := fset_at hΦ8
  have hI9 : In G x (ca) Φ9 := In.put (k := 80) hI8 hΦ8 (ok16 (k := 80) rfl ⟨0, nI n_3, 1, 0, 0, 0, v_7, v_8, v_9, rfl, (by decide)⟩)
  refine z_aload_n B dX2_clear_53 rfl 0 rfl ?_
  refine z_lconst (v := 0) B dX2_clear_54 rfl ?_
  refine z_put (ref := "FlowExporter$Exporter") (C := RX2) (T := TX2) (N := 13) (ci := 4) (v := .long 0) B (by decide +kernel) tyX2 tyX2_ok nmX2 rfl 10 (by decide) (by decide +kernel) rfl (Or.inl rfl) h_19 (Nat.le_trans hx (Nat.le_add_right x 80)) rfl rfl (Nat.le_of_ble_eq_true rfl) dX2_clear_55 (fun Φ10 hΦ9 => ?_)
  have h_20 : Φ10 (x + 80) = some (o_ 4 [.ref (x + 3), .ref (x + 74), .ref (x + 81), .ref (x + 95), .int 0, .int (nI n_3), .int 1, .int 0, .int 0, .int 0, .long 0, .long v_8, .long v_9]) := fset_at hΦ9
  have hI10 : In G x (ca) Φ10 := In.put (k := 80) hI9 hΦ9 (ok16 (k := 80) rfl ⟨0, nI n_3, 1, 0, 0, 0, 0, v_8, v_9, rfl, (by decide)⟩)
  refine z_aload_n B dX2_clear_58 rfl 0 rfl ?_
  refine z_lconst (v := 0) B dX2_clear_59 rfl ?_
  refine z_put (ref := "FlowExporter$Exporter") (C := RX2) (T := TX2) (N := 13) (ci := 4) (v := .long 0) B (by decide +kernel) tyX2 tyX2_ok nmX2 rfl 11 (by decide) (by decide +kernel) rfl (Or.inl rfl) h_20 (Nat.le_trans hx (Nat.le_add_right x 80)) rfl rfl (Nat.le_of_ble_eq_true rfl) dX2_clear_60 (fun Φ11 hΦ10 => ?_)
  have h_21 : Φ11 (x + 80) = some (o_ 4 [.ref (x + 3), .ref (x + 74), .ref (x + 81), .ref (x + 95), .int 0, .int (nI n_3), .int 1, .int 0, .int 0, .int 0, .long 0, .long 0, .long v_9]) := fset_at hΦ10
  have hI11 : In G x (ca) Φ11 := In.put (k := 80) hI10 hΦ10 (ok16 (k := 80) rfl ⟨0, nI n_3, 1, 0, 0, 0, 0, 0, v_9, rfl, (by decide)⟩)
  refine z_aload_n B dX2_clear_63 rfl 0 rfl ?_
  refine z_lconst (v := 0) B dX2_clear_64 rfl ?_
  refine z_put (ref := "FlowExporter$Exporter") (C := RX2) (T := TX2) (N := 13) (ci := 4) (v := .long 0) B (by decide +kernel) tyX2 tyX2_ok nmX2 rfl 12 (by decide) (by decide +kernel) rfl (Or.inl rfl) h_21 (Nat.le_trans hx (Nat.le_add_right x 80)) rfl rfl (Nat.le_of_ble_eq_true rfl) dX2_clear_65 (fun Φ12 hΦ11 => ?_)
  have h_22 : Φ12 (x + 80) = some (o_ 4 [.ref (x + 3), .ref (x + 74), .ref (x + 81), .ref (x + 95), .int 0, .int (nI n_3), .int 1, .int 0, .int 0, .int 0, .long 0, .long 0, .long 0]) := fset_at hΦ11
  have hI12 : In G x (ca) Φ12 := In.put (k := 80) hI11 hΦ11 (ok16 (k := 80) rfl ⟨0, nI n_3, 1, 0, 0, 0, 0, 0, 0, rfl, (by decide)⟩)
  exact z_ret_v B dX2_clear_68 ⟨rfl, rfl, hI12, (fun b9 h9 => ((fset_fr hΦ11 (fun h8 => h9 (80) h8 (show 80 = 80 ∨ 80 = 81 ∨ 80 = 95 by omega))).trans ((fset_fr hΦ10 (fun h8 => h9 (80) h8 (show 80 = 80 ∨ 80 = 81 ∨ 80 = 95 by omega))).trans ((fset_fr hΦ9 (fun h8 => h9 (80) h8 (show 80 = 80 ∨ 80 = 81 ∨ 80 = 95 by omega))).trans ((fset_fr hΦ8 (fun h8 => h9 (80) h8 (show 80 = 80 ∨ 80 = 81 ∨ 80 = 95 by omega))).trans ((fset_fr hΦ7 (fun h8 => h9 (80) h8 (show 80 = 80 ∨ 80 = 81 ∨ 80 = 95 by omega))).trans ((fset_fr hΦ6 (fun h8 => h9 (80) h8 (show 80 = 80 ∨ 80 = 81 ∨ 80 = 95 by omega))).trans ((fset_fr hΦ5 (fun h8 => h9 (80) h8 (show 80 = 80 ∨ 80 = 81 ∨ 80 = 95 by omega))).trans ((fset_fr hΦ4 (fun h8 => h9 (80) h8 (show 80 = 80 ∨ 80 = 81 ∨ 80 = 95 by omega))).trans ((hF1 b9 (fun j9 h8 h7 => (show False from h7).elim)).trans ((fset_fr hΦ3 (fun h8 => h9 (80) h8 (show 80 = 80 ∨ 80 = 81 ∨ 80 = 95 by omega))).trans ((fset_fr hΦ2 (fun h8 => h9 (95) h8 (show 95 = 80 ∨ 95 = 81 ∨ 95 = 95 by omega))).trans ((fset_fr hΦ1 (fun h8 => h9 (81) h8 (show 81 = 80 ∨ 81 = 81 ∨ 81 = 95 by omega))).trans rfl)))))))))))))⟩

set_option maxHeartbeats 4000000 in
set_option maxRecDepth 100000 in
theorem s_X2_isSampled (G : EnvG) (l : Launch) (Φ : Hm) (sz x ca : Nat)  (hx : G.2.2.2 ≤ x) (hI : In G x ca Φ)  : Ct G l yX2_isSampled wsX2_isSampled ({ frames := 0, cells := 0, slots := 0, locals := 0 }) 0 0 [.ref (x + 80)] Φ sz (fun v Φ1 sz1 => (∃ r9 : Int32, v = some (.int r9) ∧ (r9 = 0 ∨ r9 = 1)) ∧ sz1 = sz ∧ In G x (ca) Φ1 ∧ Fr x (fun j9 => j9 = 80) Φ Φ1) := by
  refine Ct.of (cc := cX2_isSampled) (maxL := 1) (ret := (some .boolean)) (by decide) rfl (Nat.le_of_ble_eq_true rfl) ?_
  intro p9 e9 s9 m9 w9 t9 k9 B
  show Z p9 l e9 _ s9 m9 _ w9 t9 k9 _ G 1 0 [(0, .ref (x + 80))] [] Φ sz 0 0
  refine z_aload_n B dX2_isSampled_0 rfl 0 rfl ?_
  obtain ⟨v_1, v_2, v_3, v_4, v_5, v_6, v_7, v_8, v_9, h_1, b_1⟩ := in16 (k := 80) hI rfl
  have h_2 : Φ (x + 80) = some (o_ 4 [.ref (x + 3), .ref (x + 74), .ref (x + 81), .ref (x + 95), .int v_1, .int v_2, .int v_3, .int v_4, .int v_5, .int v_6, .long v_7, .long v_8, .long v_9]) := h_1
  refine z_get (ref := "FlowExporter$Exporter") (C := RX2) (T := TX2) (N := 13) (ci := 4) (v := .int v_2) B (by decide +kernel) rfl 5 (by decide) (by decide +kernel) rfl h_2 rfl dX2_isSampled_1 ?_
  refine z_iconst (v := 1) B dX2_isSampled_4 rfl ?_
  refine z_icmp_gt (tgt := 10) B dX2_isSampled_5 rfl (fun c_1 => ?_) (fun c_1 => ?_)
  · refine z_aload_n B dX2_isSampled_10 rfl 0 rfl ?_
    refine z_ldc (v := 1103515245) B (by decide +kernel) dX2_isSampled_11 ?_
    refine z_aload_n B dX2_isSampled_13 rfl 0 rfl ?_
    refine z_get (ref := "FlowExporter$Exporter") (C := RX2) (T := TX2) (N := 13) (ci := 4) (v := .int v_3) B (by decide +kernel) rfl 6 (by decide) (by decide +kernel) rfl h_2 rfl dX2_isSampled_14 ?_
    refine z_imul B dX2_isSampled_17 ?_
    refine z_fi (fun v_10 => ?_)
    refine z_sipush (v := 12345) B dX2_isSampled_18 rfl ?_
    refine z_iadd B dX2_isSampled_21 ?_
    refine z_fi (fun v_11 => ?_)
    refine z_ldc (v := 2147483647) B (by decide +kernel) dX2_isSampled_22 ?_
    refine z_iand B dX2_isSampled_24 ?_
    refine z_fi (fun v_12 => ?_)
    refine z_put (ref := "FlowExporter$Exporter") (C := RX2) (T := TX2) (N := 13) (ci := 4) (v := .int v_12) B (by decide +kernel) tyX2 tyX2_ok nmX2 rfl 6 (by decide) (by decide +kernel) rfl (Or.inl rfl) h_2 (Nat.le_trans hx (Nat.le_add_right x 80)) rfl rfl (Nat.le_of_ble_eq_true rfl) dX2_isSampled_25 (fun Φ1 hΦ1 => ?_)
    have h_3 : Φ1 (x + 80) = some (o_ 4 [.ref (x + 3), .ref (x + 74), .ref (x + 81), .ref (x + 95), .int v_1, .int v_2, .int v_12, .int v_4, .int v_5, .int v_6, .long v_7, .long v_8, .long v_9]) := fset_at hΦ1
    have hI1 : In G x (ca) Φ1 := In.put (k := 80) hI hΦ1 (ok16 (k := 80) rfl ⟨v_1, v_2, v_12, v_4, v_5, v_6, v_7, v_8, v_9, rfl, b_1⟩)
    refine z_aload_n B dX2_isSampled_28 rfl 0 rfl ?_
    refine z_get (ref := "FlowExporter$Exporter") (C := RX2) (T := TX2) (N := 13) (ci := 4) (v := .int v_12) B (by decide +kernel) rfl 6 (by decide) (by decide +kernel) rfl h_3 rfl dX2_isSampled_29 ?_
    refine z_sipush (v := 256) B dX2_isSampled_32 rfl ?_
    refine z_idiv B dX2_isSampled_35 (by decide) ?_
    refine z_fi (fun v_13 => ?_)
    refine z_aload_n B dX2_isSampled_36 rfl 0 rfl ?_
    refine z_get (ref := "FlowExporter$Exporter") (C := RX2) (T := TX2) (N := 13) (ci := 4) (v := .int v_2) B (by decide +kernel) rfl 5 (by decide) (by decide +kernel) rfl h_3 rfl dX2_isSampled_37 ?_
    refine z_irem B dX2_isSampled_40 (gt1_ne c_1) ?_
    refine z_fi (fun v_14 => ?_)
    refine z_if_ne (tgt := 48) B dX2_isSampled_41 rfl (fun c_2 => ?_) (fun c_2 => ?_)
    · refine z_iconst (v := 0) B dX2_isSampled_48 rfl ?_
      exact z_ret_z B dX2_isSampled_49 (by decide) ⟨⟨_, rfl, by decide⟩, rfl, hI1, (fun b9 h9 => ((fset_fr hΦ1 (fun h8 => h9 (80) h8 (show 80 = 80 by omega))).trans rfl))⟩
    · refine z_iconst (v := 1) B dX2_isSampled_44 rfl ?_
      refine z_goto (tgt := 49) B dX2_isSampled_45 rfl ?_
      exact z_ret_z B dX2_isSampled_49 (by decide) ⟨⟨_, rfl, by decide⟩, rfl, hI1, (fun b9 h9 => ((fset_fr hΦ1 (fun h8 => h9 (80) h8 (show 80 = 80 by omega))).trans rfl))⟩
  · refine z_iconst (v := 1) B dX2_isSampled_8 rfl ?_
    exact z_ret_z B dX2_isSampled_9 (by decide) ⟨⟨_, rfl, by decide⟩, rfl, hI, (fun b9 h9 => rfl)⟩

set_option maxHeartbeats 4000000 in
set_option maxRecDepth 100000 in
theorem s_X2_remember (G : EnvG) (l : Launch) (Φ : Hm) (sz x ca : Nat) (a : Int64) (b : Int32) (d : Int32) (hx : G.2.2.2 ≤ x) (hI : In G x ca Φ)  : Ct G l yX2_remember wsX2_remember ({ frames := 2, cells := 0, slots := 0, locals := 47 }) 0 0 [.ref (x + 80), .long a, .int b, .int d] Φ sz (fun v Φ1 sz1 => (v = none) ∧ sz1 = sz ∧ In G x (ca) Φ1 ∧ Fr x (fun j9 => 95 ≤ j9 ∧ j9 < 121) Φ Φ1) := by
  refine Ct.of (cc := cX2_remember) (maxL := 7) (ret := none) (by decide) rfl (Nat.le_of_ble_eq_true rfl) ?_
  intro p9 e9 s9 m9 w9 t9 k9 B
  show Z p9 l e9 _ s9 m9 _ w9 t9 k9 _ G 7 0 [(0, .ref (x + 80)), (1, .long a), (3, .int b), (4, .int d)] [] Φ sz 0 0
  refine z_aload_n B dX2_remember_0 rfl 0 rfl ?_
  obtain ⟨v_1, v_2, v_3, v_4, v_5, v_6, v_7, v_8, v_9, h_1, b_1⟩ := in16 (k := 80) hI rfl
  have h_2 : Φ (x + 80) = some (o_ 4 [.ref (x + 3), .ref (x + 74), .ref (x + 81), .ref (x + 95), .int v_1, .int v_2, .int v_3, .int v_4, .int v_5, .int v_6, .long v_7, .long v_8, .long v_9]) := h_1
  refine z_get (ref := "FlowExporter$Exporter") (C := RX2) (T := TX2) (N := 13) (ci := 4) (v := .ref (x + 95)) B (by decide +kernel) rfl 3 (by decide) (by decide +kernel) rfl h_2 rfl dX2_remember_1 ?_
  refine z_lload_n B dX2_remember_4 rfl 1 rfl ?_
  obtain ⟨n_1, h_3, b_2⟩ := in17 (k := 95) hI rfl
  replace b_2 : n_1 ≤ 24 := b_2
  have h_4 : Φ (x + 95) = some (o_ 6 [.ref (x + 96), .int (nI n_1)]) := h_3
  refine z_callV (As := [.long a]) (rest := []) B (s_X4_indexOf G l Φ sz x (ca) 95 a hx hI rfl) (cwV 1 B.1.2.2.2.2 gX2_remember_X4_indexOf rfl rfl rfl (by decide +kernel) ⟨Nat.le_of_ble_eq_true rfl, Nat.le_of_ble_eq_true rfl⟩) h_4 rfl rfl rfl rfl (Nat.le_of_ble_eq_true rfl) dX2_remember_5 ⟨Nat.le_of_ble_eq_true rfl, Nat.le_of_ble_eq_true rfl⟩ (fun r_1 Φ1 sz1 st1 hp1 hs1 => ?_)
  obtain ⟨⟨v_10, rfl⟩, hq1, hI1, hF1⟩ := hp1
  subst sz1
  replace hs1 : st1 = [.int v_10] := hs1
  subst st1
  replace hI1 : In G x (ca) Φ1 := hI1
  refine z_istore (lv' := [(5, .int v_10), (0, .ref (x + 80)), (1, .long a), (3, .int b), (4, .int d)]) B dX2_remember_8 (Nat.le_of_ble_eq_true rfl) rfl ?_
  refine z_iload B dX2_remember_10 0 rfl ?_
  refine z_iconst (v := (-1)) B dX2_remember_12 rfl ?_
  refine z_icmp_ne (tgt := 27) B dX2_remember_13 rfl (fun c_1 => ?_) (fun c_1 => ?_)
  · refine z_iload B dX2_remember_27 0 rfl ?_
    refine z_iconst (v := (-1)) B dX2_remember_29 rfl ?_
    refine z_icmp_ne (tgt := 48) B dX2_remember_30 rfl (fun c_2 => ?_) (fun c_2 => ?_)
    · refine z_aload_n B dX2_remember_48 rfl 1 rfl ?_
      have h_5 : Φ1 (x + 80) = some (o_ 4 [.ref (x + 3), .ref (x + 74), .ref (x + 81), .ref (x + 95), .int v_1, .int v_2, .int v_3, .int v_4, .int v_5, .int v_6, .long v_7, .long v_8, .long v_9]) := ((hF1 (x + 80) (fun j9 h8 h7 => (show False from h7).elim)).trans h_2)
      refine z_get (ref := "FlowExporter$Exporter") (C := RX2) (T := TX2) (N := 13) (ci := 4) (v := .ref (x + 95)) B (by decide +kernel) rfl 3 (by decide) (by decide +kernel) rfl h_5 rfl dX2_remember_49 ?_
      refine z_iload B dX2_remember_52 0 rfl ?_
      have h_6 : Φ1 (x + 95) = some (o_ 6 [.ref (x + 96), .int (nI n_1)]) := ((hF1 (x + 95) (fun j9 h8 h7 => (show False from h7).elim)).trans h_4)
      refine z_callV (As := [.int v_10]) (rest := []) B (s_X4_flowAt G l Φ1 sz x (ca) 95 v_10 hx hI1 rfl) (cwV 1 B.1.2.2.2.2 gX2_remember_X4_flowAt rfl rfl rfl (by decide +kernel) ⟨Nat.le_of_ble_eq_true rfl, Nat.le_of_ble_eq_true rfl⟩) h_6 rfl rfl rfl rfl (Nat.le_of_ble_eq_true rfl) dX2_remember_54 ⟨Nat.le_of_ble_eq_true rfl, Nat.le_of_ble_eq_true rfl⟩ (fun r_2 Φ2 sz2 st2 hp2 hs2 => ?_)
      obtain ⟨⟨m_1, hm_1, rfl⟩, hq2, hI2, hF2⟩ := hp2
      subst sz2
      replace hs2 : st2 = [.ref (x + (95 + 2 + m_1))] := hs2
      subst st2
      replace hI2 : In G x (ca) Φ2 := hI2
      replace hm_1 : m_1 < 24 := hm_1
      refine z_astore (lv' := [(6, .ref (x + (95 + 2 + m_1))), (5, .int v_10), (0, .ref (x + 80)), (1, .long a), (3, .int b), (4, .int d)]) B dX2_remember_57 (Nat.le_of_ble_eq_true rfl) rfl ?_
      refine z_aload B dX2_remember_59 0 rfl ?_
      refine z_dup B dX2_remember_61 rfl ?_
      obtain ⟨v_11, v_12, v_13, v_14, v_15, h_7⟩ := in19 (k := 95 + 2 + m_1) hI2 (kd_f (kd_r rfl) hm_1)
      have h_8 : Φ2 (x + (95 + 2 + m_1)) = some (o_ 5 [.long v_11, .long v_12, .long v_13, .int v_14, .int v_15]) := h_7
      refine z_get (ref := "FlowExporter$Flow") (C := RX3) (T := TX3) (N := 5) (ci := 5) (v := .long v_12) B (by decide +kernel) rfl 1 (by decide) (by decide +kernel) rfl h_8 rfl dX2_remember_62 ?_
      refine z_iload B dX2_remember_65 5 rfl ?_
      refine z_i2l (v := d.toInt64) B dX2_remember_67 rfl ?_
      refine z_fl (fun v_16 => ?_)
      refine z_ladd B dX2_remember_68 ?_
      refine z_fl (fun v_17 => ?_)
      refine z_put (ref := "FlowExporter$Flow") (C := RX3) (T := TX3) (N := 5) (ci := 5) (v := .long v_17) B (by decide +kernel) tyX3 tyX3_ok nmX3 rfl 1 (by decide) (by decide +kernel) rfl (Or.inl rfl) h_8 (by omega) rfl rfl (Nat.le_of_ble_eq_true rfl) dX2_remember_69 (fun Φ3 hΦ1 => ?_)
      have h_9 : Φ3 (x + (95 + 2 + m_1)) = some (o_ 5 [.long v_11, .long v_17, .long v_13, .int v_14, .int v_15]) := fset_at hΦ1
      have hI3 : In G x (ca) Φ3 := In.put (k := 95 + 2 + m_1) hI2 hΦ1 (ok19 (k := 95 + 2 + m_1) (kd_f (kd_r rfl) hm_1) ⟨v_11, v_17, v_13, v_14, v_15, rfl⟩)
      refine z_aload B dX2_remember_72 0 rfl ?_
      refine z_dup B dX2_remember_74 rfl ?_
      refine z_get (ref := "FlowExporter$Flow") (C := RX3) (T := TX3) (N := 5) (ci := 5) (v := .long v_13) B (by decide +kernel) rfl 2 (by decide) (by decide +kernel) rfl h_9 rfl dX2_remember_75 ?_
      refine z_iload B dX2_remember_78 5 rfl ?_
      refine z_i2l (v := d.toInt64) B dX2_remember_80 rfl ?_
      refine z_fl (fun v_18 => ?_)
      refine z_iload_n B dX2_remember_81 rfl 4 rfl ?_
      refine z_i2l (v := b.toInt64) B dX2_remember_82 rfl ?_
      refine z_fl (fun v_19 => ?_)
      refine z_lmul B dX2_remember_83 ?_
      refine z_fl (fun v_20 => ?_)
      refine z_ladd B dX2_remember_84 ?_
      refine z_fl (fun v_21 => ?_)
      refine z_put (ref := "FlowExporter$Flow") (C := RX3) (T := TX3) (N := 5) (ci := 5) (v := .long v_21) B (by decide +kernel) tyX3 tyX3_ok nmX3 rfl 2 (by decide) (by decide +kernel) rfl (Or.inl rfl) h_9 (by omega) rfl rfl (Nat.le_of_ble_eq_true rfl) dX2_remember_85 (fun Φ4 hΦ2 => ?_)
      have h_10 : Φ4 (x + (95 + 2 + m_1)) = some (o_ 5 [.long v_11, .long v_17, .long v_21, .int v_14, .int v_15]) := fset_at hΦ2
      have hI4 : In G x (ca) Φ4 := In.put (k := 95 + 2 + m_1) hI3 hΦ2 (ok19 (k := 95 + 2 + m_1) (kd_f (kd_r rfl) hm_1) ⟨v_11, v_17, v_21, v_14, v_15, rfl⟩)
      exact z_ret_v B dX2_remember_88 ⟨rfl, rfl, hI4, (fun b9 h9 => ((fset_fr hΦ2 (fun h8 => h9 (95 + 2 + m_1) h8 (show 95 ≤ (95 + 2 + m_1) ∧ (95 + 2 + m_1) < 121 by omega))).trans ((fset_fr hΦ1 (fun h8 => h9 (95 + 2 + m_1) h8 (show 95 ≤ (95 + 2 + m_1) ∧ (95 + 2 + m_1) < 121 by omega))).trans ((hF2 b9 (fun j9 h8 h7 => (show False from h7).elim)).trans ((hF1 b9 (fun j9 h8 h7 => (show False from h7).elim)).trans rfl)))))⟩
    · refine z_aload_n B dX2_remember_33 rfl 1 rfl ?_
      have h_11 : Φ1 (x + 80) = some (o_ 4 [.ref (x + 3), .ref (x + 74), .ref (x + 81), .ref (x + 95), .int v_1, .int v_2, .int v_3, .int v_4, .int v_5, .int v_6, .long v_7, .long v_8, .long v_9]) := ((hF1 (x + 80) (fun j9 h8 h7 => (show False from h7).elim)).trans h_2)
      refine z_get (ref := "FlowExporter$Exporter") (C := RX2) (T := TX2) (N := 13) (ci := 4) (v := .ref (x + 95)) B (by decide +kernel) rfl 3 (by decide) (by decide +kernel) rfl h_11 rfl dX2_remember_34 ?_
      refine z_lload_n B dX2_remember_37 rfl 2 rfl ?_
      refine z_aload_n B dX2_remember_38 rfl 1 rfl ?_
      refine z_get (ref := "FlowExporter$Exporter") (C := RX2) (T := TX2) (N := 13) (ci := 4) (v := .int v_1) B (by decide +kernel) rfl 4 (by decide) (by decide +kernel) rfl h_11 rfl dX2_remember_39 ?_
      have h_12 : Φ1 (x + 95) = some (o_ 6 [.ref (x + 96), .int (nI n_1)]) := ((hF1 (x + 95) (fun j9 h8 h7 => (show False from h7).elim)).trans h_4)
      refine z_callV (As := [.long a, .int v_1]) (rest := []) B (s_X4_addFlow G l Φ1 sz x (ca) 95 a v_1 hx hI1 rfl) (cwV 2 B.1.2.2.2.2 gX2_remember_X4_addFlow rfl rfl rfl (by decide +kernel) ⟨Nat.le_of_ble_eq_true rfl, Nat.le_of_ble_eq_true rfl⟩) h_12 rfl rfl rfl rfl (Nat.le_of_ble_eq_true rfl) dX2_remember_42 ⟨Nat.le_of_ble_eq_true rfl, Nat.le_of_ble_eq_true rfl⟩ (fun r_3 Φ5 sz3 st3 hp3 hs3 => ?_)
      obtain ⟨⟨m_2, hm_2, rfl⟩, hq3, hI5, hF3⟩ := hp3
      subst sz3
      replace hs3 : st3 = [.ref (x + (95 + 2 + m_2))] := hs3
      subst st3
      replace hI5 : In G x (ca) Φ5 := hI5
      replace hm_2 : m_2 < 24 := hm_2
      refine z_goto (tgt := 57) B dX2_remember_45 rfl ?_
      refine z_astore (lv' := [(6, .ref (x + (95 + 2 + m_2))), (5, .int v_10), (0, .ref (x + 80)), (1, .long a), (3, .int b), (4, .int d)]) B dX2_remember_57 (Nat.le_of_ble_eq_true rfl) rfl ?_
      refine z_aload B dX2_remember_59 0 rfl ?_
      refine z_dup B dX2_remember_61 rfl ?_
      obtain ⟨v_22, v_23, v_24, v_25, v_26, h_13⟩ := in19 (k := 95 + 2 + m_2) hI5 (kd_f (kd_r rfl) hm_2)
      have h_14 : Φ5 (x + (95 + 2 + m_2)) = some (o_ 5 [.long v_22, .long v_23, .long v_24, .int v_25, .int v_26]) := h_13
      refine z_get (ref := "FlowExporter$Flow") (C := RX3) (T := TX3) (N := 5) (ci := 5) (v := .long v_23) B (by decide +kernel) rfl 1 (by decide) (by decide +kernel) rfl h_14 rfl dX2_remember_62 ?_
      refine z_iload B dX2_remember_65 5 rfl ?_
      refine z_i2l (v := d.toInt64) B dX2_remember_67 rfl ?_
      refine z_fl (fun v_27 => ?_)
      refine z_ladd B dX2_remember_68 ?_
      refine z_fl (fun v_28 => ?_)
      refine z_put (ref := "FlowExporter$Flow") (C := RX3) (T := TX3) (N := 5) (ci := 5) (v := .long v_28) B (by decide +kernel) tyX3 tyX3_ok nmX3 rfl 1 (by decide) (by decide +kernel) rfl (Or.inl rfl) h_14 (by omega) rfl rfl (Nat.le_of_ble_eq_true rfl) dX2_remember_69 (fun Φ6 hΦ3 => ?_)
      have h_15 : Φ6 (x + (95 + 2 + m_2)) = some (o_ 5 [.long v_22, .long v_28, .long v_24, .int v_25, .int v_26]) := fset_at hΦ3
      have hI6 : In G x (ca) Φ6 := In.put (k := 95 + 2 + m_2) hI5 hΦ3 (ok19 (k := 95 + 2 + m_2) (kd_f (kd_r rfl) hm_2) ⟨v_22, v_28, v_24, v_25, v_26, rfl⟩)
      refine z_aload B dX2_remember_72 0 rfl ?_
      refine z_dup B dX2_remember_74 rfl ?_
      refine z_get (ref := "FlowExporter$Flow") (C := RX3) (T := TX3) (N := 5) (ci := 5) (v := .long v_24) B (by decide +kernel) rfl 2 (by decide) (by decide +kernel) rfl h_15 rfl dX2_remember_75 ?_
      refine z_iload B dX2_remember_78 5 rfl ?_
      refine z_i2l (v := d.toInt64) B dX2_remember_80 rfl ?_
      refine z_fl (fun v_29 => ?_)
      refine z_iload_n B dX2_remember_81 rfl 4 rfl ?_
      refine z_i2l (v := b.toInt64) B dX2_remember_82 rfl ?_
      refine z_fl (fun v_30 => ?_)
      refine z_lmul B dX2_remember_83 ?_
      refine z_fl (fun v_31 => ?_)
      refine z_ladd B dX2_remember_84 ?_
      refine z_fl (fun v_32 => ?_)
      refine z_put (ref := "FlowExporter$Flow") (C := RX3) (T := TX3) (N := 5) (ci := 5) (v := .long v_32) B (by decide +kernel) tyX3 tyX3_ok nmX3 rfl 2 (by decide) (by decide +kernel) rfl (Or.inl rfl) h_15 (by omega) rfl rfl (Nat.le_of_ble_eq_true rfl) dX2_remember_85 (fun Φ7 hΦ4 => ?_)
      have h_16 : Φ7 (x + (95 + 2 + m_2)) = some (o_ 5 [.long v_22, .long v_28, .long v_32, .int v_25, .int v_26]) := fset_at hΦ4
      have hI7 : In G x (ca) Φ7 := In.put (k := 95 + 2 + m_2) hI6 hΦ4 (ok19 (k := 95 + 2 + m_2) (kd_f (kd_r rfl) hm_2) ⟨v_22, v_28, v_32, v_25, v_26, rfl⟩)
      exact z_ret_v B dX2_remember_88 ⟨rfl, rfl, hI7, (fun b9 h9 => ((fset_fr hΦ4 (fun h8 => h9 (95 + 2 + m_2) h8 (show 95 ≤ (95 + 2 + m_2) ∧ (95 + 2 + m_2) < 121 by omega))).trans ((fset_fr hΦ3 (fun h8 => h9 (95 + 2 + m_2) h8 (show 95 ≤ (95 + 2 + m_2) ∧ (95 + 2 + m_2) < 121 by omega))).trans ((hF3 b9 (fun j9 h8 h7 => h9 j9 h8 (show 95 ≤ j9 ∧ j9 < 121 by have h6 : 95 ≤ j9 ∧ j9 < 95 + 2 + 24 := h7; omega))).trans ((hF1 b9 (fun j9 h8 h7 => (show False from h7).elim)).trans rfl)))))⟩
  · refine z_aload_n B dX2_remember_16 rfl 1 rfl ?_
    have h_17 : Φ1 (x + 80) = some (o_ 4 [.ref (x + 3), .ref (x + 74), .ref (x + 81), .ref (x + 95), .int v_1, .int v_2, .int v_3, .int v_4, .int v_5, .int v_6, .long v_7, .long v_8, .long v_9]) := ((hF1 (x + 80) (fun j9 h8 h7 => (show False from h7).elim)).trans h_2)
    refine z_get (ref := "FlowExporter$Exporter") (C := RX2) (T := TX2) (N := 13) (ci := 4) (v := .ref (x + 95)) B (by decide +kernel) rfl 3 (by decide) (by decide +kernel) rfl h_17 rfl dX2_remember_17 ?_
    have h_18 : Φ1 (x + 95) = some (o_ 6 [.ref (x + 96), .int (nI n_1)]) := ((hF1 (x + 95) (fun j9 h8 h7 => (show False from h7).elim)).trans h_4)
    refine z_callV (As := []) (rest := []) B (s_X4_isFull G l Φ1 sz x (ca) 95 hx hI1 rfl) (cwV 0 B.1.2.2.2.2 gX2_remember_X4_isFull rfl rfl rfl (by decide +kernel) ⟨Nat.le_of_ble_eq_true rfl, Nat.le_of_ble_eq_true rfl⟩) h_18 rfl rfl rfl rfl (Nat.le_of_ble_eq_true rfl) dX2_remember_20 ⟨Nat.le_of_ble_eq_true rfl, Nat.le_of_ble_eq_true rfl⟩ (fun r_4 Φ8 sz4 st4 hp4 hs4 => ?_)
    obtain ⟨⟨v_33, rfl, b_3⟩, hq4, hI8, hF4⟩ := hp4
    subst sz4
    replace hs4 : st4 = [.int v_33] := hs4
    subst st4
    replace hI8 : In G x (ca) Φ8 := hI8
    refine z_if_eq (tgt := 27) B dX2_remember_23 rfl (fun c_3 => ?_) (fun c_3 => ?_)
    · refine z_iload B dX2_remember_27 0 rfl ?_
      refine z_iconst (v := (-1)) B dX2_remember_29 rfl ?_
      refine z_icmp_ne (tgt := 48) B dX2_remember_30 rfl (fun c_4 => ?_) (fun c_4 => ?_)
      · refine z_aload_n B dX2_remember_48 rfl 1 rfl ?_
        have h_19 : Φ8 (x + 80) = some (o_ 4 [.ref (x + 3), .ref (x + 74), .ref (x + 81), .ref (x + 95), .int v_1, .int v_2, .int v_3, .int v_4, .int v_5, .int v_6, .long v_7, .long v_8, .long v_9]) := ((hF4 (x + 80) (fun j9 h8 h7 => (show False from h7).elim)).trans h_17)
        refine z_get (ref := "FlowExporter$Exporter") (C := RX2) (T := TX2) (N := 13) (ci := 4) (v := .ref (x + 95)) B (by decide +kernel) rfl 3 (by decide) (by decide +kernel) rfl h_19 rfl dX2_remember_49 ?_
        refine z_iload B dX2_remember_52 0 rfl ?_
        have h_20 : Φ8 (x + 95) = some (o_ 6 [.ref (x + 96), .int (nI n_1)]) := ((hF4 (x + 95) (fun j9 h8 h7 => (show False from h7).elim)).trans h_18)
        refine z_callV (As := [.int v_10]) (rest := []) B (s_X4_flowAt G l Φ8 sz x (ca) 95 v_10 hx hI8 rfl) (cwV 1 B.1.2.2.2.2 gX2_remember_X4_flowAt rfl rfl rfl (by decide +kernel) ⟨Nat.le_of_ble_eq_true rfl, Nat.le_of_ble_eq_true rfl⟩) h_20 rfl rfl rfl rfl (Nat.le_of_ble_eq_true rfl) dX2_remember_54 ⟨Nat.le_of_ble_eq_true rfl, Nat.le_of_ble_eq_true rfl⟩ (fun r_5 Φ9 sz5 st5 hp5 hs5 => ?_)
        obtain ⟨⟨m_3, hm_3, rfl⟩, hq5, hI9, hF5⟩ := hp5
        subst sz5
        replace hs5 : st5 = [.ref (x + (95 + 2 + m_3))] := hs5
        subst st5
        replace hI9 : In G x (ca) Φ9 := hI9
        replace hm_3 : m_3 < 24 := hm_3
        refine z_astore (lv' := [(6, .ref (x + (95 + 2 + m_3))), (5, .int v_10), (0, .ref (x + 80)), (1, .long a), (3, .int b), (4, .int d)]) B dX2_remember_57 (Nat.le_of_ble_eq_true rfl) rfl ?_
        refine z_aload B dX2_remember_59 0 rfl ?_
        refine z_dup B dX2_remember_61 rfl ?_
        obtain ⟨v_34, v_35, v_36, v_37, v_38, h_21⟩ := in19 (k := 95 + 2 + m_3) hI9 (kd_f (kd_r rfl) hm_3)
        have h_22 : Φ9 (x + (95 + 2 + m_3)) = some (o_ 5 [.long v_34, .long v_35, .long v_36, .int v_37, .int v_38]) := h_21
        refine z_get (ref := "FlowExporter$Flow") (C := RX3) (T := TX3) (N := 5) (ci := 5) (v := .long v_35) B (by decide +kernel) rfl 1 (by decide) (by decide +kernel) rfl h_22 rfl dX2_remember_62 ?_
        refine z_iload B dX2_remember_65 5 rfl ?_
        refine z_i2l (v := d.toInt64) B dX2_remember_67 rfl ?_
        refine z_fl (fun v_39 => ?_)
        refine z_ladd B dX2_remember_68 ?_
        refine z_fl (fun v_40 => ?_)
        refine z_put (ref := "FlowExporter$Flow") (C := RX3) (T := TX3) (N := 5) (ci := 5) (v := .long v_40) B (by decide +kernel) tyX3 tyX3_ok nmX3 rfl 1 (by decide) (by decide +kernel) rfl (Or.inl rfl) h_22 (by omega) rfl rfl (Nat.le_of_ble_eq_true rfl) dX2_remember_69 (fun Φ10 hΦ5 => ?_)
        have h_23 : Φ10 (x + (95 + 2 + m_3)) = some (o_ 5 [.long v_34, .long v_40, .long v_36, .int v_37, .int v_38]) := fset_at hΦ5
        have hI10 : In G x (ca) Φ10 := In.put (k := 95 + 2 + m_3) hI9 hΦ5 (ok19 (k := 95 + 2 + m_3) (kd_f (kd_r rfl) hm_3) ⟨v_34, v_40, v_36, v_37, v_38, rfl⟩)
        refine z_aload B dX2_remember_72 0 rfl ?_
        refine z_dup B dX2_remember_74 rfl ?_
        refine z_get (ref := "FlowExporter$Flow") (C := RX3) (T := TX3) (N := 5) (ci := 5) (v := .long v_36) B (by decide +kernel) rfl 2 (by decide) (by decide +kernel) rfl h_23 rfl dX2_remember_75 ?_
        refine z_iload B dX2_remember_78 5 rfl ?_
        refine z_i2l (v := d.toInt64) B dX2_remember_80 rfl ?_
        refine z_fl (fun v_41 => ?_)
        refine z_iload_n B dX2_remember_81 rfl 4 rfl ?_
        refine z_i2l (v := b.toInt64) B dX2_remember_82 rfl ?_
        refine z_fl (fun v_42 => ?_)
        refine z_lmul B dX2_remember_83 ?_
        refine z_fl (fun v_43 => ?_)
        refine z_ladd B dX2_remember_84 ?_
        refine z_fl (fun v_44 => ?_)
        refine z_put (ref := "FlowExporter$Flow") (C := RX3) (T := TX3) (N := 5) (ci := 5) (v := .long v_44) B (by decide +kernel) tyX3 tyX3_ok nmX3 rfl 2 (by decide) (by decide +kernel) rfl (Or.inl rfl) h_23 (by omega) rfl rfl (Nat.le_of_ble_eq_true rfl) dX2_remember_85 (fun Φ11 hΦ6 => ?_)
        have h_24 : Φ11 (x + (95 + 2 + m_3)) = some (o_ 5 [.long v_34, .long v_40, .long v_44, .int v_37, .int v_38]) := fset_at hΦ6
        have hI11 : In G x (ca) Φ11 := In.put (k := 95 + 2 + m_3) hI10 hΦ6 (ok19 (k := 95 + 2 + m_3) (kd_f (kd_r rfl) hm_3) ⟨v_34, v_40, v_44, v_37, v_38, rfl⟩)
        exact z_ret_v B dX2_remember_88 ⟨rfl, rfl, hI11, (fun b9 h9 => ((fset_fr hΦ6 (fun h8 => h9 (95 + 2 + m_3) h8 (show 95 ≤ (95 + 2 + m_3) ∧ (95 + 2 + m_3) < 121 by omega))).trans ((fset_fr hΦ5 (fun h8 => h9 (95 + 2 + m_3) h8 (show 95 ≤ (95 + 2 + m_3) ∧ (95 + 2 + m_3) < 121 by omega))).trans ((hF5 b9 (fun j9 h8 h7 => (show False from h7).elim)).trans ((hF4 b9 (fun j9 h8 h7 => (show False from h7).elim)).trans ((hF1 b9 (fun j9 h8 h7 => (show False from h7).elim)).trans rfl))))))⟩
      · refine z_aload_n B dX2_remember_33 rfl 1 rfl ?_
        have h_25 : Φ8 (x + 80) = some (o_ 4 [.ref (x + 3), .ref (x + 74), .ref (x + 81), .ref (x + 95), .int v_1, .int v_2, .int v_3, .int v_4, .int v_5, .int v_6, .long v_7, .long v_8, .long v_9]) := ((hF4 (x + 80) (fun j9 h8 h7 => (show False from h7).elim)).trans h_17)
        refine z_get (ref := "FlowExporter$Exporter") (C := RX2) (T := TX2) (N := 13) (ci := 4) (v := .ref (x + 95)) B (by decide +kernel) rfl 3 (by decide) (by decide +kernel) rfl h_25 rfl dX2_remember_34 ?_
        refine z_lload_n B dX2_remember_37 rfl 2 rfl ?_
        refine z_aload_n B dX2_remember_38 rfl 1 rfl ?_
        refine z_get (ref := "FlowExporter$Exporter") (C := RX2) (T := TX2) (N := 13) (ci := 4) (v := .int v_1) B (by decide +kernel) rfl 4 (by decide) (by decide +kernel) rfl h_25 rfl dX2_remember_39 ?_
        have h_26 : Φ8 (x + 95) = some (o_ 6 [.ref (x + 96), .int (nI n_1)]) := ((hF4 (x + 95) (fun j9 h8 h7 => (show False from h7).elim)).trans h_18)
        refine z_callV (As := [.long a, .int v_1]) (rest := []) B (s_X4_addFlow G l Φ8 sz x (ca) 95 a v_1 hx hI8 rfl) (cwV 2 B.1.2.2.2.2 gX2_remember_X4_addFlow rfl rfl rfl (by decide +kernel) ⟨Nat.le_of_ble_eq_true rfl, Nat.le_of_ble_eq_true rfl⟩) h_26 rfl rfl rfl rfl (Nat.le_of_ble_eq_true rfl) dX2_remember_42 ⟨Nat.le_of_ble_eq_true rfl, Nat.le_of_ble_eq_true rfl⟩ (fun r_6 Φ12 sz6 st6 hp6 hs6 => ?_)
        obtain ⟨⟨m_4, hm_4, rfl⟩, hq6, hI12, hF6⟩ := hp6
        subst sz6
        replace hs6 : st6 = [.ref (x + (95 + 2 + m_4))] := hs6
        subst st6
        replace hI12 : In G x (ca) Φ12 := hI12
        replace hm_4 : m_4 < 24 := hm_4
        refine z_goto (tgt := 57) B dX2_remember_45 rfl ?_
        refine z_astore (lv' := [(6, .ref (x + (95 + 2 + m_4))), (5, .int v_10), (0, .ref (x + 80)), (1, .long a), (3, .int b), (4, .int d)]) B dX2_remember_57 (Nat.le_of_ble_eq_true rfl) rfl ?_
        refine z_aload B dX2_remember_59 0 rfl ?_
        refine z_dup B dX2_remember_61 rfl ?_
        obtain ⟨v_45, v_46, v_47, v_48, v_49, h_27⟩ := in19 (k := 95 + 2 + m_4) hI12 (kd_f (kd_r rfl) hm_4)
        have h_28 : Φ12 (x + (95 + 2 + m_4)) = some (o_ 5 [.long v_45, .long v_46, .long v_47, .int v_48, .int v_49]) := h_27
        refine z_get (ref := "FlowExporter$Flow") (C := RX3) (T := TX3) (N := 5) (ci := 5) (v := .long v_46) B (by decide +kernel) rfl 1 (by decide) (by decide +kernel) rfl h_28 rfl dX2_remember_62 ?_
        refine z_iload B dX2_remember_65 5 rfl ?_
        refine z_i2l (v := d.toInt64) B dX2_remember_67 rfl ?_
        refine z_fl (fun v_50 => ?_)
        refine z_ladd B dX2_remember_68 ?_
        refine z_fl (fun v_51 => ?_)
        refine z_put (ref := "FlowExporter$Flow") (C := RX3) (T := TX3) (N := 5) (ci := 5) (v := .long v_51) B (by decide +kernel) tyX3 tyX3_ok nmX3 rfl 1 (by decide) (by decide +kernel) rfl (Or.inl rfl) h_28 (by omega) rfl rfl (Nat.le_of_ble_eq_true rfl) dX2_remember_69 (fun Φ13 hΦ7 => ?_)
        have h_29 : Φ13 (x + (95 + 2 + m_4)) = some (o_ 5 [.long v_45, .long v_51, .long v_47, .int v_48, .int v_49]) := fset_at hΦ7
        have hI13 : In G x (ca) Φ13 := In.put (k := 95 + 2 + m_4) hI12 hΦ7 (ok19 (k := 95 + 2 + m_4) (kd_f (kd_r rfl) hm_4) ⟨v_45, v_51, v_47, v_48, v_49, rfl⟩)
        refine z_aload B dX2_remember_72 0 rfl ?_
        refine z_dup B dX2_remember_74 rfl ?_
        refine z_get (ref := "FlowExporter$Flow") (C := RX3) (T := TX3) (N := 5) (ci := 5) (v := .long v_47) B (by decide +kernel) rfl 2 (by decide) (by decide +kernel) rfl h_29 rfl dX2_remember_75 ?_
        refine z_iload B dX2_remember_78 5 rfl ?_
        refine z_i2l (v := d.toInt64) B dX2_remember_80 rfl ?_
        refine z_fl (fun v_52 => ?_)
        refine z_iload_n B dX2_remember_81 rfl 4 rfl ?_
        refine z_i2l (v := b.toInt64) B dX2_remember_82 rfl ?_
        refine z_fl (fun v_53 => ?_)
        refine z_lmul B dX2_remember_83 ?_
        refine z_fl (fun v_54 => ?_)
        refine z_ladd B dX2_remember_84 ?_
        refine z_fl (fun v_55 => ?_)
        refine z_put (ref := "FlowExporter$Flow") (C := RX3) (T := TX3) (N := 5) (ci := 5) (v := .long v_55) B (by decide +kernel) tyX3 tyX3_ok nmX3 rfl 2 (by decide) (by decide +kernel) rfl (Or.inl rfl) h_29 (by omega) rfl rfl (Nat.le_of_ble_eq_true rfl) dX2_remember_85 (fun Φ14 hΦ8 => ?_)
        have h_30 : Φ14 (x + (95 + 2 + m_4)) = some (o_ 5 [.long v_45, .long v_51, .long v_55, .int v_48, .int v_49]) := fset_at hΦ8
        have hI14 : In G x (ca) Φ14 := In.put (k := 95 + 2 + m_4) hI13 hΦ8 (ok19 (k := 95 + 2 + m_4) (kd_f (kd_r rfl) hm_4) ⟨v_45, v_51, v_55, v_48, v_49, rfl⟩)
        exact z_ret_v B dX2_remember_88 ⟨rfl, rfl, hI14, (fun b9 h9 => ((fset_fr hΦ8 (fun h8 => h9 (95 + 2 + m_4) h8 (show 95 ≤ (95 + 2 + m_4) ∧ (95 + 2 + m_4) < 121 by omega))).trans ((fset_fr hΦ7 (fun h8 => h9 (95 + 2 + m_4) h8 (show 95 ≤ (95 + 2 + m_4) ∧ (95 + 2 + m_4) < 121 by omega))).trans ((hF6 b9 (fun j9 h8 h7 => h9 j9 h8 (show 95 ≤ j9 ∧ j9 < 121 by have h6 : 95 ≤ j9 ∧ j9 < 95 + 2 + 24 := h7; omega))).trans ((hF4 b9 (fun j9 h8 h7 => (show False from h7).elim)).trans ((hF1 b9 (fun j9 h8 h7 => (show False from h7).elim)).trans rfl))))))⟩
    · exact z_ret_v B dX2_remember_26 ⟨rfl, rfl, hI8, (fun b9 h9 => ((hF4 b9 (fun j9 h8 h7 => (show False from h7).elim)).trans ((hF1 b9 (fun j9 h8 h7 => (show False from h7).elim)).trans rfl)))⟩

set_option maxHeartbeats 4000000 in
set_option maxRecDepth 100000 in
theorem s_X2_trueValue (G : EnvG) (l : Launch) (Φ : Hm) (sz x ca : Nat) (a : Int64) (b : Int32) (hx : G.2.2.2 ≤ x) (hI : In G x ca Φ)  : Ct G l yX2_trueValue wsX2_trueValue ({ frames := 2, cells := 0, slots := 0, locals := 43 }) 0 0 [.ref (x + 80), .long a, .int b] Φ sz (fun v Φ1 sz1 => (∃ r9 : Int64, v = some (.long r9)) ∧ sz1 = sz ∧ In G x (ca) Φ1 ∧ Fr x (fun j9 => False) Φ Φ1) := by
  refine Ct.of (cc := cX2_trueValue) (maxL := 5) (ret := (some .long)) (by decide) rfl (Nat.le_of_ble_eq_true rfl) ?_
  intro p9 e9 s9 m9 w9 t9 k9 B
  show Z p9 l e9 _ s9 m9 _ w9 t9 k9 _ G 5 0 [(0, .ref (x + 80)), (1, .long a), (3, .int b)] [] Φ sz 0 0
  refine z_aload_n B dX2_trueValue_0 rfl 0 rfl ?_
  obtain ⟨v_1, v_2, v_3, v_4, v_5, v_6, v_7, v_8, v_9, h_1, b_1⟩ := in16 (k := 80) hI rfl
  have h_2 : Φ (x + 80) = some (o_ 4 [.ref (x + 3), .ref (x + 74), .ref (x + 81), .ref (x + 95), .int v_1, .int v_2, .int v_3, .int v_4, .int v_5, .int v_6, .long v_7, .long v_8, .long v_9]) := h_1
  refine z_get (ref := "FlowExporter$Exporter") (C := RX2) (T := TX2) (N := 13) (ci := 4) (v := .ref (x + 95)) B (by decide +kernel) rfl 3 (by decide) (by decide +kernel) rfl h_2 rfl dX2_trueValue_1 ?_
  refine z_lload_n B dX2_trueValue_4 rfl 1 rfl ?_
  obtain ⟨n_1, h_3, b_2⟩ := in17 (k := 95) hI rfl
  replace b_2 : n_1 ≤ 24 := b_2
  have h_4 : Φ (x + 95) = some (o_ 6 [.ref (x + 96), .int (nI n_1)]) := h_3
  refine z_callV (As := [.long a]) (rest := []) B (s_X4_indexOf G l Φ sz x (ca) 95 a hx hI rfl) (cwV 1 B.1.2.2.2.2 gX2_trueValue_X4_indexOf rfl rfl rfl (by decide +kernel) ⟨Nat.le_of_ble_eq_true rfl, Nat.le_of_ble_eq_true rfl⟩) h_4 rfl rfl rfl rfl (Nat.le_of_ble_eq_true rfl) dX2_trueValue_5 ⟨Nat.le_of_ble_eq_true rfl, Nat.le_of_ble_eq_true rfl⟩ (fun r_1 Φ1 sz1 st1 hp1 hs1 => ?_)
  obtain ⟨⟨v_10, rfl⟩, hq1, hI1, hF1⟩ := hp1
  subst sz1
  replace hs1 : st1 = [.int v_10] := hs1
  subst st1
  replace hI1 : In G x (ca) Φ1 := hI1
  refine z_istore (lv' := [(4, .int v_10), (0, .ref (x + 80)), (1, .long a), (3, .int b)]) B dX2_trueValue_8 (Nat.le_of_ble_eq_true rfl) rfl ?_
  refine z_iload B dX2_trueValue_10 0 rfl ?_
  refine z_iconst (v := (-1)) B dX2_trueValue_12 rfl ?_
  refine z_icmp_ne (tgt := 20) B dX2_trueValue_13 rfl (fun c_1 => ?_) (fun c_1 => ?_)
  · refine z_aload_n B dX2_trueValue_20 rfl 1 rfl ?_
    have h_5 : Φ1 (x + 80) = some (o_ 4 [.ref (x + 3), .ref (x + 74), .ref (x + 81), .ref (x + 95), .int v_1, .int v_2, .int v_3, .int v_4, .int v_5, .int v_6, .long v_7, .long v_8, .long v_9]) := ((hF1 (x + 80) (fun j9 h8 h7 => (show False from h7).elim)).trans h_2)
    refine z_get (ref := "FlowExporter$Exporter") (C := RX2) (T := TX2) (N := 13) (ci := 4) (v := .ref (x + 95)) B (by decide +kernel) rfl 3 (by decide) (by decide +kernel) rfl h_5 rfl dX2_trueValue_21 ?_
    refine z_iload B dX2_trueValue_24 0 rfl ?_
    have h_6 : Φ1 (x + 95) = some (o_ 6 [.ref (x + 96), .int (nI n_1)]) := ((hF1 (x + 95) (fun j9 h8 h7 => (show False from h7).elim)).trans h_4)
    refine z_callV (As := [.int v_10]) (rest := []) B (s_X4_flowAt G l Φ1 sz x (ca) 95 v_10 hx hI1 rfl) (cwV 1 B.1.2.2.2.2 gX2_trueValue_X4_flowAt rfl rfl rfl (by decide +kernel) ⟨Nat.le_of_ble_eq_true rfl, Nat.le_of_ble_eq_true rfl⟩) h_6 rfl rfl rfl rfl (Nat.le_of_ble_eq_true rfl) dX2_trueValue_26 ⟨Nat.le_of_ble_eq_true rfl, Nat.le_of_ble_eq_true rfl⟩ (fun r_2 Φ2 sz2 st2 hp2 hs2 => ?_)
    obtain ⟨⟨m_1, hm_1, rfl⟩, hq2, hI2, hF2⟩ := hp2
    subst sz2
    replace hs2 : st2 = [.ref (x + (95 + 2 + m_1))] := hs2
    subst st2
    replace hI2 : In G x (ca) Φ2 := hI2
    replace hm_1 : m_1 < 24 := hm_1
    refine z_iload_n B dX2_trueValue_29 rfl 3 rfl ?_
    refine z_if_ne (tgt := 37) B dX2_trueValue_30 rfl (fun c_2 => ?_) (fun c_2 => ?_)
    · refine z_iconst (v := 5) B dX2_trueValue_37 rfl ?_
      obtain ⟨v_11, v_12, v_13, v_14, v_15, h_7⟩ := in19 (k := 95 + 2 + m_1) hI2 (kd_f (kd_r rfl) hm_1)
      have h_8 : Φ2 (x + (95 + 2 + m_1)) = some (o_ 5 [.long v_11, .long v_12, .long v_13, .int v_14, .int v_15]) := h_7
      refine z_callV (As := [.int 5]) (rest := []) B (s_X3_value G l Φ2 sz x (ca) (95 + 2 + m_1) 5 hx hI2 (kd_f (kd_r rfl) hm_1)) (cwV 1 B.1.2.2.2.2 gX2_trueValue_X3_value rfl rfl rfl (by decide +kernel) ⟨Nat.le_of_ble_eq_true rfl, Nat.le_of_ble_eq_true rfl⟩) h_8 rfl rfl rfl rfl (Nat.le_of_ble_eq_true rfl) dX2_trueValue_38 ⟨Nat.le_of_ble_eq_true rfl, Nat.le_of_ble_eq_true rfl⟩ (fun r_3 Φ3 sz3 st3 hp3 hs3 => ?_)
      obtain ⟨⟨v_16, rfl⟩, hq3, hI3, hF3⟩ := hp3
      subst sz3
      replace hs3 : st3 = [.long v_16] := hs3
      subst st3
      replace hI3 : In G x (ca) Φ3 := hI3
      exact z_ret_l B dX2_trueValue_41 ⟨⟨_, rfl⟩, rfl, hI3, (fun b9 h9 => ((hF3 b9 (fun j9 h8 h7 => (show False from h7).elim)).trans ((hF2 b9 (fun j9 h8 h7 => (show False from h7).elim)).trans ((hF1 b9 (fun j9 h8 h7 => (show False from h7).elim)).trans rfl))))⟩
    · refine z_iconst (v := 4) B dX2_trueValue_33 rfl ?_
      refine z_goto (tgt := 38) B dX2_trueValue_34 rfl ?_
      obtain ⟨v_17, v_18, v_19, v_20, v_21, h_9⟩ := in19 (k := 95 + 2 + m_1) hI2 (kd_f (kd_r rfl) hm_1)
      have h_10 : Φ2 (x + (95 + 2 + m_1)) = some (o_ 5 [.long v_17, .long v_18, .long v_19, .int v_20, .int v_21]) := h_9
      refine z_callV (As := [.int 4]) (rest := []) B (s_X3_value G l Φ2 sz x (ca) (95 + 2 + m_1) 4 hx hI2 (kd_f (kd_r rfl) hm_1)) (cwV 1 B.1.2.2.2.2 gX2_trueValue_X3_value rfl rfl rfl (by decide +kernel) ⟨Nat.le_of_ble_eq_true rfl, Nat.le_of_ble_eq_true rfl⟩) h_10 rfl rfl rfl rfl (Nat.le_of_ble_eq_true rfl) dX2_trueValue_38 ⟨Nat.le_of_ble_eq_true rfl, Nat.le_of_ble_eq_true rfl⟩ (fun r_4 Φ4 sz4 st4 hp4 hs4 => ?_)
      obtain ⟨⟨v_22, rfl⟩, hq4, hI4, hF4⟩ := hp4
      subst sz4
      replace hs4 : st4 = [.long v_22] := hs4
      subst st4
      replace hI4 : In G x (ca) Φ4 := hI4
      exact z_ret_l B dX2_trueValue_41 ⟨⟨_, rfl⟩, rfl, hI4, (fun b9 h9 => ((hF4 b9 (fun j9 h8 h7 => (show False from h7).elim)).trans ((hF2 b9 (fun j9 h8 h7 => (show False from h7).elim)).trans ((hF1 b9 (fun j9 h8 h7 => (show False from h7).elim)).trans rfl))))⟩
  · refine z_lconst (v := 0) B dX2_trueValue_16 rfl ?_
    refine z_goto (tgt := 41) B dX2_trueValue_17 rfl ?_
    exact z_ret_l B dX2_trueValue_41 ⟨⟨_, rfl⟩, rfl, hI1, (fun b9 h9 => ((hF1 b9 (fun j9 h8 h7 => (show False from h7).elim)).trans rfl))⟩

set_option maxHeartbeats 4000000 in
set_option maxRecDepth 100000 in
theorem s_X2_bitsOfInverse (G : EnvG) (l : Launch) (Φ : Hm) (sz x ca : Nat) (a : Int32) (hx : G.2.2.2 ≤ x) (hI : In G x ca Φ)  : Ct G l yX2_bitsOfInverse wsX2_bitsOfInverse ({ frames := 0, cells := 0, slots := 0, locals := 0 }) 0 0 [.int a] Φ sz (fun v Φ1 sz1 => (∃ r9 : Int32, v = some (.int r9)) ∧ sz1 = sz ∧ In G x (ca) Φ1 ∧ Fr x (fun j9 => False) Φ Φ1) := by
  refine Ct.of (cc := cX2_bitsOfInverse) (maxL := 4) (ret := (some .int)) (by decide) rfl (Nat.le_of_ble_eq_true rfl) ?_
  intro p9 e9 s9 m9 w9 t9 k9 B
  show Z p9 l e9 _ s9 m9 _ w9 t9 k9 _ G 4 0 [(0, .int a)] [] Φ sz 0 0
  refine z_iload_n B dX2_bitsOfInverse_0 rfl 0 rfl ?_
  refine z_iconst (v := 1) B dX2_bitsOfInverse_1 rfl ?_
  refine z_icmp_ge (tgt := 7) B dX2_bitsOfInverse_2 rfl (fun c_1 => ?_) (fun c_1 => ?_)
  · obtain ⟨n_1, e_2, e_1, rfl⟩ := nI_ofge (c := 1) (by omega) (Int32.not_lt.mpr c_1)
    refine z_iconst (v := 0) B dX2_bitsOfInverse_7 rfl ?_
    refine z_istore_n (lv' := [(1, .int 0), (0, .int (nI n_1))]) B dX2_bitsOfInverse_8 rfl (Nat.le_of_ble_eq_true rfl) rfl ?_
    refine z_lv [0, 1] rfl ?_
    refine z_loop (α := Nat) (fun (a9 : Nat) Φi => In G x (ca) Φi ∧ Fr x (fun j9 => False) Φ Φi ∧ (a9 ≤ 30) ∧ True) (fun a9 => [(1, .int (nI a9)), (0, .int (nI n_1))]) (fun a9 => 30 - a9) ?_ (0) ⟨hI, fun _ _ => rfl, (show 0 ≤ 30 by omega), trivial⟩
    rintro i_1 Φl1 ⟨hI1, hF1, b_1, -⟩ ih1
    replace hI1 : In G x (ca) Φl1 := hI1
    replace b_1 : i_1 ≤ 30 := b_1
    show Z p9 l e9 _ s9 m9 _ w9 t9 k9 _ G 4 9 [(1, .int (nI i_1)), (0, .int (nI n_1))] [] Φl1 _ _ _
    refine z_iload_n B dX2_bitsOfInverse_9 rfl 0 rfl ?_
    refine z_bipush (v := 30) B dX2_bitsOfInverse_10 rfl ?_
    refine z_icmp_ge (tgt := 28) B dX2_bitsOfInverse_12 rfl (fun c_2 => ?_) (fun c_2 => ?_)
    · have e_3 : 30 ≤ i_1 := (nI_leI (a := 30) (b := i_1) (by omega) (by omega)).mp c_2
      refine z_lconst (v := 1) B dX2_bitsOfInverse_28 rfl ?_
      refine z_bipush (v := 23) B dX2_bitsOfInverse_29 rfl ?_
      refine z_iload_n B dX2_bitsOfInverse_31 rfl 0 rfl ?_
      refine z_iadd B dX2_bitsOfInverse_32 ?_
      refine z_top (st1 := [.int (nI (23 + i_1)), .long 1]) (congrArg (fun w9 : Int32 => ([.int w9, .long 1] : List Value)) (nI_add 23 i_1)) ?_
      refine z_lshl (v := 1 <<< ((nI (23 + i_1) : Int32).toInt64 &&& 63)) B dX2_bitsOfInverse_33 rfl ?_
      refine z_fl (fun v_1 => ?_)
      refine z_iload_n B dX2_bitsOfInverse_34 rfl 1 rfl ?_
      refine z_iconst (v := 2) B dX2_bitsOfInverse_35 rfl ?_
      refine z_idiv B dX2_bitsOfInverse_36 (by decide) ?_
      refine z_fi (fun v_2 => ?_)
      refine z_i2l (v := v_2.toInt64) B dX2_bitsOfInverse_37 rfl ?_
      refine z_fl (fun v_3 => ?_)
      refine z_ladd B dX2_bitsOfInverse_38 ?_
      refine z_fl (fun v_4 => ?_)
      refine z_iload_n B dX2_bitsOfInverse_39 rfl 1 rfl ?_
      refine z_i2l (v := (nI n_1).toInt64) B dX2_bitsOfInverse_40 rfl ?_
      refine z_ldiv B dX2_bitsOfInverse_41 (ge1_nel c_1) ?_
      refine z_lstore_n (lv' := [(2, .long (v_4 / ((nI n_1).toInt64))), (1, .int (nI i_1)), (0, .int (nI n_1))]) B dX2_bitsOfInverse_42 rfl (Nat.le_of_ble_eq_true rfl) rfl ?_
      refine z_bipush (v := 127) B dX2_bitsOfInverse_43 rfl ?_
      refine z_iload_n B dX2_bitsOfInverse_45 rfl 1 rfl ?_
      refine z_isub B dX2_bitsOfInverse_46 ?_
      refine z_fi (fun v_5 => ?_)
      refine z_bipush (v := 23) B dX2_bitsOfInverse_47 rfl ?_
      refine z_ishl B dX2_bitsOfInverse_49 ?_
      refine z_fi (fun v_6 => ?_)
      refine z_lload_n B dX2_bitsOfInverse_50 rfl 0 rfl ?_
      refine z_ldc2 (v := 8388608) B (by decide +kernel) dX2_bitsOfInverse_51 ?_
      refine z_lsub B dX2_bitsOfInverse_54 ?_
      refine z_fl (fun v_7 => ?_)
      refine z_l2i (v := v_7.toInt32) B dX2_bitsOfInverse_55 rfl ?_
      refine z_fi (fun v_8 => ?_)
      refine z_iadd B dX2_bitsOfInverse_56 ?_
      refine z_fi (fun v_9 => ?_)
      exact z_ret_i B dX2_bitsOfInverse_57 ⟨⟨_, rfl⟩, rfl, hI1, (fun b9 h9 => ((hF1 b9 (fun j9 h8 h7 => (show False from h7).elim)).trans rfl))⟩
    · have e_4 : ¬ (30 ≤ i_1) := fun h9 => c_2 ((nI_leI (a := 30) (b := i_1) (by omega) (by omega)).mpr h9)
      refine z_iconst (v := 1) B dX2_bitsOfInverse_15 rfl ?_
      refine z_iload_n B dX2_bitsOfInverse_16 rfl 0 rfl ?_
      refine z_ishl B dX2_bitsOfInverse_17 ?_
      refine z_fi (fun v_10 => ?_)
      refine z_iload_n B dX2_bitsOfInverse_18 rfl 1 rfl ?_
      refine z_icmp_ge (tgt := 28) B dX2_bitsOfInverse_19 rfl (fun c_3 => ?_) (fun c_3 => ?_)
      · obtain ⟨n_2, e_6, e_5, rfl⟩ := nI_ofge (c := n_1) (by omega) (Int32.not_lt.mpr c_3)
        refine z_lconst (v := 1) B dX2_bitsOfInverse_28 rfl ?_
        refine z_bipush (v := 23) B dX2_bitsOfInverse_29 rfl ?_
        refine z_iload_n B dX2_bitsOfInverse_31 rfl 0 rfl ?_
        refine z_iadd B dX2_bitsOfInverse_32 ?_
        refine z_top (st1 := [.int (nI (23 + i_1)), .long 1]) (congrArg (fun w9 : Int32 => ([.int w9, .long 1] : List Value)) (nI_add 23 i_1)) ?_
        refine z_lshl (v := 1 <<< ((nI (23 + i_1) : Int32).toInt64 &&& 63)) B dX2_bitsOfInverse_33 rfl ?_
        refine z_fl (fun v_11 => ?_)
        refine z_iload_n B dX2_bitsOfInverse_34 rfl 1 rfl ?_
        refine z_iconst (v := 2) B dX2_bitsOfInverse_35 rfl ?_
        refine z_idiv B dX2_bitsOfInverse_36 (by decide) ?_
        refine z_fi (fun v_12 => ?_)
        refine z_i2l (v := v_12.toInt64) B dX2_bitsOfInverse_37 rfl ?_
        refine z_fl (fun v_13 => ?_)
        refine z_ladd B dX2_bitsOfInverse_38 ?_
        refine z_fl (fun v_14 => ?_)
        refine z_iload_n B dX2_bitsOfInverse_39 rfl 1 rfl ?_
        refine z_i2l (v := (nI n_1).toInt64) B dX2_bitsOfInverse_40 rfl ?_
        refine z_ldiv B dX2_bitsOfInverse_41 (ge1_nel c_1) ?_
        refine z_lstore_n (lv' := [(2, .long (v_14 / ((nI n_1).toInt64))), (1, .int (nI i_1)), (0, .int (nI n_1))]) B dX2_bitsOfInverse_42 rfl (Nat.le_of_ble_eq_true rfl) rfl ?_
        refine z_bipush (v := 127) B dX2_bitsOfInverse_43 rfl ?_
        refine z_iload_n B dX2_bitsOfInverse_45 rfl 1 rfl ?_
        refine z_isub B dX2_bitsOfInverse_46 ?_
        refine z_fi (fun v_15 => ?_)
        refine z_bipush (v := 23) B dX2_bitsOfInverse_47 rfl ?_
        refine z_ishl B dX2_bitsOfInverse_49 ?_
        refine z_fi (fun v_16 => ?_)
        refine z_lload_n B dX2_bitsOfInverse_50 rfl 0 rfl ?_
        refine z_ldc2 (v := 8388608) B (by decide +kernel) dX2_bitsOfInverse_51 ?_
        refine z_lsub B dX2_bitsOfInverse_54 ?_
        refine z_fl (fun v_17 => ?_)
        refine z_l2i (v := v_17.toInt32) B dX2_bitsOfInverse_55 rfl ?_
        refine z_fi (fun v_18 => ?_)
        refine z_iadd B dX2_bitsOfInverse_56 ?_
        refine z_fi (fun v_19 => ?_)
        exact z_ret_i B dX2_bitsOfInverse_57 ⟨⟨_, rfl⟩, rfl, hI1, (fun b9 h9 => ((hF1 b9 (fun j9 h8 h7 => (show False from h7).elim)).trans rfl))⟩
      · refine z_iinc (k := 0) (v := nI (i_1 + 1)) (lv' := [(1, .int (nI (i_1 + 1))), (0, .int (nI n_1))]) B dX2_bitsOfInverse_22 rfl (nI_add i_1 1) (Nat.le_of_ble_eq_true rfl) rfl ?_
        refine z_goto (tgt := 9) B dX2_bitsOfInverse_25 rfl ?_
        refine z_lv [0, 1] rfl ?_
        exact ih1 (i_1 + 1) Φl1 (show 30 - (i_1 + 1) < 30 - i_1 by omega) ⟨hI1, (fun b9 h9 => ((hF1 b9 (fun j9 h8 h7 => (show False from h7).elim)).trans rfl)), (show (i_1 + 1) ≤ 30 by omega), trivial⟩
  · refine z_iconst (v := 0) B dX2_bitsOfInverse_5 rfl ?_
    exact z_ret_i B dX2_bitsOfInverse_6 ⟨⟨_, rfl⟩, rfl, hI, (fun b9 h9 => rfl)⟩

set_option maxHeartbeats 4000000 in
set_option maxRecDepth 100000 in
theorem s_X2_exportAt (G : EnvG) (l : Launch) (Φ : Hm) (sz x ca : Nat) (a : Int32) (hx : G.2.2.2 ≤ x) (hI : In G x ca Φ)  : Ct G l yX2_exportAt wsX2_exportAt ({ frames := 3, cells := 0, slots := 0, locals := 71 }) 0 0 [.ref (x + 80), .int a] Φ sz (fun v Φ1 sz1 => (v = none) ∧ sz1 = sz ∧ In G x (ca) Φ1 ∧ Fr x (fun j9 => 74 ≤ j9 ∧ j9 < 95) Φ Φ1) := by
  refine Ct.of (cc := cX2_exportAt) (maxL := 4) (ret := none) (by decide) rfl (Nat.le_of_ble_eq_true rfl) ?_
  intro p9 e9 s9 m9 w9 t9 k9 B
  show Z p9 l e9 _ s9 m9 _ w9 t9 k9 _ G 4 0 [(0, .ref (x + 80)), (1, .int a)] [] Φ sz 0 0
  refine z_aload_n B dX2_exportAt_0 rfl 0 rfl ?_
  obtain ⟨v_1, v_2, v_3, v_4, v_5, v_6, v_7, v_8, v_9, h_1, b_1⟩ := in16 (k := 80) hI rfl
  have h_2 : Φ (x + 80) = some (o_ 4 [.ref (x + 3), .ref (x + 74), .ref (x + 81), .ref (x + 95), .int v_1, .int v_2, .int v_3, .int v_4, .int v_5, .int v_6, .long v_7, .long v_8, .long v_9]) := h_1
  refine z_get (ref := "FlowExporter$Exporter") (C := RX2) (T := TX2) (N := 13) (ci := 4) (v := .ref (x + 81)) B (by decide +kernel) rfl 2 (by decide) (by decide +kernel) rfl h_2 rfl dX2_exportAt_1 ?_
  refine z_iload_n B dX2_exportAt_4 rfl 1 rfl ?_
  obtain ⟨n_1, h_3, b_2⟩ := in17 (k := 81) hI rfl
  replace b_2 : n_1 ≤ 12 := b_2
  have h_4 : Φ (x + 81) = some (o_ 6 [.ref (x + 82), .int (nI n_1)]) := h_3
  refine z_callV (As := [.int a]) (rest := []) B (s_X4_removeAt G l Φ sz x (ca) 81 a hx hI rfl) (cwV 1 B.1.2.2.2.2 gX2_exportAt_X4_removeAt rfl rfl rfl (by decide +kernel) ⟨Nat.le_of_ble_eq_true rfl, Nat.le_of_ble_eq_true rfl⟩) h_4 rfl rfl rfl rfl (Nat.le_of_ble_eq_true rfl) dX2_exportAt_5 ⟨Nat.le_of_ble_eq_true rfl, Nat.le_of_ble_eq_true rfl⟩ (fun r_1 Φ1 sz1 st1 hp1 hs1 => ?_)
  obtain ⟨⟨m_1, hm_1, rfl⟩, hq1, hI1, hF1⟩ := hp1
  subst sz1
  replace hs1 : st1 = [.ref (x + (81 + 2 + m_1))] := hs1
  subst st1
  replace hI1 : In G x (ca) Φ1 := hI1
  replace hm_1 : m_1 < 12 := hm_1
  refine z_astore_n (lv' := [(2, .ref (x + (81 + 2 + m_1))), (0, .ref (x + 80)), (1, .int a)]) B dX2_exportAt_8 rfl (Nat.le_of_ble_eq_true rfl) rfl ?_
  refine z_aload_n B dX2_exportAt_9 rfl 1 rfl ?_
  have h_5 : Φ1 (x + 80) = some (o_ 4 [.ref (x + 3), .ref (x + 74), .ref (x + 81), .ref (x + 95), .int v_1, .int v_2, .int v_3, .int v_4, .int v_5, .int v_6, .long v_7, .long v_8, .long v_9]) := ((hF1 (x + 80) (fun j9 h8 h7 => by have h6 : j9 = 81 ∨ j9 = 81 + 1 := h7; omega)).trans h_2)
  refine z_get (ref := "FlowExporter$Exporter") (C := RX2) (T := TX2) (N := 13) (ci := 4) (v := .ref (x + 3)) B (by decide +kernel) rfl 0 (by decide) (by decide +kernel) rfl h_5 rfl dX2_exportAt_10 ?_
  refine z_aload_n B dX2_exportAt_13 rfl 0 rfl ?_
  obtain ⟨v_10, v_11, v_12, v_13, v_14, h_6⟩ := in19 (k := 81 + 2 + m_1) hI1 (kd_f (kd_r rfl) hm_1)
  have h_7 : Φ1 (x + (81 + 2 + m_1)) = some (o_ 5 [.long v_10, .long v_11, .long v_12, .int v_13, .int v_14]) := h_6
  refine z_get (ref := "FlowExporter$Flow") (C := RX3) (T := TX3) (N := 5) (ci := 5) (v := .long v_10) B (by decide +kernel) rfl 0 (by decide) (by decide +kernel) rfl h_7 rfl dX2_exportAt_14 ?_
  refine z_iconst (v := 3) B dX2_exportAt_17 rfl ?_
  refine z_callS (As := [.long v_10, .int 3]) (rest := [.ref (x + 3)]) B (s_X3_partOf G l Φ1 sz x (ca) v_10 3 hx hI1 ) (va_cwS 2 B.1.2.2.2.2 gX2_exportAt_X3_partOf rfl rfl rfl (by decide +kernel) ⟨Nat.le_of_ble_eq_true rfl, Nat.le_of_ble_eq_true rfl⟩) rfl rfl (Nat.le_of_ble_eq_true rfl) dX2_exportAt_18 ⟨Nat.le_of_ble_eq_true rfl, Nat.le_of_ble_eq_true rfl⟩ (fun r_2 Φ2 sz2 st2 hp2 hs2 => ?_)
  obtain ⟨⟨v_15, rfl⟩, hq2, hI2, hF2⟩ := hp2
  subst sz2
  replace hs2 : st2 = [.int v_15, .ref (x + 3)] := hs2
  subst st2
  replace hI2 : In G x (ca) Φ2 := hI2
  obtain ⟨v_16, v_17, h_8⟩ := in3 (k := 3) hI2 rfl
  have h_9 : Φ2 (x + 3) = some (o_ 3 [.ref (x + 4), .ref (x + 5), .ref (x + 6), .ref (x + 7), .int v_16, .int v_17]) := h_8
  refine z_callV (As := [.int v_15]) (rest := []) B (s_X1_templateOf G l Φ2 sz x (ca) 3 v_15 hx hI2 rfl) (cwV 1 B.1.2.2.2.2 gX2_exportAt_X1_templateOf rfl rfl rfl (by decide +kernel) ⟨Nat.le_of_ble_eq_true rfl, Nat.le_of_ble_eq_true rfl⟩) h_9 rfl rfl rfl rfl (Nat.le_of_ble_eq_true rfl) dX2_exportAt_21 ⟨Nat.le_of_ble_eq_true rfl, Nat.le_of_ble_eq_true rfl⟩ (fun r_3 Φ3 sz3 st3 hp3 hs3 => ?_)
  obtain ⟨⟨v_18, rfl⟩, hq3, hI3, hF3⟩ := hp3
  subst sz3
  replace hs3 : st3 = [.int v_18] := hs3
  subst st3
  replace hI3 : In G x (ca) Φ3 := hI3
  refine z_istore_n (lv' := [(3, .int v_18), (2, .ref (x + (81 + 2 + m_1))), (0, .ref (x + 80)), (1, .int a)]) B dX2_exportAt_24 rfl (Nat.le_of_ble_eq_true rfl) rfl ?_
  refine z_aload_n B dX2_exportAt_25 rfl 2 rfl ?_
  refine z_dup B dX2_exportAt_26 rfl ?_
  have h_10 : Φ3 (x + 80) = some (o_ 4 [.ref (x + 3), .ref (x + 74), .ref (x + 81), .ref (x + 95), .int v_1, .int v_2, .int v_3, .int v_4, .int v_5, .int v_6, .long v_7, .long v_8, .long v_9]) := ((hF3 (x + 80) (fun j9 h8 h7 => (show False from h7).elim)).trans ((hF2 (x + 80) (fun j9 h8 h7 => (show False from h7).elim)).trans h_5))
  refine z_get (ref := "FlowExporter$Exporter") (C := RX2) (T := TX2) (N := 13) (ci := 4) (v := .int v_5) B (by decide +kernel) rfl 8 (by decide) (by decide +kernel) rfl h_10 rfl dX2_exportAt_27 ?_
  refine z_iconst (v := 1) B dX2_exportAt_30 rfl ?_
  refine z_iadd B dX2_exportAt_31 ?_
  refine z_fi (fun v_19 => ?_)
  refine z_put (ref := "FlowExporter$Exporter") (C := RX2) (T := TX2) (N := 13) (ci := 4) (v := .int v_19) B (by decide +kernel) tyX2 tyX2_ok nmX2 rfl 8 (by decide) (by decide +kernel) rfl (Or.inl rfl) h_10 (Nat.le_trans hx (Nat.le_add_right x 80)) rfl rfl (Nat.le_of_ble_eq_true rfl) dX2_exportAt_32 (fun Φ4 hΦ1 => ?_)
  have h_11 : Φ4 (x + 80) = some (o_ 4 [.ref (x + 3), .ref (x + 74), .ref (x + 81), .ref (x + 95), .int v_1, .int v_2, .int v_3, .int v_4, .int v_19, .int v_6, .long v_7, .long v_8, .long v_9]) := fset_at hΦ1
  have hI4 : In G x (ca) Φ4 := In.put (k := 80) hI3 hΦ1 (ok16 (k := 80) rfl ⟨v_1, v_2, v_3, v_4, v_19, v_6, v_7, v_8, v_9, rfl, b_1⟩)
  refine z_aload_n B dX2_exportAt_35 rfl 2 rfl ?_
  refine z_get (ref := "FlowExporter$Exporter") (C := RX2) (T := TX2) (N := 13) (ci := 4) (v := .ref (x + 3)) B (by decide +kernel) rfl 0 (by decide) (by decide +kernel) rfl h_11 rfl dX2_exportAt_36 ?_
  refine z_iload_n B dX2_exportAt_39 rfl 0 rfl ?_
  have h_12 : Φ4 (x + 3) = some (o_ 3 [.ref (x + 4), .ref (x + 5), .ref (x + 6), .ref (x + 7), .int v_16, .int v_17]) := ((fset_fr hΦ1 (ne_off (x := x) (i := 3) (j := 80) rfl)).trans ((hF3 (x + 3) (fun j9 h8 h7 => (show False from h7).elim)).trans h_9))
  refine z_callV (As := [.int v_18]) (rest := []) B (s_X1_effective G l Φ4 sz x (ca) 3 v_18 hx hI4 rfl) (cwV 1 B.1.2.2.2.2 gX2_exportAt_X1_effective rfl rfl rfl (by decide +kernel) ⟨Nat.le_of_ble_eq_true rfl, Nat.le_of_ble_eq_true rfl⟩) h_12 rfl rfl rfl rfl (Nat.le_of_ble_eq_true rfl) dX2_exportAt_40 ⟨Nat.le_of_ble_eq_true rfl, Nat.le_of_ble_eq_true rfl⟩ (fun r_4 Φ5 sz4 st4 hp4 hs4 => ?_)
  obtain ⟨⟨m_2, hm_2, rfl⟩, hq4, hI5, hF4⟩ := hp4
  subst sz4
  replace hs4 : st4 = [.ref (x + (3 + 7 + 4 * m_2))] := hs4
  subst st4
  replace hI5 : In G x (ca) Φ5 := hI5
  replace hm_2 : m_2 < 4 := hm_2
  obtain ⟨n_2, v_20, v_21, h_13, b_3⟩ := in8 (k := 3 + 7 + 4 * m_2) hI5 (kd_e (kd_s rfl).2.2.2 hm_2)
  have h_14 : Φ5 (x + (3 + 7 + 4 * m_2)) = some (o_ 12 [.ref (x + (3 + 7 + 4 * m_2 + 1)), .int (nI n_2), .int v_20, .int v_21]) := h_13
  refine z_get (ref := "FlowExporter$Template") (C := RX10) (T := TX10) (N := 4) (ci := 12) (v := .int (nI n_2)) B (by decide +kernel) rfl 1 (by decide) (by decide +kernel) rfl h_14 rfl dX2_exportAt_43 ?_
  refine z_if_ne (tgt := 62) B dX2_exportAt_46 rfl (fun c_1 => ?_) (fun c_1 => ?_)
  · have e_1 : ¬ (n_2 = 0) := fun h9 => c_1 ((nI_eq (a := n_2) (b := 0) (by omega) (by omega)).mpr h9)
    refine z_aload_n B dX2_exportAt_62 rfl 2 rfl ?_
    have h_15 : Φ5 (x + 80) = some (o_ 4 [.ref (x + 3), .ref (x + 74), .ref (x + 81), .ref (x + 95), .int v_1, .int v_2, .int v_3, .int v_4, .int v_19, .int v_6, .long v_7, .long v_8, .long v_9]) := ((hF4 (x + 80) (fun j9 h8 h7 => (show False from h7).elim)).trans h_11)
    refine z_get (ref := "FlowExporter$Exporter") (C := RX2) (T := TX2) (N := 13) (ci := 4) (v := .ref (x + 74)) B (by decide +kernel) rfl 1 (by decide) (by decide +kernel) rfl h_15 rfl dX2_exportAt_63 ?_
    refine z_aload_n B dX2_exportAt_66 rfl 1 rfl ?_
    refine z_iload_n B dX2_exportAt_67 rfl 0 rfl ?_
    refine z_aload_n B dX2_exportAt_68 rfl 2 rfl ?_
    refine z_get (ref := "FlowExporter$Exporter") (C := RX2) (T := TX2) (N := 13) (ci := 4) (v := .int v_2) B (by decide +kernel) rfl 5 (by decide) (by decide +kernel) rfl h_15 rfl dX2_exportAt_69 ?_
    refine z_callS (As := [.int v_2]) (rest := [.int v_18, .ref (x + (81 + 2 + m_1)), .ref (x + 74)]) B (s_X2_bitsOfInverse G l Φ5 sz x (ca) v_2 hx hI5 ) (va_cwS 1 B.1.2.2.2.2 gX2_exportAt_X2_bitsOfInverse rfl rfl rfl (by decide +kernel) ⟨Nat.le_of_ble_eq_true rfl, Nat.le_of_ble_eq_true rfl⟩) rfl rfl (Nat.le_of_ble_eq_true rfl) dX2_exportAt_72 ⟨Nat.le_of_ble_eq_true rfl, Nat.le_of_ble_eq_true rfl⟩ (fun r_5 Φ6 sz5 st5 hp5 hs5 => ?_)
    obtain ⟨⟨v_22, rfl⟩, hq5, hI6, hF5⟩ := hp5
    subst sz5
    replace hs5 : st5 = [.int v_22, .int v_18, .ref (x + (81 + 2 + m_1)), .ref (x + 74)] := hs5
    subst st5
    replace hI6 : In G x (ca) Φ6 := hI6
    obtain ⟨n_3, v_23, v_24, v_25, h_16, b_4⟩ := in13 (k := 74) hI6 rfl
    have h_17 : Φ6 (x + 74) = some (o_ 10 [.ref (x + 3), .ref (x + 46), .ref (x + 75), .ref (x + 77), .int (nI n_3), .ref (x + 78), .ref (x + 79), .int v_23, .long v_24, .int v_25]) := h_16
    refine z_callV (As := [.ref (x + (81 + 2 + m_1)), .int v_18, .int v_22]) (rest := []) B (s_X8_addRecord G l Φ6 sz x (ca) (81 + 2 + m_1) v_18 v_22 hx hI6 (kd_f (kd_r rfl) hm_1)) (cwV 3 B.1.2.2.2.2 gX2_exportAt_X8_addRecord rfl rfl rfl (by decide +kernel) ⟨Nat.le_of_ble_eq_true rfl, Nat.le_of_ble_eq_true rfl⟩) h_17 rfl rfl rfl rfl (Nat.le_of_ble_eq_true rfl) dX2_exportAt_75 ⟨Nat.le_of_ble_eq_true rfl, Nat.le_of_ble_eq_true rfl⟩ (fun r_6 Φ7 sz6 st6 hp6 hs6 => ?_)
    obtain ⟨rfl, hq6, hI7, hF6⟩ := hp6
    subst sz6
    replace hs6 : st6 = [] := hs6
    subst st6
    replace hI7 : In G x (ca) Φ7 := hI7
    exact z_ret_v B dX2_exportAt_78 ⟨rfl, rfl, hI7, (fun b9 h9 => ((hF6 b9 (fun j9 h8 h7 => h9 j9 h8 (show 74 ≤ j9 ∧ j9 < 95 by have h6 : 74 ≤ j9 ∧ j9 < 78 := h7; omega))).trans ((hF5 b9 (fun j9 h8 h7 => (show False from h7).elim)).trans ((hF4 b9 (fun j9 h8 h7 => (show False from h7).elim)).trans ((fset_fr hΦ1 (fun h8 => h9 (80) h8 (show 74 ≤ 80 ∧ 80 < 95 by omega))).trans ((hF3 b9 (fun j9 h8 h7 => (show False from h7).elim)).trans ((hF2 b9 (fun j9 h8 h7 => (show False from h7).elim)).trans ((hF1 b9 (fun j9 h8 h7 => h9 j9 h8 (show 74 ≤ j9 ∧ j9 < 95 by have h6 : j9 = 81 ∨ j9 = 81 + 1 := h7; omega))).trans rfl))))))))⟩
  · have e_2 : n_2 = 0 := (nI_eq (a := n_2) (b := 0) (by omega) (by omega)).mp c_1
    refine z_aload_n B dX2_exportAt_49 rfl 2 rfl ?_
    refine z_dup B dX2_exportAt_50 rfl ?_
    have h_18 : Φ5 (x + 80) = some (o_ 4 [.ref (x + 3), .ref (x + 74), .ref (x + 81), .ref (x + 95), .int v_1, .int v_2, .int v_3, .int v_4, .int v_19, .int v_6, .long v_7, .long v_8, .long v_9]) := ((hF4 (x + 80) (fun j9 h8 h7 => (show False from h7).elim)).trans h_11)
    refine z_get (ref := "FlowExporter$Exporter") (C := RX2) (T := TX2) (N := 13) (ci := 4) (v := .long v_9) B (by decide +kernel) rfl 12 (by decide) (by decide +kernel) rfl h_18 rfl dX2_exportAt_51 ?_
    refine z_lconst (v := 1) B dX2_exportAt_54 rfl ?_
    refine z_ladd B dX2_exportAt_55 ?_
    refine z_fl (fun v_26 => ?_)
    refine z_put (ref := "FlowExporter$Exporter") (C := RX2) (T := TX2) (N := 13) (ci := 4) (v := .long v_26) B (by decide +kernel) tyX2 tyX2_ok nmX2 rfl 12 (by decide) (by decide +kernel) rfl (Or.inl rfl) h_18 (Nat.le_trans hx (Nat.le_add_right x 80)) rfl rfl (Nat.le_of_ble_eq_true rfl) dX2_exportAt_56 (fun Φ8 hΦ2 => ?_)
    have h_19 : Φ8 (x + 80) = some (o_ 4 [.ref (x + 3), .ref (x + 74), .ref (x + 81), .ref (x + 95), .int v_1, .int v_2, .int v_3, .int v_4, .int v_19, .int v_6, .long v_7, .long v_8, .long v_26]) := fset_at hΦ2
    have hI8 : In G x (ca) Φ8 := In.put (k := 80) hI5 hΦ2 (ok16 (k := 80) rfl ⟨v_1, v_2, v_3, v_4, v_19, v_6, v_7, v_8, v_26, rfl, b_1⟩)
    refine z_goto (tgt := 78) B dX2_exportAt_59 rfl ?_
    exact z_ret_v B dX2_exportAt_78 ⟨rfl, rfl, hI8, (fun b9 h9 => ((fset_fr hΦ2 (fun h8 => h9 (80) h8 (show 74 ≤ 80 ∧ 80 < 95 by omega))).trans ((hF4 b9 (fun j9 h8 h7 => (show False from h7).elim)).trans ((fset_fr hΦ1 (fun h8 => h9 (80) h8 (show 74 ≤ 80 ∧ 80 < 95 by omega))).trans ((hF3 b9 (fun j9 h8 h7 => (show False from h7).elim)).trans ((hF2 b9 (fun j9 h8 h7 => (show False from h7).elim)).trans ((hF1 b9 (fun j9 h8 h7 => h9 j9 h8 (show 74 ≤ j9 ∧ j9 < 95 by have h6 : j9 = 81 ∨ j9 = 81 + 1 := h7; omega))).trans rfl)))))))⟩

set_option maxHeartbeats 4000000 in
set_option maxRecDepth 100000 in
theorem s_X2_addToFlow (G : EnvG) (l : Launch) (Φ : Hm) (sz x ca : Nat) (a : Int64) (b : Int32) (hx : G.2.2.2 ≤ x) (hI : In G x ca Φ)  : Ct G l yX2_addToFlow wsX2_addToFlow ({ frames := 4, cells := 0, slots := 0, locals := 94 }) 0 0 [.ref (x + 80), .long a, .int b] Φ sz (fun v Φ1 sz1 => (v = none) ∧ sz1 = sz ∧ In G x (ca) Φ1 ∧ Fr x (fun j9 => 74 ≤ j9 ∧ j9 < 95) Φ Φ1) := by
  refine Ct.of (cc := cX2_addToFlow) (maxL := 6) (ret := none) (by decide) rfl (Nat.le_of_ble_eq_true rfl) ?_
  intro p9 e9 s9 m9 w9 t9 k9 B
  show Z p9 l e9 _ s9 m9 _ w9 t9 k9 _ G 6 0 [(0, .ref (x + 80)), (1, .long a), (3, .int b)] [] Φ sz 0 0
  refine z_aload_n B dX2_addToFlow_0 rfl 0 rfl ?_
  obtain ⟨v_1, v_2, v_3, v_4, v_5, v_6, v_7, v_8, v_9, h_1, b_1⟩ := in16 (k := 80) hI rfl
  have h_2 : Φ (x + 80) = some (o_ 4 [.ref (x + 3), .ref (x + 74), .ref (x + 81), .ref (x + 95), .int v_1, .int v_2, .int v_3, .int v_4, .int v_5, .int v_6, .long v_7, .long v_8, .long v_9]) := h_1
  refine z_get (ref := "FlowExporter$Exporter") (C := RX2) (T := TX2) (N := 13) (ci := 4) (v := .ref (x + 81)) B (by decide +kernel) rfl 2 (by decide) (by decide +kernel) rfl h_2 rfl dX2_addToFlow_1 ?_
  refine z_lload_n B dX2_addToFlow_4 rfl 1 rfl ?_
  obtain ⟨n_1, h_3, b_2⟩ := in17 (k := 81) hI rfl
  replace b_2 : n_1 ≤ 12 := b_2
  have h_4 : Φ (x + 81) = some (o_ 6 [.ref (x + 82), .int (nI n_1)]) := h_3
  refine z_callV (As := [.long a]) (rest := []) B (s_X4_indexOf G l Φ sz x (ca) 81 a hx hI rfl) (cwV 1 B.1.2.2.2.2 gX2_addToFlow_X4_indexOf rfl rfl rfl (by decide +kernel) ⟨Nat.le_of_ble_eq_true rfl, Nat.le_of_ble_eq_true rfl⟩) h_4 rfl rfl rfl rfl (Nat.le_of_ble_eq_true rfl) dX2_addToFlow_5 ⟨Nat.le_of_ble_eq_true rfl, Nat.le_of_ble_eq_true rfl⟩ (fun r_1 Φ1 sz1 st1 hp1 hs1 => ?_)
  obtain ⟨⟨v_10, rfl⟩, hq1, hI1, hF1⟩ := hp1
  subst sz1
  replace hs1 : st1 = [.int v_10] := hs1
  subst st1
  replace hI1 : In G x (ca) Φ1 := hI1
  refine z_istore (lv' := [(4, .int v_10), (0, .ref (x + 80)), (1, .long a), (3, .int b)]) B dX2_addToFlow_8 (Nat.le_of_ble_eq_true rfl) rfl ?_
  refine z_iload B dX2_addToFlow_10 0 rfl ?_
  refine z_iconst (v := (-1)) B dX2_addToFlow_12 rfl ?_
  refine z_icmp_ne (tgt := 37) B dX2_addToFlow_13 rfl (fun c_1 => ?_) (fun c_1 => ?_)
  · refine z_iload B dX2_addToFlow_37 0 rfl ?_
    refine z_iconst (v := (-1)) B dX2_addToFlow_39 rfl ?_
    refine z_icmp_ne (tgt := 58) B dX2_addToFlow_40 rfl (fun c_2 => ?_) (fun c_2 => ?_)
    · refine z_aload_n B dX2_addToFlow_58 rfl 1 rfl ?_
      have h_5 : Φ1 (x + 80) = some (o_ 4 [.ref (x + 3), .ref (x + 74), .ref (x + 81), .ref (x + 95), .int v_1, .int v_2, .int v_3, .int v_4, .int v_5, .int v_6, .long v_7, .long v_8, .long v_9]) := ((hF1 (x + 80) (fun j9 h8 h7 => (show False from h7).elim)).trans h_2)
      refine z_get (ref := "FlowExporter$Exporter") (C := RX2) (T := TX2) (N := 13) (ci := 4) (v := .ref (x + 81)) B (by decide +kernel) rfl 2 (by decide) (by decide +kernel) rfl h_5 rfl dX2_addToFlow_59 ?_
      refine z_iload B dX2_addToFlow_62 0 rfl ?_
      have h_6 : Φ1 (x + 81) = some (o_ 6 [.ref (x + 82), .int (nI n_1)]) := ((hF1 (x + 81) (fun j9 h8 h7 => (show False from h7).elim)).trans h_4)
      refine z_callV (As := [.int v_10]) (rest := []) B (s_X4_flowAt G l Φ1 sz x (ca) 81 v_10 hx hI1 rfl) (cwV 1 B.1.2.2.2.2 gX2_addToFlow_X4_flowAt rfl rfl rfl (by decide +kernel) ⟨Nat.le_of_ble_eq_true rfl, Nat.le_of_ble_eq_true rfl⟩) h_6 rfl rfl rfl rfl (Nat.le_of_ble_eq_true rfl) dX2_addToFlow_64 ⟨Nat.le_of_ble_eq_true rfl, Nat.le_of_ble_eq_true rfl⟩ (fun r_2 Φ2 sz2 st2 hp2 hs2 => ?_)
      obtain ⟨⟨m_1, hm_1, rfl⟩, hq2, hI2, hF2⟩ := hp2
      subst sz2
      replace hs2 : st2 = [.ref (x + (81 + 2 + m_1))] := hs2
      subst st2
      replace hI2 : In G x (ca) Φ2 := hI2
      replace hm_1 : m_1 < 12 := hm_1
      refine z_astore (lv' := [(5, .ref (x + (81 + 2 + m_1))), (4, .int v_10), (0, .ref (x + 80)), (1, .long a), (3, .int b)]) B dX2_addToFlow_67 (Nat.le_of_ble_eq_true rfl) rfl ?_
      refine z_aload B dX2_addToFlow_69 0 rfl ?_
      refine z_dup B dX2_addToFlow_71 rfl ?_
      obtain ⟨v_11, v_12, v_13, v_14, v_15, h_7⟩ := in19 (k := 81 + 2 + m_1) hI2 (kd_f (kd_r rfl) hm_1)
      have h_8 : Φ2 (x + (81 + 2 + m_1)) = some (o_ 5 [.long v_11, .long v_12, .long v_13, .int v_14, .int v_15]) := h_7
      refine z_get (ref := "FlowExporter$Flow") (C := RX3) (T := TX3) (N := 5) (ci := 5) (v := .long v_12) B (by decide +kernel) rfl 1 (by decide) (by decide +kernel) rfl h_8 rfl dX2_addToFlow_72 ?_
      refine z_lconst (v := 1) B dX2_addToFlow_75 rfl ?_
      refine z_ladd B dX2_addToFlow_76 ?_
      refine z_fl (fun v_16 => ?_)
      refine z_put (ref := "FlowExporter$Flow") (C := RX3) (T := TX3) (N := 5) (ci := 5) (v := .long v_16) B (by decide +kernel) tyX3 tyX3_ok nmX3 rfl 1 (by decide) (by decide +kernel) rfl (Or.inl rfl) h_8 (by omega) rfl rfl (Nat.le_of_ble_eq_true rfl) dX2_addToFlow_77 (fun Φ3 hΦ1 => ?_)
      have h_9 : Φ3 (x + (81 + 2 + m_1)) = some (o_ 5 [.long v_11, .long v_16, .long v_13, .int v_14, .int v_15]) := fset_at hΦ1
      have hI3 : In G x (ca) Φ3 := In.put (k := 81 + 2 + m_1) hI2 hΦ1 (ok19 (k := 81 + 2 + m_1) (kd_f (kd_r rfl) hm_1) ⟨v_11, v_16, v_13, v_14, v_15, rfl⟩)
      refine z_aload B dX2_addToFlow_80 0 rfl ?_
      refine z_dup B dX2_addToFlow_82 rfl ?_
      refine z_get (ref := "FlowExporter$Flow") (C := RX3) (T := TX3) (N := 5) (ci := 5) (v := .long v_13) B (by decide +kernel) rfl 2 (by decide) (by decide +kernel) rfl h_9 rfl dX2_addToFlow_83 ?_
      refine z_iload_n B dX2_addToFlow_86 rfl 4 rfl ?_
      refine z_i2l (v := b.toInt64) B dX2_addToFlow_87 rfl ?_
      refine z_fl (fun v_17 => ?_)
      refine z_ladd B dX2_addToFlow_88 ?_
      refine z_fl (fun v_18 => ?_)
      refine z_put (ref := "FlowExporter$Flow") (C := RX3) (T := TX3) (N := 5) (ci := 5) (v := .long v_18) B (by decide +kernel) tyX3 tyX3_ok nmX3 rfl 2 (by decide) (by decide +kernel) rfl (Or.inl rfl) h_9 (by omega) rfl rfl (Nat.le_of_ble_eq_true rfl) dX2_addToFlow_89 (fun Φ4 hΦ2 => ?_)
      have h_10 : Φ4 (x + (81 + 2 + m_1)) = some (o_ 5 [.long v_11, .long v_16, .long v_18, .int v_14, .int v_15]) := fset_at hΦ2
      have hI4 : In G x (ca) Φ4 := In.put (k := 81 + 2 + m_1) hI3 hΦ2 (ok19 (k := 81 + 2 + m_1) (kd_f (kd_r rfl) hm_1) ⟨v_11, v_16, v_18, v_14, v_15, rfl⟩)
      refine z_aload B dX2_addToFlow_92 0 rfl ?_
      refine z_aload_n B dX2_addToFlow_94 rfl 2 rfl ?_
      have h_11 : Φ4 (x + 80) = some (o_ 4 [.ref (x + 3), .ref (x + 74), .ref (x + 81), .ref (x + 95), .int v_1, .int v_2, .int v_3, .int v_4, .int v_5, .int v_6, .long v_7, .long v_8, .long v_9]) := ((fset_fr hΦ2 (by omega)).trans ((fset_fr hΦ1 (by omega)).trans ((hF2 (x + 80) (fun j9 h8 h7 => (show False from h7).elim)).trans h_5)))
      refine z_get (ref := "FlowExporter$Exporter") (C := RX2) (T := TX2) (N := 13) (ci := 4) (v := .int v_1) B (by decide +kernel) rfl 4 (by decide) (by decide +kernel) rfl h_11 rfl dX2_addToFlow_95 ?_
      refine z_put (ref := "FlowExporter$Flow") (C := RX3) (T := TX3) (N := 5) (ci := 5) (v := .int v_1) B (by decide +kernel) tyX3 tyX3_ok nmX3 rfl 4 (by decide) (by decide +kernel) rfl (Or.inl rfl) h_10 (by omega) rfl rfl (Nat.le_of_ble_eq_true rfl) dX2_addToFlow_98 (fun Φ5 hΦ3 => ?_)
      have h_12 : Φ5 (x + (81 + 2 + m_1)) = some (o_ 5 [.long v_11, .long v_16, .long v_18, .int v_14, .int v_1]) := fset_at hΦ3
      have hI5 : In G x (ca) Φ5 := In.put (k := 81 + 2 + m_1) hI4 hΦ3 (ok19 (k := 81 + 2 + m_1) (kd_f (kd_r rfl) hm_1) ⟨v_11, v_16, v_18, v_14, v_1, rfl⟩)
      exact z_ret_v B dX2_addToFlow_101 ⟨rfl, rfl, hI5, (fun b9 h9 => ((fset_fr hΦ3 (fun h8 => h9 (81 + 2 + m_1) h8 (show 74 ≤ (81 + 2 + m_1) ∧ (81 + 2 + m_1) < 95 by omega))).trans ((fset_fr hΦ2 (fun h8 => h9 (81 + 2 + m_1) h8 (show 74 ≤ (81 + 2 + m_1) ∧ (81 + 2 + m_1) < 95 by omega))).trans ((fset_fr hΦ1 (fun h8 => h9 (81 + 2 + m_1) h8 (show 74 ≤ (81 + 2 + m_1) ∧ (81 + 2 + m_1) < 95 by omega))).trans ((hF2 b9 (fun j9 h8 h7 => (show False from h7).elim)).trans ((hF1 b9 (fun j9 h8 h7 => (show False from h7).elim)).trans rfl))))))⟩
    · refine z_aload_n B dX2_addToFlow_43 rfl 1 rfl ?_
      have h_13 : Φ1 (x + 80) = some (o_ 4 [.ref (x + 3), .ref (x + 74), .ref (x + 81), .ref (x + 95), .int v_1, .int v_2, .int v_3, .int v_4, .int v_5, .int v_6, .long v_7, .long v_8, .long v_9]) := ((hF1 (x + 80) (fun j9 h8 h7 => (show False from h7).elim)).trans h_2)
      refine z_get (ref := "FlowExporter$Exporter") (C := RX2) (T := TX2) (N := 13) (ci := 4) (v := .ref (x + 81)) B (by decide +kernel) rfl 2 (by decide) (by decide +kernel) rfl h_13 rfl dX2_addToFlow_44 ?_
      refine z_lload_n B dX2_addToFlow_47 rfl 2 rfl ?_
      refine z_aload_n B dX2_addToFlow_48 rfl 1 rfl ?_
      refine z_get (ref := "FlowExporter$Exporter") (C := RX2) (T := TX2) (N := 13) (ci := 4) (v := .int v_1) B (by decide +kernel) rfl 4 (by decide) (by decide +kernel) rfl h_13 rfl dX2_addToFlow_49 ?_
      have h_14 : Φ1 (x + 81) = some (o_ 6 [.ref (x + 82), .int (nI n_1)]) := ((hF1 (x + 81) (fun j9 h8 h7 => (show False from h7).elim)).trans h_4)
      refine z_callV (As := [.long a, .int v_1]) (rest := []) B (s_X4_addFlow G l Φ1 sz x (ca) 81 a v_1 hx hI1 rfl) (cwV 2 B.1.2.2.2.2 gX2_addToFlow_X4_addFlow rfl rfl rfl (by decide +kernel) ⟨Nat.le_of_ble_eq_true rfl, Nat.le_of_ble_eq_true rfl⟩) h_14 rfl rfl rfl rfl (Nat.le_of_ble_eq_true rfl) dX2_addToFlow_52 ⟨Nat.le_of_ble_eq_true rfl, Nat.le_of_ble_eq_true rfl⟩ (fun r_3 Φ6 sz3 st3 hp3 hs3 => ?_)
      obtain ⟨⟨m_2, hm_2, rfl⟩, hq3, hI6, hF3⟩ := hp3
      subst sz3
      replace hs3 : st3 = [.ref (x + (81 + 2 + m_2))] := hs3
      subst st3
      replace hI6 : In G x (ca) Φ6 := hI6
      replace hm_2 : m_2 < 12 := hm_2
      refine z_goto (tgt := 67) B dX2_addToFlow_55 rfl ?_
      refine z_astore (lv' := [(5, .ref (x + (81 + 2 + m_2))), (4, .int v_10), (0, .ref (x + 80)), (1, .long a), (3, .int b)]) B dX2_addToFlow_67 (Nat.le_of_ble_eq_true rfl) rfl ?_
      refine z_aload B dX2_addToFlow_69 0 rfl ?_
      refine z_dup B dX2_addToFlow_71 rfl ?_
      obtain ⟨v_19, v_20, v_21, v_22, v_23, h_15⟩ := in19 (k := 81 + 2 + m_2) hI6 (kd_f (kd_r rfl) hm_2)
      have h_16 : Φ6 (x + (81 + 2 + m_2)) = some (o_ 5 [.long v_19, .long v_20, .long v_21, .int v_22, .int v_23]) := h_15
      refine z_get (ref := "FlowExporter$Flow") (C := RX3) (T := TX3) (N := 5) (ci := 5) (v := .long v_20) B (by decide +kernel) rfl 1 (by decide) (by decide +kernel) rfl h_16 rfl dX2_addToFlow_72 ?_
      refine z_lconst (v := 1) B dX2_addToFlow_75 rfl ?_
      refine z_ladd B dX2_addToFlow_76 ?_
      refine z_fl (fun v_24 => ?_)
      refine z_put (ref := "FlowExporter$Flow") (C := RX3) (T := TX3) (N := 5) (ci := 5) (v := .long v_24) B (by decide +kernel) tyX3 tyX3_ok nmX3 rfl 1 (by decide) (by decide +kernel) rfl (Or.inl rfl) h_16 (by omega) rfl rfl (Nat.le_of_ble_eq_true rfl) dX2_addToFlow_77 (fun Φ7 hΦ4 => ?_)
      have h_17 : Φ7 (x + (81 + 2 + m_2)) = some (o_ 5 [.long v_19, .long v_24, .long v_21, .int v_22, .int v_23]) := fset_at hΦ4
      have hI7 : In G x (ca) Φ7 := In.put (k := 81 + 2 + m_2) hI6 hΦ4 (ok19 (k := 81 + 2 + m_2) (kd_f (kd_r rfl) hm_2) ⟨v_19, v_24, v_21, v_22, v_23, rfl⟩)
      refine z_aload B dX2_addToFlow_80 0 rfl ?_
      refine z_dup B dX2_addToFlow_82 rfl ?_
      refine z_get (ref := "FlowExporter$Flow") (C := RX3) (T := TX3) (N := 5) (ci := 5) (v := .long v_21) B (by decide +kernel) rfl 2 (by decide) (by decide +kernel) rfl h_17 rfl dX2_addToFlow_83 ?_
      refine z_iload_n B dX2_addToFlow_86 rfl 4 rfl ?_
      refine z_i2l (v := b.toInt64) B dX2_addToFlow_87 rfl ?_
      refine z_fl (fun v_25 => ?_)
      refine z_ladd B dX2_addToFlow_88 ?_
      refine z_fl (fun v_26 => ?_)
      refine z_put (ref := "FlowExporter$Flow") (C := RX3) (T := TX3) (N := 5) (ci := 5) (v := .long v_26) B (by decide +kernel) tyX3 tyX3_ok nmX3 rfl 2 (by decide) (by decide +kernel) rfl (Or.inl rfl) h_17 (by omega) rfl rfl (Nat.le_of_ble_eq_true rfl) dX2_addToFlow_89 (fun Φ8 hΦ5 => ?_)
      have h_18 : Φ8 (x + (81 + 2 + m_2)) = some (o_ 5 [.long v_19, .long v_24, .long v_26, .int v_22, .int v_23]) := fset_at hΦ5
      have hI8 : In G x (ca) Φ8 := In.put (k := 81 + 2 + m_2) hI7 hΦ5 (ok19 (k := 81 + 2 + m_2) (kd_f (kd_r rfl) hm_2) ⟨v_19, v_24, v_26, v_22, v_23, rfl⟩)
      refine z_aload B dX2_addToFlow_92 0 rfl ?_
      refine z_aload_n B dX2_addToFlow_94 rfl 2 rfl ?_
      have h_19 : Φ8 (x + 80) = some (o_ 4 [.ref (x + 3), .ref (x + 74), .ref (x + 81), .ref (x + 95), .int v_1, .int v_2, .int v_3, .int v_4, .int v_5, .int v_6, .long v_7, .long v_8, .long v_9]) := ((fset_fr hΦ5 (by omega)).trans ((fset_fr hΦ4 (by omega)).trans ((hF3 (x + 80) (fun j9 h8 h7 => by have h6 : 81 ≤ j9 ∧ j9 < 81 + 2 + 12 := h7; omega)).trans h_13)))
      refine z_get (ref := "FlowExporter$Exporter") (C := RX2) (T := TX2) (N := 13) (ci := 4) (v := .int v_1) B (by decide +kernel) rfl 4 (by decide) (by decide +kernel) rfl h_19 rfl dX2_addToFlow_95 ?_
      refine z_put (ref := "FlowExporter$Flow") (C := RX3) (T := TX3) (N := 5) (ci := 5) (v := .int v_1) B (by decide +kernel) tyX3 tyX3_ok nmX3 rfl 4 (by decide) (by decide +kernel) rfl (Or.inl rfl) h_18 (by omega) rfl rfl (Nat.le_of_ble_eq_true rfl) dX2_addToFlow_98 (fun Φ9 hΦ6 => ?_)
      have h_20 : Φ9 (x + (81 + 2 + m_2)) = some (o_ 5 [.long v_19, .long v_24, .long v_26, .int v_22, .int v_1]) := fset_at hΦ6
      have hI9 : In G x (ca) Φ9 := In.put (k := 81 + 2 + m_2) hI8 hΦ6 (ok19 (k := 81 + 2 + m_2) (kd_f (kd_r rfl) hm_2) ⟨v_19, v_24, v_26, v_22, v_1, rfl⟩)
      exact z_ret_v B dX2_addToFlow_101 ⟨rfl, rfl, hI9, (fun b9 h9 => ((fset_fr hΦ6 (fun h8 => h9 (81 + 2 + m_2) h8 (show 74 ≤ (81 + 2 + m_2) ∧ (81 + 2 + m_2) < 95 by omega))).trans ((fset_fr hΦ5 (fun h8 => h9 (81 + 2 + m_2) h8 (show 74 ≤ (81 + 2 + m_2) ∧ (81 + 2 + m_2) < 95 by omega))).trans ((fset_fr hΦ4 (fun h8 => h9 (81 + 2 + m_2) h8 (show 74 ≤ (81 + 2 + m_2) ∧ (81 + 2 + m_2) < 95 by omega))).trans ((hF3 b9 (fun j9 h8 h7 => h9 j9 h8 (show 74 ≤ j9 ∧ j9 < 95 by have h6 : 81 ≤ j9 ∧ j9 < 81 + 2 + 12 := h7; omega))).trans ((hF1 b9 (fun j9 h8 h7 => (show False from h7).elim)).trans rfl))))))⟩
  · refine z_aload_n B dX2_addToFlow_16 rfl 1 rfl ?_
    have h_21 : Φ1 (x + 80) = some (o_ 4 [.ref (x + 3), .ref (x + 74), .ref (x + 81), .ref (x + 95), .int v_1, .int v_2, .int v_3, .int v_4, .int v_5, .int v_6, .long v_7, .long v_8, .long v_9]) := ((hF1 (x + 80) (fun j9 h8 h7 => (show False from h7).elim)).trans h_2)
    refine z_get (ref := "FlowExporter$Exporter") (C := RX2) (T := TX2) (N := 13) (ci := 4) (v := .ref (x + 81)) B (by decide +kernel) rfl 2 (by decide) (by decide +kernel) rfl h_21 rfl dX2_addToFlow_17 ?_
    have h_22 : Φ1 (x + 81) = some (o_ 6 [.ref (x + 82), .int (nI n_1)]) := ((hF1 (x + 81) (fun j9 h8 h7 => (show False from h7).elim)).trans h_4)
    refine z_callV (As := []) (rest := []) B (s_X4_isFull G l Φ1 sz x (ca) 81 hx hI1 rfl) (cwV 0 B.1.2.2.2.2 gX2_addToFlow_X4_isFull rfl rfl rfl (by decide +kernel) ⟨Nat.le_of_ble_eq_true rfl, Nat.le_of_ble_eq_true rfl⟩) h_22 rfl rfl rfl rfl (Nat.le_of_ble_eq_true rfl) dX2_addToFlow_20 ⟨Nat.le_of_ble_eq_true rfl, Nat.le_of_ble_eq_true rfl⟩ (fun r_4 Φ10 sz4 st4 hp4 hs4 => ?_)
    obtain ⟨⟨v_27, rfl, b_3⟩, hq4, hI10, hF4⟩ := hp4
    subst sz4
    replace hs4 : st4 = [.int v_27] := hs4
    subst st4
    replace hI10 : In G x (ca) Φ10 := hI10
    refine z_if_eq (tgt := 37) B dX2_addToFlow_23 rfl (fun c_3 => ?_) (fun c_3 => ?_)
    · refine z_iload B dX2_addToFlow_37 0 rfl ?_
      refine z_iconst (v := (-1)) B dX2_addToFlow_39 rfl ?_
      refine z_icmp_ne (tgt := 58) B dX2_addToFlow_40 rfl (fun c_4 => ?_) (fun c_4 => ?_)
      · refine z_aload_n B dX2_addToFlow_58 rfl 1 rfl ?_
        have h_23 : Φ10 (x + 80) = some (o_ 4 [.ref (x + 3), .ref (x + 74), .ref (x + 81), .ref (x + 95), .int v_1, .int v_2, .int v_3, .int v_4, .int v_5, .int v_6, .long v_7, .long v_8, .long v_9]) := ((hF4 (x + 80) (fun j9 h8 h7 => (show False from h7).elim)).trans h_21)
        refine z_get (ref := "FlowExporter$Exporter") (C := RX2) (T := TX2) (N := 13) (ci := 4) (v := .ref (x + 81)) B (by decide +kernel) rfl 2 (by decide) (by decide +kernel) rfl h_23 rfl dX2_addToFlow_59 ?_
        refine z_iload B dX2_addToFlow_62 0 rfl ?_
        have h_24 : Φ10 (x + 81) = some (o_ 6 [.ref (x + 82), .int (nI n_1)]) := ((hF4 (x + 81) (fun j9 h8 h7 => (show False from h7).elim)).trans h_22)
        refine z_callV (As := [.int v_10]) (rest := []) B (s_X4_flowAt G l Φ10 sz x (ca) 81 v_10 hx hI10 rfl) (cwV 1 B.1.2.2.2.2 gX2_addToFlow_X4_flowAt rfl rfl rfl (by decide +kernel) ⟨Nat.le_of_ble_eq_true rfl, Nat.le_of_ble_eq_true rfl⟩) h_24 rfl rfl rfl rfl (Nat.le_of_ble_eq_true rfl) dX2_addToFlow_64 ⟨Nat.le_of_ble_eq_true rfl, Nat.le_of_ble_eq_true rfl⟩ (fun r_5 Φ11 sz5 st5 hp5 hs5 => ?_)
        obtain ⟨⟨m_3, hm_3, rfl⟩, hq5, hI11, hF5⟩ := hp5
        subst sz5
        replace hs5 : st5 = [.ref (x + (81 + 2 + m_3))] := hs5
        subst st5
        replace hI11 : In G x (ca) Φ11 := hI11
        replace hm_3 : m_3 < 12 := hm_3
        refine z_astore (lv' := [(5, .ref (x + (81 + 2 + m_3))), (4, .int v_10), (0, .ref (x + 80)), (1, .long a), (3, .int b)]) B dX2_addToFlow_67 (Nat.le_of_ble_eq_true rfl) rfl ?_
        refine z_aload B dX2_addToFlow_69 0 rfl ?_
        refine z_dup B dX2_addToFlow_71 rfl ?_
        obtain ⟨v_28, v_29, v_30, v_31, v_32, h_25⟩ := in19 (k := 81 + 2 + m_3) hI11 (kd_f (kd_r rfl) hm_3)
        have h_26 : Φ11 (x + (81 + 2 + m_3)) = some (o_ 5 [.long v_28, .long v_29, .long v_30, .int v_31, .int v_32]) := h_25
        refine z_get (ref := "FlowExporter$Flow") (C := RX3) (T := TX3) (N := 5) (ci := 5) (v := .long v_29) B (by decide +kernel) rfl 1 (by decide) (by decide +kernel) rfl h_26 rfl dX2_addToFlow_72 ?_
        refine z_lconst (v := 1) B dX2_addToFlow_75 rfl ?_
        refine z_ladd B dX2_addToFlow_76 ?_
        refine z_fl (fun v_33 => ?_)
        refine z_put (ref := "FlowExporter$Flow") (C := RX3) (T := TX3) (N := 5) (ci := 5) (v := .long v_33) B (by decide +kernel) tyX3 tyX3_ok nmX3 rfl 1 (by decide) (by decide +kernel) rfl (Or.inl rfl) h_26 (by omega) rfl rfl (Nat.le_of_ble_eq_true rfl) dX2_addToFlow_77 (fun Φ12 hΦ7 => ?_)
        have h_27 : Φ12 (x + (81 + 2 + m_3)) = some (o_ 5 [.long v_28, .long v_33, .long v_30, .int v_31, .int v_32]) := fset_at hΦ7
        have hI12 : In G x (ca) Φ12 := In.put (k := 81 + 2 + m_3) hI11 hΦ7 (ok19 (k := 81 + 2 + m_3) (kd_f (kd_r rfl) hm_3) ⟨v_28, v_33, v_30, v_31, v_32, rfl⟩)
        refine z_aload B dX2_addToFlow_80 0 rfl ?_
        refine z_dup B dX2_addToFlow_82 rfl ?_
        refine z_get (ref := "FlowExporter$Flow") (C := RX3) (T := TX3) (N := 5) (ci := 5) (v := .long v_30) B (by decide +kernel) rfl 2 (by decide) (by decide +kernel) rfl h_27 rfl dX2_addToFlow_83 ?_
        refine z_iload_n B dX2_addToFlow_86 rfl 4 rfl ?_
        refine z_i2l (v := b.toInt64) B dX2_addToFlow_87 rfl ?_
        refine z_fl (fun v_34 => ?_)
        refine z_ladd B dX2_addToFlow_88 ?_
        refine z_fl (fun v_35 => ?_)
        refine z_put (ref := "FlowExporter$Flow") (C := RX3) (T := TX3) (N := 5) (ci := 5) (v := .long v_35) B (by decide +kernel) tyX3 tyX3_ok nmX3 rfl 2 (by decide) (by decide +kernel) rfl (Or.inl rfl) h_27 (by omega) rfl rfl (Nat.le_of_ble_eq_true rfl) dX2_addToFlow_89 (fun Φ13 hΦ8 => ?_)
        have h_28 : Φ13 (x + (81 + 2 + m_3)) = some (o_ 5 [.long v_28, .long v_33, .long v_35, .int v_31, .int v_32]) := fset_at hΦ8
        have hI13 : In G x (ca) Φ13 := In.put (k := 81 + 2 + m_3) hI12 hΦ8 (ok19 (k := 81 + 2 + m_3) (kd_f (kd_r rfl) hm_3) ⟨v_28, v_33, v_35, v_31, v_32, rfl⟩)
        refine z_aload B dX2_addToFlow_92 0 rfl ?_
        refine z_aload_n B dX2_addToFlow_94 rfl 2 rfl ?_
        have h_29 : Φ13 (x + 80) = some (o_ 4 [.ref (x + 3), .ref (x + 74), .ref (x + 81), .ref (x + 95), .int v_1, .int v_2, .int v_3, .int v_4, .int v_5, .int v_6, .long v_7, .long v_8, .long v_9]) := ((fset_fr hΦ8 (by omega)).trans ((fset_fr hΦ7 (by omega)).trans ((hF5 (x + 80) (fun j9 h8 h7 => (show False from h7).elim)).trans h_23)))
        refine z_get (ref := "FlowExporter$Exporter") (C := RX2) (T := TX2) (N := 13) (ci := 4) (v := .int v_1) B (by decide +kernel) rfl 4 (by decide) (by decide +kernel) rfl h_29 rfl dX2_addToFlow_95 ?_
        refine z_put (ref := "FlowExporter$Flow") (C := RX3) (T := TX3) (N := 5) (ci := 5) (v := .int v_1) B (by decide +kernel) tyX3 tyX3_ok nmX3 rfl 4 (by decide) (by decide +kernel) rfl (Or.inl rfl) h_28 (by omega) rfl rfl (Nat.le_of_ble_eq_true rfl) dX2_addToFlow_98 (fun Φ14 hΦ9 => ?_)
        have h_30 : Φ14 (x + (81 + 2 + m_3)) = some (o_ 5 [.long v_28, .long v_33, .long v_35, .int v_31, .int v_1]) := fset_at hΦ9
        have hI14 : In G x (ca) Φ14 := In.put (k := 81 + 2 + m_3) hI13 hΦ9 (ok19 (k := 81 + 2 + m_3) (kd_f (kd_r rfl) hm_3) ⟨v_28, v_33, v_35, v_31, v_1, rfl⟩)
        exact z_ret_v B dX2_addToFlow_101 ⟨rfl, rfl, hI14, (fun b9 h9 => ((fset_fr hΦ9 (fun h8 => h9 (81 + 2 + m_3) h8 (show 74 ≤ (81 + 2 + m_3) ∧ (81 + 2 + m_3) < 95 by omega))).trans ((fset_fr hΦ8 (fun h8 => h9 (81 + 2 + m_3) h8 (show 74 ≤ (81 + 2 + m_3) ∧ (81 + 2 + m_3) < 95 by omega))).trans ((fset_fr hΦ7 (fun h8 => h9 (81 + 2 + m_3) h8 (show 74 ≤ (81 + 2 + m_3) ∧ (81 + 2 + m_3) < 95 by omega))).trans ((hF5 b9 (fun j9 h8 h7 => (show False from h7).elim)).trans ((hF4 b9 (fun j9 h8 h7 => (show False from h7).elim)).trans ((hF1 b9 (fun j9 h8 h7 => (show False from h7).elim)).trans rfl)))))))⟩
      · refine z_aload_n B dX2_addToFlow_43 rfl 1 rfl ?_
        have h_31 : Φ10 (x + 80) = some (o_ 4 [.ref (x + 3), .ref (x + 74), .ref (x + 81), .ref (x + 95), .int v_1, .int v_2, .int v_3, .int v_4, .int v_5, .int v_6, .long v_7, .long v_8, .long v_9]) := ((hF4 (x + 80) (fun j9 h8 h7 => (show False from h7).elim)).trans h_21)
        refine z_get (ref := "FlowExporter$Exporter") (C := RX2) (T := TX2) (N := 13) (ci := 4) (v := .ref (x + 81)) B (by decide +kernel) rfl 2 (by decide) (by decide +kernel) rfl h_31 rfl dX2_addToFlow_44 ?_
        refine z_lload_n B dX2_addToFlow_47 rfl 2 rfl ?_
        refine z_aload_n B dX2_addToFlow_48 rfl 1 rfl ?_
        refine z_get (ref := "FlowExporter$Exporter") (C := RX2) (T := TX2) (N := 13) (ci := 4) (v := .int v_1) B (by decide +kernel) rfl 4 (by decide) (by decide +kernel) rfl h_31 rfl dX2_addToFlow_49 ?_
        have h_32 : Φ10 (x + 81) = some (o_ 6 [.ref (x + 82), .int (nI n_1)]) := ((hF4 (x + 81) (fun j9 h8 h7 => (show False from h7).elim)).trans h_22)
        refine z_callV (As := [.long a, .int v_1]) (rest := []) B (s_X4_addFlow G l Φ10 sz x (ca) 81 a v_1 hx hI10 rfl) (cwV 2 B.1.2.2.2.2 gX2_addToFlow_X4_addFlow rfl rfl rfl (by decide +kernel) ⟨Nat.le_of_ble_eq_true rfl, Nat.le_of_ble_eq_true rfl⟩) h_32 rfl rfl rfl rfl (Nat.le_of_ble_eq_true rfl) dX2_addToFlow_52 ⟨Nat.le_of_ble_eq_true rfl, Nat.le_of_ble_eq_true rfl⟩ (fun r_6 Φ15 sz6 st6 hp6 hs6 => ?_)
        obtain ⟨⟨m_4, hm_4, rfl⟩, hq6, hI15, hF6⟩ := hp6
        subst sz6
        replace hs6 : st6 = [.ref (x + (81 + 2 + m_4))] := hs6
        subst st6
        replace hI15 : In G x (ca) Φ15 := hI15
        replace hm_4 : m_4 < 12 := hm_4
        refine z_goto (tgt := 67) B dX2_addToFlow_55 rfl ?_
        refine z_astore (lv' := [(5, .ref (x + (81 + 2 + m_4))), (4, .int v_10), (0, .ref (x + 80)), (1, .long a), (3, .int b)]) B dX2_addToFlow_67 (Nat.le_of_ble_eq_true rfl) rfl ?_
        refine z_aload B dX2_addToFlow_69 0 rfl ?_
        refine z_dup B dX2_addToFlow_71 rfl ?_
        obtain ⟨v_36, v_37, v_38, v_39, v_40, h_33⟩ := in19 (k := 81 + 2 + m_4) hI15 (kd_f (kd_r rfl) hm_4)
        have h_34 : Φ15 (x + (81 + 2 + m_4)) = some (o_ 5 [.long v_36, .long v_37, .long v_38, .int v_39, .int v_40]) := h_33
        refine z_get (ref := "FlowExporter$Flow") (C := RX3) (T := TX3) (N := 5) (ci := 5) (v := .long v_37) B (by decide +kernel) rfl 1 (by decide) (by decide +kernel) rfl h_34 rfl dX2_addToFlow_72 ?_
        refine z_lconst (v := 1) B dX2_addToFlow_75 rfl ?_
        refine z_ladd B dX2_addToFlow_76 ?_
        refine z_fl (fun v_41 => ?_)
        refine z_put (ref := "FlowExporter$Flow") (C := RX3) (T := TX3) (N := 5) (ci := 5) (v := .long v_41) B (by decide +kernel) tyX3 tyX3_ok nmX3 rfl 1 (by decide) (by decide +kernel) rfl (Or.inl rfl) h_34 (by omega) rfl rfl (Nat.le_of_ble_eq_true rfl) dX2_addToFlow_77 (fun Φ16 hΦ10 => ?_)
        have h_35 : Φ16 (x + (81 + 2 + m_4)) = some (o_ 5 [.long v_36, .long v_41, .long v_38, .int v_39, .int v_40]) := fset_at hΦ10
        have hI16 : In G x (ca) Φ16 := In.put (k := 81 + 2 + m_4) hI15 hΦ10 (ok19 (k := 81 + 2 + m_4) (kd_f (kd_r rfl) hm_4) ⟨v_36, v_41, v_38, v_39, v_40, rfl⟩)
        refine z_aload B dX2_addToFlow_80 0 rfl ?_
        refine z_dup B dX2_addToFlow_82 rfl ?_
        refine z_get (ref := "FlowExporter$Flow") (C := RX3) (T := TX3) (N := 5) (ci := 5) (v := .long v_38) B (by decide +kernel) rfl 2 (by decide) (by decide +kernel) rfl h_35 rfl dX2_addToFlow_83 ?_
        refine z_iload_n B dX2_addToFlow_86 rfl 4 rfl ?_
        refine z_i2l (v := b.toInt64) B dX2_addToFlow_87 rfl ?_
        refine z_fl (fun v_42 => ?_)
        refine z_ladd B dX2_addToFlow_88 ?_
        refine z_fl (fun v_43 => ?_)
        refine z_put (ref := "FlowExporter$Flow") (C := RX3) (T := TX3) (N := 5) (ci := 5) (v := .long v_43) B (by decide +kernel) tyX3 tyX3_ok nmX3 rfl 2 (by decide) (by decide +kernel) rfl (Or.inl rfl) h_35 (by omega) rfl rfl (Nat.le_of_ble_eq_true rfl) dX2_addToFlow_89 (fun Φ17 hΦ11 => ?_)
        have h_36 : Φ17 (x + (81 + 2 + m_4)) = some (o_ 5 [.long v_36, .long v_41, .long v_43, .int v_39, .int v_40]) := fset_at hΦ11
        have hI17 : In G x (ca) Φ17 := In.put (k := 81 + 2 + m_4) hI16 hΦ11 (ok19 (k := 81 + 2 + m_4) (kd_f (kd_r rfl) hm_4) ⟨v_36, v_41, v_43, v_39, v_40, rfl⟩)
        refine z_aload B dX2_addToFlow_92 0 rfl ?_
        refine z_aload_n B dX2_addToFlow_94 rfl 2 rfl ?_
        have h_37 : Φ17 (x + 80) = some (o_ 4 [.ref (x + 3), .ref (x + 74), .ref (x + 81), .ref (x + 95), .int v_1, .int v_2, .int v_3, .int v_4, .int v_5, .int v_6, .long v_7, .long v_8, .long v_9]) := ((fset_fr hΦ11 (by omega)).trans ((fset_fr hΦ10 (by omega)).trans ((hF6 (x + 80) (fun j9 h8 h7 => by have h6 : 81 ≤ j9 ∧ j9 < 81 + 2 + 12 := h7; omega)).trans h_31)))
        refine z_get (ref := "FlowExporter$Exporter") (C := RX2) (T := TX2) (N := 13) (ci := 4) (v := .int v_1) B (by decide +kernel) rfl 4 (by decide) (by decide +kernel) rfl h_37 rfl dX2_addToFlow_95 ?_
        refine z_put (ref := "FlowExporter$Flow") (C := RX3) (T := TX3) (N := 5) (ci := 5) (v := .int v_1) B (by decide +kernel) tyX3 tyX3_ok nmX3 rfl 4 (by decide) (by decide +kernel) rfl (Or.inl rfl) h_36 (by omega) rfl rfl (Nat.le_of_ble_eq_true rfl) dX2_addToFlow_98 (fun Φ18 hΦ12 => ?_)
        have h_38 : Φ18 (x + (81 + 2 + m_4)) = some (o_ 5 [.long v_36, .long v_41, .long v_43, .int v_39, .int v_1]) := fset_at hΦ12
        have hI18 : In G x (ca) Φ18 := In.put (k := 81 + 2 + m_4) hI17 hΦ12 (ok19 (k := 81 + 2 + m_4) (kd_f (kd_r rfl) hm_4) ⟨v_36, v_41, v_43, v_39, v_1, rfl⟩)
        exact z_ret_v B dX2_addToFlow_101 ⟨rfl, rfl, hI18, (fun b9 h9 => ((fset_fr hΦ12 (fun h8 => h9 (81 + 2 + m_4) h8 (show 74 ≤ (81 + 2 + m_4) ∧ (81 + 2 + m_4) < 95 by omega))).trans ((fset_fr hΦ11 (fun h8 => h9 (81 + 2 + m_4) h8 (show 74 ≤ (81 + 2 + m_4) ∧ (81 + 2 + m_4) < 95 by omega))).trans ((fset_fr hΦ10 (fun h8 => h9 (81 + 2 + m_4) h8 (show 74 ≤ (81 + 2 + m_4) ∧ (81 + 2 + m_4) < 95 by omega))).trans ((hF6 b9 (fun j9 h8 h7 => h9 j9 h8 (show 74 ≤ j9 ∧ j9 < 95 by have h6 : 81 ≤ j9 ∧ j9 < 81 + 2 + 12 := h7; omega))).trans ((hF4 b9 (fun j9 h8 h7 => (show False from h7).elim)).trans ((hF1 b9 (fun j9 h8 h7 => (show False from h7).elim)).trans rfl)))))))⟩
    · refine z_aload_n B dX2_addToFlow_26 rfl 1 rfl ?_
      refine z_aload_n B dX2_addToFlow_27 rfl 1 rfl ?_
      have h_39 : Φ10 (x + 80) = some (o_ 4 [.ref (x + 3), .ref (x + 74), .ref (x + 81), .ref (x + 95), .int v_1, .int v_2, .int v_3, .int v_4, .int v_5, .int v_6, .long v_7, .long v_8, .long v_9]) := ((hF4 (x + 80) (fun j9 h8 h7 => (show False from h7).elim)).trans h_21)
      refine z_get (ref := "FlowExporter$Exporter") (C := RX2) (T := TX2) (N := 13) (ci := 4) (v := .ref (x + 81)) B (by decide +kernel) rfl 2 (by decide) (by decide +kernel) rfl h_39 rfl dX2_addToFlow_28 ?_
      have h_40 : Φ10 (x + 81) = some (o_ 6 [.ref (x + 82), .int (nI n_1)]) := ((hF4 (x + 81) (fun j9 h8 h7 => (show False from h7).elim)).trans h_22)
      refine z_callV (As := []) (rest := [.ref (x + 80)]) B (s_X4_indexOfEarliestLast G l Φ10 sz x (ca) 81 hx hI10 rfl) (cwV 0 B.1.2.2.2.2 gX2_addToFlow_X4_indexOfEarliestLast rfl rfl rfl (by decide +kernel) ⟨Nat.le_of_ble_eq_true rfl, Nat.le_of_ble_eq_true rfl⟩) h_40 rfl rfl rfl rfl (Nat.le_of_ble_eq_true rfl) dX2_addToFlow_31 ⟨Nat.le_of_ble_eq_true rfl, Nat.le_of_ble_eq_true rfl⟩ (fun r_7 Φ19 sz7 st7 hp7 hs7 => ?_)
      obtain ⟨⟨v_44, rfl⟩, hq7, hI19, hF7⟩ := hp7
      subst sz7
      replace hs7 : st7 = [.int v_44, .ref (x + 80)] := hs7
      subst st7
      replace hI19 : In G x (ca) Φ19 := hI19
      have h_41 : Φ19 (x + 80) = some (o_ 4 [.ref (x + 3), .ref (x + 74), .ref (x + 81), .ref (x + 95), .int v_1, .int v_2, .int v_3, .int v_4, .int v_5, .int v_6, .long v_7, .long v_8, .long v_9]) := ((hF7 (x + 80) (fun j9 h8 h7 => (show False from h7).elim)).trans h_39)
      refine z_callV (As := [.int v_44]) (rest := []) B (s_X2_exportAt G l Φ19 sz x (ca) v_44 hx hI19 ) (cwV 1 B.1.2.2.2.2 gX2_addToFlow_X2_exportAt rfl rfl rfl (by decide +kernel) ⟨Nat.le_of_ble_eq_true rfl, Nat.le_of_ble_eq_true rfl⟩) h_41 rfl rfl rfl rfl (Nat.le_of_ble_eq_true rfl) dX2_addToFlow_34 ⟨Nat.le_of_ble_eq_true rfl, Nat.le_of_ble_eq_true rfl⟩ (fun r_8 Φ20 sz8 st8 hp8 hs8 => ?_)
      obtain ⟨rfl, hq8, hI20, hF8⟩ := hp8
      subst sz8
      replace hs8 : st8 = [] := hs8
      subst st8
      replace hI20 : In G x (ca) Φ20 := hI20
      refine z_iload B dX2_addToFlow_37 0 rfl ?_
      refine z_iconst (v := (-1)) B dX2_addToFlow_39 rfl ?_
      refine z_icmp_ne (tgt := 58) B dX2_addToFlow_40 rfl (fun c_5 => ?_) (fun c_5 => ?_)
      · refine z_aload_n B dX2_addToFlow_58 rfl 1 rfl ?_
        obtain ⟨v_45, v_46, v_47, v_48, v_49, v_50, v_51, v_52, v_53, h_42, b_4⟩ := in16 (k := 80) hI20 rfl
        have h_43 : Φ20 (x + 80) = some (o_ 4 [.ref (x + 3), .ref (x + 74), .ref (x + 81), .ref (x + 95), .int v_45, .int v_46, .int v_47, .int v_48, .int v_49, .int v_50, .long v_51, .long v_52, .long v_53]) := h_42
        refine z_get (ref := "FlowExporter$Exporter") (C := RX2) (T := TX2) (N := 13) (ci := 4) (v := .ref (x + 81)) B (by decide +kernel) rfl 2 (by decide) (by decide +kernel) rfl h_43 rfl dX2_addToFlow_59 ?_
        refine z_iload B dX2_addToFlow_62 0 rfl ?_
        obtain ⟨n_2, h_44, b_5⟩ := in17 (k := 81) hI20 rfl
        replace b_5 : n_2 ≤ 12 := b_5
        have h_45 : Φ20 (x + 81) = some (o_ 6 [.ref (x + 82), .int (nI n_2)]) := h_44
        refine z_callV (As := [.int v_10]) (rest := []) B (s_X4_flowAt G l Φ20 sz x (ca) 81 v_10 hx hI20 rfl) (cwV 1 B.1.2.2.2.2 gX2_addToFlow_X4_flowAt rfl rfl rfl (by decide +kernel) ⟨Nat.le_of_ble_eq_true rfl, Nat.le_of_ble_eq_true rfl⟩) h_45 rfl rfl rfl rfl (Nat.le_of_ble_eq_true rfl) dX2_addToFlow_64 ⟨Nat.le_of_ble_eq_true rfl, Nat.le_of_ble_eq_true rfl⟩ (fun r_9 Φ21 sz9 st9 hp9 hs9 => ?_)
        obtain ⟨⟨m_5, hm_5, rfl⟩, hq9, hI21, hF9⟩ := hp9
        subst sz9
        replace hs9 : st9 = [.ref (x + (81 + 2 + m_5))] := hs9
        subst st9
        replace hI21 : In G x (ca) Φ21 := hI21
        replace hm_5 : m_5 < 12 := hm_5
        refine z_astore (lv' := [(5, .ref (x + (81 + 2 + m_5))), (4, .int v_10), (0, .ref (x + 80)), (1, .long a), (3, .int b)]) B dX2_addToFlow_67 (Nat.le_of_ble_eq_true rfl) rfl ?_
        refine z_aload B dX2_addToFlow_69 0 rfl ?_
        refine z_dup B dX2_addToFlow_71 rfl ?_
        obtain ⟨v_54, v_55, v_56, v_57, v_58, h_46⟩ := in19 (k := 81 + 2 + m_5) hI21 (kd_f (kd_r rfl) hm_5)
        have h_47 : Φ21 (x + (81 + 2 + m_5)) = some (o_ 5 [.long v_54, .long v_55, .long v_56, .int v_57, .int v_58]) := h_46
        refine z_get (ref := "FlowExporter$Flow") (C := RX3) (T := TX3) (N := 5) (ci := 5) (v := .long v_55) B (by decide +kernel) rfl 1 (by decide) (by decide +kernel) rfl h_47 rfl dX2_addToFlow_72 ?_
        refine z_lconst (v := 1) B dX2_addToFlow_75 rfl ?_
        refine z_ladd B dX2_addToFlow_76 ?_
        refine z_fl (fun v_59 => ?_)
        refine z_put (ref := "FlowExporter$Flow") (C := RX3) (T := TX3) (N := 5) (ci := 5) (v := .long v_59) B (by decide +kernel) tyX3 tyX3_ok nmX3 rfl 1 (by decide) (by decide +kernel) rfl (Or.inl rfl) h_47 (by omega) rfl rfl (Nat.le_of_ble_eq_true rfl) dX2_addToFlow_77 (fun Φ22 hΦ13 => ?_)
        have h_48 : Φ22 (x + (81 + 2 + m_5)) = some (o_ 5 [.long v_54, .long v_59, .long v_56, .int v_57, .int v_58]) := fset_at hΦ13
        have hI22 : In G x (ca) Φ22 := In.put (k := 81 + 2 + m_5) hI21 hΦ13 (ok19 (k := 81 + 2 + m_5) (kd_f (kd_r rfl) hm_5) ⟨v_54, v_59, v_56, v_57, v_58, rfl⟩)
        refine z_aload B dX2_addToFlow_80 0 rfl ?_
        refine z_dup B dX2_addToFlow_82 rfl ?_
        refine z_get (ref := "FlowExporter$Flow") (C := RX3) (T := TX3) (N := 5) (ci := 5) (v := .long v_56) B (by decide +kernel) rfl 2 (by decide) (by decide +kernel) rfl h_48 rfl dX2_addToFlow_83 ?_
        refine z_iload_n B dX2_addToFlow_86 rfl 4 rfl ?_
        refine z_i2l (v := b.toInt64) B dX2_addToFlow_87 rfl ?_
        refine z_fl (fun v_60 => ?_)
        refine z_ladd B dX2_addToFlow_88 ?_
        refine z_fl (fun v_61 => ?_)
        refine z_put (ref := "FlowExporter$Flow") (C := RX3) (T := TX3) (N := 5) (ci := 5) (v := .long v_61) B (by decide +kernel) tyX3 tyX3_ok nmX3 rfl 2 (by decide) (by decide +kernel) rfl (Or.inl rfl) h_48 (by omega) rfl rfl (Nat.le_of_ble_eq_true rfl) dX2_addToFlow_89 (fun Φ23 hΦ14 => ?_)
        have h_49 : Φ23 (x + (81 + 2 + m_5)) = some (o_ 5 [.long v_54, .long v_59, .long v_61, .int v_57, .int v_58]) := fset_at hΦ14
        have hI23 : In G x (ca) Φ23 := In.put (k := 81 + 2 + m_5) hI22 hΦ14 (ok19 (k := 81 + 2 + m_5) (kd_f (kd_r rfl) hm_5) ⟨v_54, v_59, v_61, v_57, v_58, rfl⟩)
        refine z_aload B dX2_addToFlow_92 0 rfl ?_
        refine z_aload_n B dX2_addToFlow_94 rfl 2 rfl ?_
        have h_50 : Φ23 (x + 80) = some (o_ 4 [.ref (x + 3), .ref (x + 74), .ref (x + 81), .ref (x + 95), .int v_45, .int v_46, .int v_47, .int v_48, .int v_49, .int v_50, .long v_51, .long v_52, .long v_53]) := ((fset_fr hΦ14 (by omega)).trans ((fset_fr hΦ13 (by omega)).trans ((hF9 (x + 80) (fun j9 h8 h7 => (show False from h7).elim)).trans h_43)))
        refine z_get (ref := "FlowExporter$Exporter") (C := RX2) (T := TX2) (N := 13) (ci := 4) (v := .int v_45) B (by decide +kernel) rfl 4 (by decide) (by decide +kernel) rfl h_50 rfl dX2_addToFlow_95 ?_
        refine z_put (ref := "FlowExporter$Flow") (C := RX3) (T := TX3) (N := 5) (ci := 5) (v := .int v_45) B (by decide +kernel) tyX3 tyX3_ok nmX3 rfl 4 (by decide) (by decide +kernel) rfl (Or.inl rfl) h_49 (by omega) rfl rfl (Nat.le_of_ble_eq_true rfl) dX2_addToFlow_98 (fun Φ24 hΦ15 => ?_)
        have h_51 : Φ24 (x + (81 + 2 + m_5)) = some (o_ 5 [.long v_54, .long v_59, .long v_61, .int v_57, .int v_45]) := fset_at hΦ15
        have hI24 : In G x (ca) Φ24 := In.put (k := 81 + 2 + m_5) hI23 hΦ15 (ok19 (k := 81 + 2 + m_5) (kd_f (kd_r rfl) hm_5) ⟨v_54, v_59, v_61, v_57, v_45, rfl⟩)
        exact z_ret_v B dX2_addToFlow_101 ⟨rfl, rfl, hI24, (fun b9 h9 => ((fset_fr hΦ15 (fun h8 => h9 (81 + 2 + m_5) h8 (show 74 ≤ (81 + 2 + m_5) ∧ (81 + 2 + m_5) < 95 by omega))).trans ((fset_fr hΦ14 (fun h8 => h9 (81 + 2 + m_5) h8 (show 74 ≤ (81 + 2 + m_5) ∧ (81 + 2 + m_5) < 95 by omega))).trans ((fset_fr hΦ13 (fun h8 => h9 (81 + 2 + m_5) h8 (show 74 ≤ (81 + 2 + m_5) ∧ (81 + 2 + m_5) < 95 by omega))).trans ((hF9 b9 (fun j9 h8 h7 => (show False from h7).elim)).trans ((hF8 b9 (fun j9 h8 h7 => h9 j9 h8 (show 74 ≤ j9 ∧ j9 < 95 by have h6 : 74 ≤ j9 ∧ j9 < 95 := h7; omega))).trans ((hF7 b9 (fun j9 h8 h7 => (show False from h7).elim)).trans ((hF4 b9 (fun j9 h8 h7 => (show False from h7).elim)).trans ((hF1 b9 (fun j9 h8 h7 => (show False from h7).elim)).trans rfl)))))))))⟩
      · refine z_aload_n B dX2_addToFlow_43 rfl 1 rfl ?_
        obtain ⟨v_62, v_63, v_64, v_65, v_66, v_67, v_68, v_69, v_70, h_52, b_6⟩ := in16 (k := 80) hI20 rfl
        have h_53 : Φ20 (x + 80) = some (o_ 4 [.ref (x + 3), .ref (x + 74), .ref (x + 81), .ref (x + 95), .int v_62, .int v_63, .int v_64, .int v_65, .int v_66, .int v_67, .long v_68, .long v_69, .long v_70]) := h_52
        refine z_get (ref := "FlowExporter$Exporter") (C := RX2) (T := TX2) (N := 13) (ci := 4) (v := .ref (x + 81)) B (by decide +kernel) rfl 2 (by decide) (by decide +kernel) rfl h_53 rfl dX2_addToFlow_44 ?_
        refine z_lload_n B dX2_addToFlow_47 rfl 2 rfl ?_
        refine z_aload_n B dX2_addToFlow_48 rfl 1 rfl ?_
        refine z_get (ref := "FlowExporter$Exporter") (C := RX2) (T := TX2) (N := 13) (ci := 4) (v := .int v_62) B (by decide +kernel) rfl 4 (by decide) (by decide +kernel) rfl h_53 rfl dX2_addToFlow_49 ?_
        obtain ⟨n_3, h_54, b_7⟩ := in17 (k := 81) hI20 rfl
        replace b_7 : n_3 ≤ 12 := b_7
        have h_55 : Φ20 (x + 81) = some (o_ 6 [.ref (x + 82), .int (nI n_3)]) := h_54
        refine z_callV (As := [.long a, .int v_62]) (rest := []) B (s_X4_addFlow G l Φ20 sz x (ca) 81 a v_62 hx hI20 rfl) (cwV 2 B.1.2.2.2.2 gX2_addToFlow_X4_addFlow rfl rfl rfl (by decide +kernel) ⟨Nat.le_of_ble_eq_true rfl, Nat.le_of_ble_eq_true rfl⟩) h_55 rfl rfl rfl rfl (Nat.le_of_ble_eq_true rfl) dX2_addToFlow_52 ⟨Nat.le_of_ble_eq_true rfl, Nat.le_of_ble_eq_true rfl⟩ (fun r_10 Φ25 sz10 st10 hp10 hs10 => ?_)
        obtain ⟨⟨m_6, hm_6, rfl⟩, hq10, hI25, hF10⟩ := hp10
        subst sz10
        replace hs10 : st10 = [.ref (x + (81 + 2 + m_6))] := hs10
        subst st10
        replace hI25 : In G x (ca) Φ25 := hI25
        replace hm_6 : m_6 < 12 := hm_6
        refine z_goto (tgt := 67) B dX2_addToFlow_55 rfl ?_
        refine z_astore (lv' := [(5, .ref (x + (81 + 2 + m_6))), (4, .int v_10), (0, .ref (x + 80)), (1, .long a), (3, .int b)]) B dX2_addToFlow_67 (Nat.le_of_ble_eq_true rfl) rfl ?_
        refine z_aload B dX2_addToFlow_69 0 rfl ?_
        refine z_dup B dX2_addToFlow_71 rfl ?_
        obtain ⟨v_71, v_72, v_73, v_74, v_75, h_56⟩ := in19 (k := 81 + 2 + m_6) hI25 (kd_f (kd_r rfl) hm_6)
        have h_57 : Φ25 (x + (81 + 2 + m_6)) = some (o_ 5 [.long v_71, .long v_72, .long v_73, .int v_74, .int v_75]) := h_56
        refine z_get (ref := "FlowExporter$Flow") (C := RX3) (T := TX3) (N := 5) (ci := 5) (v := .long v_72) B (by decide +kernel) rfl 1 (by decide) (by decide +kernel) rfl h_57 rfl dX2_addToFlow_72 ?_
        refine z_lconst (v := 1) B dX2_addToFlow_75 rfl ?_
        refine z_ladd B dX2_addToFlow_76 ?_
        refine z_fl (fun v_76 => ?_)
        refine z_put (ref := "FlowExporter$Flow") (C := RX3) (T := TX3) (N := 5) (ci := 5) (v := .long v_76) B (by decide +kernel) tyX3 tyX3_ok nmX3 rfl 1 (by decide) (by decide +kernel) rfl (Or.inl rfl) h_57 (by omega) rfl rfl (Nat.le_of_ble_eq_true rfl) dX2_addToFlow_77 (fun Φ26 hΦ16 => ?_)
        have h_58 : Φ26 (x + (81 + 2 + m_6)) = some (o_ 5 [.long v_71, .long v_76, .long v_73, .int v_74, .int v_75]) := fset_at hΦ16
        have hI26 : In G x (ca) Φ26 := In.put (k := 81 + 2 + m_6) hI25 hΦ16 (ok19 (k := 81 + 2 + m_6) (kd_f (kd_r rfl) hm_6) ⟨v_71, v_76, v_73, v_74, v_75, rfl⟩)
        refine z_aload B dX2_addToFlow_80 0 rfl ?_
        refine z_dup B dX2_addToFlow_82 rfl ?_
        refine z_get (ref := "FlowExporter$Flow") (C := RX3) (T := TX3) (N := 5) (ci := 5) (v := .long v_73) B (by decide +kernel) rfl 2 (by decide) (by decide +kernel) rfl h_58 rfl dX2_addToFlow_83 ?_
        refine z_iload_n B dX2_addToFlow_86 rfl 4 rfl ?_
        refine z_i2l (v := b.toInt64) B dX2_addToFlow_87 rfl ?_
        refine z_fl (fun v_77 => ?_)
        refine z_ladd B dX2_addToFlow_88 ?_
        refine z_fl (fun v_78 => ?_)
        refine z_put (ref := "FlowExporter$Flow") (C := RX3) (T := TX3) (N := 5) (ci := 5) (v := .long v_78) B (by decide +kernel) tyX3 tyX3_ok nmX3 rfl 2 (by decide) (by decide +kernel) rfl (Or.inl rfl) h_58 (by omega) rfl rfl (Nat.le_of_ble_eq_true rfl) dX2_addToFlow_89 (fun Φ27 hΦ17 => ?_)
        have h_59 : Φ27 (x + (81 + 2 + m_6)) = some (o_ 5 [.long v_71, .long v_76, .long v_78, .int v_74, .int v_75]) := fset_at hΦ17
        have hI27 : In G x (ca) Φ27 := In.put (k := 81 + 2 + m_6) hI26 hΦ17 (ok19 (k := 81 + 2 + m_6) (kd_f (kd_r rfl) hm_6) ⟨v_71, v_76, v_78, v_74, v_75, rfl⟩)
        refine z_aload B dX2_addToFlow_92 0 rfl ?_
        refine z_aload_n B dX2_addToFlow_94 rfl 2 rfl ?_
        have h_60 : Φ27 (x + 80) = some (o_ 4 [.ref (x + 3), .ref (x + 74), .ref (x + 81), .ref (x + 95), .int v_62, .int v_63, .int v_64, .int v_65, .int v_66, .int v_67, .long v_68, .long v_69, .long v_70]) := ((fset_fr hΦ17 (by omega)).trans ((fset_fr hΦ16 (by omega)).trans ((hF10 (x + 80) (fun j9 h8 h7 => by have h6 : 81 ≤ j9 ∧ j9 < 81 + 2 + 12 := h7; omega)).trans h_53)))
        refine z_get (ref := "FlowExporter$Exporter") (C := RX2) (T := TX2) (N := 13) (ci := 4) (v := .int v_62) B (by decide +kernel) rfl 4 (by decide) (by decide +kernel) rfl h_60 rfl dX2_addToFlow_95 ?_
        refine z_put (ref := "FlowExporter$Flow") (C := RX3) (T := TX3) (N := 5) (ci := 5) (v := .int v_62) B (by decide +kernel) tyX3 tyX3_ok nmX3 rfl 4 (by decide) (by decide +kernel) rfl (Or.inl rfl) h_59 (by omega) rfl rfl (Nat.le_of_ble_eq_true rfl) dX2_addToFlow_98 (fun Φ28 hΦ18 => ?_)
        have h_61 : Φ28 (x + (81 + 2 + m_6)) = some (o_ 5 [.long v_71, .long v_76, .long v_78, .int v_74, .int v_62]) := fset_at hΦ18
        have hI28 : In G x (ca) Φ28 := In.put (k := 81 + 2 + m_6) hI27 hΦ18 (ok19 (k := 81 + 2 + m_6) (kd_f (kd_r rfl) hm_6) ⟨v_71, v_76, v_78, v_74, v_62, rfl⟩)
        exact z_ret_v B dX2_addToFlow_101 ⟨rfl, rfl, hI28, (fun b9 h9 => ((fset_fr hΦ18 (fun h8 => h9 (81 + 2 + m_6) h8 (show 74 ≤ (81 + 2 + m_6) ∧ (81 + 2 + m_6) < 95 by omega))).trans ((fset_fr hΦ17 (fun h8 => h9 (81 + 2 + m_6) h8 (show 74 ≤ (81 + 2 + m_6) ∧ (81 + 2 + m_6) < 95 by omega))).trans ((fset_fr hΦ16 (fun h8 => h9 (81 + 2 + m_6) h8 (show 74 ≤ (81 + 2 + m_6) ∧ (81 + 2 + m_6) < 95 by omega))).trans ((hF10 b9 (fun j9 h8 h7 => h9 j9 h8 (show 74 ≤ j9 ∧ j9 < 95 by have h6 : 81 ≤ j9 ∧ j9 < 81 + 2 + 12 := h7; omega))).trans ((hF8 b9 (fun j9 h8 h7 => h9 j9 h8 (show 74 ≤ j9 ∧ j9 < 95 by have h6 : 74 ≤ j9 ∧ j9 < 95 := h7; omega))).trans ((hF7 b9 (fun j9 h8 h7 => (show False from h7).elim)).trans ((hF4 b9 (fun j9 h8 h7 => (show False from h7).elim)).trans ((hF1 b9 (fun j9 h8 h7 => (show False from h7).elim)).trans rfl)))))))))⟩

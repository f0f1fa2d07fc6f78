set_option maxHeartbeats 4000000 in
set_option maxRecDepth 100000 in
theorem s_X1_clearF (G : EnvG) (l : Launch) (Φ : Hm) (sz x ca : Nat)  (hx : G.2.2.2 ≤ x) (hI : In G x ca Φ)  : Ct G l yX1_clear wsX1_clear ({ frames := 1, cells := 0, slots := 0, locals := 23 }) 0 0 [.ref (x + 25)] Φ sz (fun v Φ1 sz1 => (v = none ∧ CfP G x 25 0 4 cB Φ1) ∧ sz1 = sz ∧ In G x (ca) Φ1 ∧ Fr x (fun j9 => 25 ≤ j9 ∧ j9 < 46) Φ Φ1) := by
  refine Ct.of (cc := cX1_clear) (maxL := 2) (ret := none) (by decide) rfl (Nat.le_of_ble_eq_true rfl) ?_
  intro p9 e9 s9 m9 w9 t9 k9 B
  show Z p9 l e9 _ s9 m9 _ w9 t9 k9 _ G 2 0 [(0, .ref (x + 25))] [] Φ sz 0 0
  refine z_staN (n := "USUAL") B B.2.2.2.2.2.1.1.2.1 (by decide +kernel) dX1_clear_0 ?_
  refine z_iconst (v := 0) B dX1_clear_3 rfl ?_
  refine z_aload_n B dX1_clear_4 rfl 0 rfl ?_
  obtain ⟨v_1, v_2, h_1⟩ := in3 (k := 25) hI rfl
  have h_2 : Φ (x + 25) = some (o_ 3 [.ref (x + 26), .ref (x + 27), .ref (x + 28), .ref (x + 29), .int v_1, .int v_2]) := h_1
  refine z_get (ref := "FlowExporter$Config") (C := RX1) (T := TX1) (N := 6) (ci := 3) (v := .ref (x + 26)) B hu_X1_clear_X1 rfl 0 (Nat.le_of_ble_eq_true rfl) hv_X1_clear_9 rfl h_2 rfl dX1_clear_5 ?_
  refine z_iconst (v := 0) B dX1_clear_8 rfl ?_
  refine z_bipush (v := 9) B dX1_clear_9 rfl ?_
  obtain ⟨f_1, h_3, r_1⟩ := in4 (k := 26) hI rfl
  have h_4 : Φ (x + 26) = some (ai_ G 9 f_1) := h_3
  refine z_copyS B (by decide +kernel) (by decide +kernel) (by decide +kernel) (by decide +kernel) B.2.2.2.2.2.1.2.2.2.1.2.1 (B.2.2.2.2.2.1.2.2.2.2 1 (by decide)) h_4 (Nat.le_trans hx (Nat.le_add_right x 26)) (by decide) (by decide) (by decide) (by decide) (by decide) (fun _ _ => rfl) (Nat.le_of_ble_eq_true rfl) (by decide +kernel) dX1_clear_11 (fun Φ1 hΦ1 => ?_)
  have h_5 : Φ1 (x + 26) = some (ai_ G 9 (va_cpy usT f_1 (0 : Int32).toNatClampNeg (0 : Int32).toNatClampNeg (9 : Int32).toNatClampNeg)) := fset_at hΦ1
  have hI1 : In G x (ca) Φ1 := In.put (k := 26) hI hΦ1 (ok4 (k := 26) rfl ⟨_, rfl, cpy_nn us_nn r_1⟩)
  have h_6 : Φ1 (x + 26) = some (ai_ G 9 (va_cpy usT f_1 (0 : Int32).toNatClampNeg (0 : Int32).toNatClampNeg (9 : Int32).toNatClampNeg)) := fset_at hΦ1
  have r_2 : ∀ j9, ¬ (va_cpy usT f_1 (0 : Int32).toNatClampNeg (0 : Int32).toNatClampNeg (9 : Int32).toNatClampNeg) j9 < 0 := cpy_nn us_nn r_1
  refine z_aload_n B dX1_clear_14 rfl 0 rfl ?_
  have h_7 : Φ1 (x + 25) = some (o_ 3 [.ref (x + 26), .ref (x + 27), .ref (x + 28), .ref (x + 29), .int v_1, .int v_2]) := ((fset_fr hΦ1 (ne_off (x := x) (i := 25) (j := 26) rfl)).trans h_2)
  refine z_get (ref := "FlowExporter$Config") (C := RX1) (T := TX1) (N := 6) (ci := 3) (v := .ref (x + 27)) B hu_X1_clear_X1 rfl 1 (Nat.le_of_ble_eq_true rfl) hv_X1_clear_15 rfl h_7 rfl dX1_clear_15 ?_
  refine z_iconst (v := 0) B dX1_clear_18 rfl ?_
  obtain ⟨f_2, h_8⟩ := in5 (k := 27) hI1 rfl
  have h_9 : Φ1 (x + 27) = some (ai_ G 256 f_2) := h_8
  refine z_callS (As := [.ref (x + 27), .int 0]) (rest := []) B (c_J7_fill_53178 G l Φ1 sz (x + 27) 256 f_2 0 h_9 (Nat.le_trans hx (Nat.le_add_right x 27)) (by decide)) (va_cwS 2 B.1.2.2.2.2 gX1_clear_J7_fill_53178 rfl rfl rfl (by decide +kernel) ⟨Nat.le_of_ble_eq_true rfl, Nat.le_of_ble_eq_true rfl⟩) rfl rfl (Nat.le_of_ble_eq_true rfl) dX1_clear_19 ⟨Nat.le_of_ble_eq_true rfl, Nat.le_of_ble_eq_true rfl⟩ (fun r_3 Φ2 sz1 st1 hp1 hs1 => ?_)
  obtain ⟨rfl, hq1, fr1, h_10⟩ := hp1
  subst sz1
  replace hs1 : st1 = [] := hs1
  subst st1
  have hΦ2 : Φ2 = fset Φ1 (x + 27) (ai_ G 256 (fun _ => 0)) := fset_of fr1 h_10
  have h_11 : Φ2 (x + 27) = some (ai_ G 256 (fun _ => 0)) := fset_at hΦ2
  have hI2 : In G x (ca) Φ2 := In.put (k := 27) hI1 hΦ2 (ok5 (k := 27) rfl ⟨_, rfl⟩)
  have h_12 : Φ2 (x + 27) = some (ai_ G 256 (fun _ => 0)) := fset_at hΦ2
  refine z_iconst (v := 0) B dX1_clear_22 rfl ?_
  refine z_istore_n (lv' := [(1, .int 0), (0, .ref (x + 25))]) B dX1_clear_23 rfl (Nat.le_of_ble_eq_true rfl) rfl ?_
  refine z_lv [0, 1] rfl ?_
  refine z_loop (α := Nat) (fun (a9 : Nat) Φi => In G x (ca) Φi ∧ Fr x (fun j9 => 30 ≤ j9 ∧ j9 < 46) Φ2 Φi ∧ (a9 ≤ 4) ∧ (∀ u9, u9 < a9 → Φi (x + (30 + 4 * u9)) = some (o_ 12 [.ref (x + (30 + 4 * u9 + 1)), .int (nI 0), .int (nI 0), .int 0])) ∧ True) (fun a9 => [(1, .int (nI a9)), (0, .ref (x + 25))]) (fun a9 => 4 - a9) ?_ (0) ⟨hI2, fun _ _ => rfl, (show 0 ≤ 4 by omega), (fun u9 h9 => absurd h9 (Nat.not_lt_zero _)), trivial⟩
  rintro i_1 Φl1 ⟨hI3, hF1, b_1, b_2, -⟩ ih1
  replace hI3 : In G x (ca) Φl1 := hI3
  replace b_1 : i_1 ≤ 4 := b_1
  replace b_2 : ∀ u9, u9 < i_1 → Φl1 (x + (30 + 4 * u9)) = some (o_ 12 [.ref (x + (30 + 4 * u9 + 1)), .int (nI 0), .int (nI 0), .int 0]) := b_2
  show Z p9 l e9 _ s9 m9 _ w9 t9 k9 _ G 2 24 [(1, .int (nI i_1)), (0, .ref (x + 25))] [] Φl1 _ _ _
  refine z_iload_n B dX1_clear_24 rfl 0 rfl ?_
  refine z_iconst (v := 4) B dX1_clear_25 rfl ?_
  refine z_icmp_ge (tgt := 44) B dX1_clear_26 rfl (fun c_1 => ?_) (fun c_1 => ?_)
  · have e_1 : 4 ≤ i_1 := (nI_leI (a := 4) (b := i_1) (by omega) (by omega)).mp c_1
    refine z_aload_n B dX1_clear_44 rfl 1 rfl ?_
    refine z_iconst (v := 0) B dX1_clear_45 rfl ?_
    have h_13 : Φl1 (x + 25) = some (o_ 3 [.ref (x + 26), .ref (x + 27), .ref (x + 28), .ref (x + 29), .int v_1, .int v_2]) := ((hF1 (x + 25) fq_592).trans ((fset_fr hΦ2 (ne_off (x := x) (i := 25) (j := 27) rfl)).trans h_7))
    refine z_put (ref := "FlowExporter$Config") (C := RX1) (T := TX1) (N := 6) (ci := 3) (v := .int 0) B hu_X1_clear_X1 tyX1 tyX1_ok nmX1 rfl 4 (Nat.le_of_ble_eq_true rfl) hv_X1_clear_27 rfl (Or.inl rfl) h_13 (Nat.le_trans hx (Nat.le_add_right x 25)) rfl rfl (Nat.le_of_ble_eq_true rfl) dX1_clear_46 (fun Φ3 hΦ3 => ?_)
    have h_14 : Φ3 (x + 25) = some (o_ 3 [.ref (x + 26), .ref (x + 27), .ref (x + 28), .ref (x + 29), .int 0, .int v_2]) := fset_at hΦ3
    have hI4 : In G x (ca) Φ3 := In.put (k := 25) hI3 hΦ3 (ok3 (k := 25) rfl ⟨0, v_2, rfl⟩)
    refine z_aload_n B dX1_clear_49 rfl 1 rfl ?_
    refine z_sipush (v := 511) B dX1_clear_50 rfl ?_
    refine z_put (ref := "FlowExporter$Config") (C := RX1) (T := TX1) (N := 6) (ci := 3) (v := .int 511) B hu_X1_clear_X1 tyX1 tyX1_ok nmX1 rfl 5 (Nat.le_of_ble_eq_true rfl) hv_X1_clear_31 rfl (Or.inl rfl) h_14 (Nat.le_trans hx (Nat.le_add_right x 25)) rfl rfl (Nat.le_of_ble_eq_true rfl) dX1_clear_53 (fun Φ4 hΦ4 => ?_)
    have h_15 : Φ4 (x + 25) = some (o_ 3 [.ref (x + 26), .ref (x + 27), .ref (x + 28), .ref (x + 29), .int 0, .int 511]) := fset_at hΦ4
    have hI5 : In G x (ca) Φ4 := In.put (k := 25) hI4 hΦ4 (ok3 (k := 25) rfl ⟨0, 511, rfl⟩)
    have h_16 : Φ4 (x + 26) = some (ai_ G 9 (va_cpy usT f_1 (0 : Int32).toNatClampNeg (0 : Int32).toNatClampNeg (9 : Int32).toNatClampNeg)) := ((fset_fr hΦ4 (ne_off (x := x) (i := 26) (j := 25) rfl)).trans ((fset_fr hΦ3 (ne_off (x := x) (i := 26) (j := 25) rfl)).trans ((hF1 (x + 26) fq_593).trans ((fset_fr hΦ2 (ne_off (x := x) (i := 26) (j := 27) rfl)).trans h_6))))
    have h_17 : Φ4 (x + 27) = some (ai_ G 256 (fun _ => 0)) := ((fset_fr hΦ4 (ne_off (x := x) (i := 27) (j := 25) rfl)).trans ((fset_fr hΦ3 (ne_off (x := x) (i := 27) (j := 25) rfl)).trans ((hF1 (x + 27) fq_594).trans h_12)))
    exact z_ret_v B dX1_clear_56 ⟨⟨rfl, CfP.beg h_15 h_16 (cpy_us _) h_17 (fun u9 h9 => (fun u9 h9 => (fset_fr hΦ4 (by omega)).trans ((fun u9 h9 => (fset_fr hΦ3 (by omega)).trans (b_2 u9 h9)) u9 h9)) u9 (by omega)) (fun u9 h9 => in9 (k := 30 + 4 * u9 + 1) hI5 (kd_t (kd_w (k := 28) rfl h9)))⟩, rfl, hI5, (fun b9 h9 => ((fset_fr hΦ4 (fun h8 => h9 (25) h8 (show 25 ≤ 25 ∧ 25 < 46 by decide))).trans ((fset_fr hΦ3 (fun h8 => h9 (25) h8 (show 25 ≤ 25 ∧ 25 < 46 by decide))).trans ((hF1 b9 (fun j9 h8 h7 => h9 j9 h8 (fq_595 j9 h7))).trans ((fset_fr hΦ2 (fun h8 => h9 (27) h8 (show 25 ≤ 27 ∧ 27 < 46 by decide))).trans ((fset_fr hΦ1 (fun h8 => h9 (26) h8 (show 25 ≤ 26 ∧ 26 < 46 by decide))).trans rfl))))))⟩
  · have e_2 : ¬ (4 ≤ i_1) := fun h9 => c_1 ((nI_leI (a := 4) (b := i_1) (by omega) (by omega)).mpr h9)
    refine z_aload_n B dX1_clear_29 rfl 1 rfl ?_
    have h_18 : Φl1 (x + 25) = some (o_ 3 [.ref (x + 26), .ref (x + 27), .ref (x + 28), .ref (x + 29), .int v_1, .int v_2]) := ((hF1 (x + 25) fq_592).trans ((fset_fr hΦ2 (ne_off (x := x) (i := 25) (j := 27) rfl)).trans h_7))
    refine z_get (ref := "FlowExporter$Config") (C := RX1) (T := TX1) (N := 6) (ci := 3) (v := .ref (x + 28)) B hu_X1_clear_X1 rfl 2 (Nat.le_of_ble_eq_true rfl) hv_X1_clear_20 rfl h_18 rfl dX1_clear_30 ?_
    refine z_iload_n B dX1_clear_33 rfl 0 rfl ?_
    obtain ⟨f_3, h_19, r_4⟩ := in6 (k := 28) hI3 rfl
    have h_20 : Φl1 (x + 28) = some (aq_ G 4 4 f_3) := h_19
    refine z_aald (b := x + (28 + 2 + 4 * i_1)) B rfl h_20 (vp_in_nI (by omega) (by omega)) ((congrArg f_3 (nI_clamp (by omega))).trans (r_4 i_1 (by omega))) dX1_clear_34 ?_
    obtain ⟨n_1, v_3, v_4, h_21, b_3⟩ := in8 (k := 28 + 2 + 4 * i_1) hI3 (kd_w rfl (by omega))
    have h_22 : Φl1 (x + (28 + 2 + 4 * i_1)) = some (o_ 12 [.ref (x + (28 + 2 + 4 * i_1 + 1)), .int (nI n_1), .int v_3, .int v_4]) := h_21
    refine z_callV (As := []) (rest := []) B (s_X10_clearE G l Φl1 sz x (ca) (28 + 2 + 4 * i_1) hx hI3 (kd_w rfl (by omega))) (cwV 0 B.1.2.2.2.2 gX1_clear_X10_clear rfl rfl rfl (by decide +kernel) ⟨Nat.le_of_ble_eq_true rfl, Nat.le_of_ble_eq_true rfl⟩) h_22 rfl rfl rfl rfl (Nat.le_of_ble_eq_true rfl) dX1_clear_35 ⟨Nat.le_of_ble_eq_true rfl, Nat.le_of_ble_eq_true rfl⟩ (fun r_5 Φ5 sz2 st2 hp2 hs2 => ?_)
    obtain ⟨⟨rfl, h_23⟩, hq2, hI6, hF2⟩ := hp2
    subst sz2
    replace hs2 : st2 = [] := hs2
    subst st2
    replace hI6 : In G x (ca) Φ5 := hI6
    refine z_iinc (k := 0) (v := nI (i_1 + 1)) (lv' := [(1, .int (nI (i_1 + 1))), (0, .ref (x + 25))]) B dX1_clear_38 rfl (nI_add i_1 1) (Nat.le_of_ble_eq_true rfl) rfl ?_
    refine z_goto (tgt := 24) B dX1_clear_41 rfl ?_
    refine z_lv [0, 1] rfl ?_
    exact ih1 (i_1 + 1) Φ5 (show 4 - (i_1 + 1) < 4 - i_1 by omega) ⟨hI6, (fun b9 h9 => ((hF2 b9 (fun j9 h8 h7 => h9 j9 h8 (show 30 ≤ j9 ∧ j9 < 46 by have h6 : j9 = (28 + 2 + 4 * i_1) := h7; omega))).trans ((hF1 b9 h9).trans rfl))), (show (i_1 + 1) ≤ 4 by omega), (clr_s b_2 hF2 (fun j9 h7 => h7) h_23), trivial⟩

theorem fq_596 {x : Nat} : ∀ j9 : Nat, x + 25 = x + j9 → (j9 = 30 ∨ j9 = 31) → False := by
  intro j9 h1 h2
  omega

theorem fq_597 : ∀ j9 : Nat, (j9 = 30 ∨ j9 = 31) → (j9 = 25 ∨ j9 = 30 ∨ j9 = 31) := by
  intro j9 h
  omega

theorem fq_598 : ∀ j9 : Nat, (j9 = 30 ∨ j9 = 30 + 1) → (j9 = 30 ∨ j9 = 31) := by
  intro j9 h
  omega

set_option maxHeartbeats 4000000 in
set_option maxRecDepth 100000 in
theorem s_X1_addUsualTemplateF (G : EnvG) (l : Launch) (Φ : Hm) (sz x ca : Nat) (c : Cf) (hx : G.2.2.2 ≤ x) (hI : In G x ca Φ) (hcf0 : CfP G x 25 0 4 c Φ) : Ct G l yX1_addUsualTemplate wsX1_addUsualTemplate ({ frames := 1, cells := 0, slots := 0, locals := 21 }) 0 0 [.ref (x + 25)] Φ sz (fun v Φ1 sz1 => (v = none ∧ CfP G x 25 1 4 (usC c) Φ1) ∧ sz1 = sz ∧ In G x (ca) Φ1 ∧ Fr x (fun j9 => j9 = 25 ∨ j9 = 30 ∨ j9 = 31) Φ Φ1) := by
  refine Ct.of (cc := cX1_addUsualTemplate) (maxL := 2) (ret := none) (by decide) rfl (Nat.le_of_ble_eq_true rfl) ?_
  intro p9 e9 s9 m9 w9 t9 k9 B
  show Z p9 l e9 _ s9 m9 _ w9 t9 k9 _ G 2 0 [(0, .ref (x + 25))] [] Φ sz 0 0
  obtain ⟨hcg1, f_1, hcg2⟩ := CfP.opn (t := 0) hcf0 (by omega)
  have h_1 : Φ (x + 25) = some (o_ 3 [.ref (x + 26), .ref (x + 27), .ref (x + 28), .ref (x + 29), .int (nI 0), .int (c 9)]) := CfP.obj hcf0
  refine z_aload_n B dX1_addUsualTemplate_0 rfl 0 rfl ?_
  refine z_iconst (v := 1) B dX1_addUsualTemplate_1 rfl ?_
  refine z_put (ref := "FlowExporter$Config") (C := RX1) (T := TX1) (N := 6) (ci := 3) (v := .int 1) B hu_X1_addUsualTemplate_X1 tyX1 tyX1_ok nmX1 rfl 4 (Nat.le_of_ble_eq_true rfl) hv_X1_addUsualTemplate_27 rfl (Or.inl rfl) h_1 (Nat.le_trans hx (Nat.le_add_right x 25)) rfl rfl (Nat.le_of_ble_eq_true rfl) dX1_addUsualTemplate_2 (fun Φ1 hΦ1 => ?_)
  have h_2 : Φ1 (x + 25) = some (o_ 3 [.ref (x + 26), .ref (x + 27), .ref (x + 28), .ref (x + 29), .int 1, .int (c 9)]) := fset_at hΦ1
  have hI1 : In G x (ca) Φ1 := In.put (k := 25) hI hΦ1 (ok3 (k := 25) rfl ⟨1, c 9, rfl⟩)
  refine z_iconst (v := 0) B dX1_addUsualTemplate_5 rfl ?_
  refine z_istore_n (lv' := [(1, .int 0), (0, .ref (x + 25))]) B dX1_addUsualTemplate_6 rfl (Nat.le_of_ble_eq_true rfl) rfl ?_
  refine z_lv [0, 1] rfl ?_
  have hcg3 : CfU G x 25 0 0 f_1 Φ1 := (CfU.off (k := 25) hcg2 hΦ1 (by intros; omega))
  refine z_loop (α := Nat × (Nat → Int32)) (fun (a9 : Nat × (Nat → Int32)) Φi => In G x (ca) Φi ∧ Fr x (fun j9 => j9 = 30 ∨ j9 = 31) Φ1 Φi ∧ (a9.1 ≤ 9) ∧ (fS a9.2 511 a9.1 = nI (2 ^ a9.1 - 1)) ∧ (∀ j9, j9 < a9.1 → a9.2 j9 = nI j9) ∧ (CfU G x 25 0 a9.1 a9.2 Φi) ∧ True) (fun a9 => [(1, .int (nI (a9.1))), (0, .ref (x + 25))]) (fun a9 => 9 - a9.1) ?_ (0, f_1) ⟨hI1, fun _ _ => rfl, (show 0 ≤ 9 by omega), rfl, (fun j9 h9 => absurd h9 (Nat.not_lt_zero _)), hcg3, trivial⟩
  rintro ⟨i_1, i_2⟩ Φl1 ⟨hI2, hF1, b_1, b_2, b_3, b_4, -⟩ ih1
  replace hI2 : In G x (ca) Φl1 := hI2
  replace b_1 : i_1 ≤ 9 := b_1
  replace b_2 : fS i_2 511 i_1 = nI (2 ^ i_1 - 1) := b_2
  replace b_3 : ∀ j9, j9 < i_1 → i_2 j9 = nI j9 := b_3
  replace b_4 : CfU G x 25 0 i_1 i_2 Φl1 := b_4
  show Z p9 l e9 _ s9 m9 _ w9 t9 k9 _ G 2 7 [(1, .int (nI i_1)), (0, .ref (x + 25))] [] Φl1 _ _ _
  obtain ⟨hd1, q_1, q_2⟩ := id b_4
  have h_3 : Φl1 (x + 30) = some (o_ 12 [.ref (x + 31), .int (nI i_1), .int (nI (2 ^ i_1 - 1)), .int (fB_ i_2 511 i_1)]) := by rw [← b_2]; exact q_1
  have h_4 : Φl1 (x + 31) = some (ai_ G 9 i_2) := q_2
  refine z_iload_n B dX1_addUsualTemplate_7 rfl 0 rfl ?_
  refine z_bipush (v := 9) B dX1_addUsualTemplate_8 rfl ?_
  refine z_icmp_ge (tgt := 29) B dX1_addUsualTemplate_10 rfl (fun c_1 => ?_) (fun c_1 => ?_)
  · have e_1 : 9 ≤ i_1 := (nI_leI (a := 9) (b := i_1) (by omega) (by omega)).mp c_1
    have h_5 : Φl1 (x + 25) = some (o_ 3 [.ref (x + 26), .ref (x + 27), .ref (x + 28), .ref (x + 29), .int 1, .int (c 9)]) := ((hF1 (x + 25) fq_596).trans h_2)
    have hq1 : i_1 = 9 := by omega
    subst hq1
    exact z_ret_v B dX1_addUsualTemplate_29 ⟨⟨rfl, CfP.usual hcf0 (fun k9 h9 => (fun b9 (h9 : ∀ j9, b9 = x + j9 → ¬ (j9 = 25 ∨ j9 = 30 ∨ j9 = 31)) => ((hF1 b9 (fun j9 h8 h7 => h9 j9 h8 (fq_597 j9 h7))).trans ((fset_fr hΦ1 (fun h8 => h9 (25) h8 (show 25 = 25 ∨ 25 = 30 ∨ 25 = 31 by decide))).trans rfl))) (x + k9) (fun j8 q8 h8 => by omega)) h_5 b_4 b_3⟩, rfl, hI2, (fun b9 h9 => ((hF1 b9 (fun j9 h8 h7 => h9 j9 h8 (fq_597 j9 h7))).trans ((fset_fr hΦ1 (fun h8 => h9 (25) h8 (show 25 = 25 ∨ 25 = 30 ∨ 25 = 31 by decide))).trans rfl)))⟩
  · have e_2 : ¬ (9 ≤ i_1) := fun h9 => c_1 ((nI_leI (a := 9) (b := i_1) (by omega) (by omega)).mpr h9)
    refine z_aload_n B dX1_addUsualTemplate_13 rfl 1 rfl ?_
    have h_6 : Φl1 (x + 25) = some (o_ 3 [.ref (x + 26), .ref (x + 27), .ref (x + 28), .ref (x + 29), .int 1, .int (c 9)]) := ((hF1 (x + 25) fq_596).trans h_2)
    refine z_get (ref := "FlowExporter$Config") (C := RX1) (T := TX1) (N := 6) (ci := 3) (v := .ref (x + 28)) B hu_X1_addUsualTemplate_X1 rfl 2 (Nat.le_of_ble_eq_true rfl) hv_X1_addUsualTemplate_20 rfl h_6 rfl dX1_addUsualTemplate_14 ?_
    refine z_iconst (v := 0) B dX1_addUsualTemplate_17 rfl ?_
    obtain ⟨f_2, h_7, r_1⟩ := in6 (k := 28) hI2 rfl
    have h_8 : Φl1 (x + 28) = some (aq_ G 4 4 f_2) := h_7
    refine z_aald (b := x + 30) B rfl h_8 (vin rfl) ((r_1 0 (by omega))) dX1_addUsualTemplate_18 ?_
    refine z_iload_n B dX1_addUsualTemplate_19 rfl 0 rfl ?_
    refine z_callV (As := [.int (nI i_1)]) (rest := []) B (s_X10_addFieldF G l Φl1 sz x (ca) i_1 (nI (2 ^ i_1 - 1)) (fB_ i_2 511 i_1) i_2 30 i_1 hx hI2 rfl h_3 h_4 (show i_1 < 9 by omega) (show i_1 < 9 by omega) (us_bit i_1 (by omega))) (cwV 1 B.1.2.2.2.2 gX1_addUsualTemplate_X10_addField rfl rfl rfl (by decide +kernel) ⟨Nat.le_of_ble_eq_true rfl, Nat.le_of_ble_eq_true rfl⟩) h_3 rfl rfl rfl rfl (Nat.le_of_ble_eq_true rfl) dX1_addUsualTemplate_20 ⟨Nat.le_of_ble_eq_true rfl, Nat.le_of_ble_eq_true rfl⟩ (fun r_2 Φ2 sz1 st1 hp1 hs1 => ?_)
    obtain ⟨⟨rfl, h_9, h_10⟩, hq2, hI3, hF2⟩ := hp1
    subst sz1
    replace hs1 : st1 = [] := hs1
    subst st1
    replace hI3 : In G x (ca) Φ2 := hI3
    refine z_iinc (k := 0) (v := nI (i_1 + 1)) (lv' := [(1, .int (nI (i_1 + 1))), (0, .ref (x + 25))]) B dX1_addUsualTemplate_23 rfl (nI_add i_1 1) (Nat.le_of_ble_eq_true rfl) rfl ?_
    refine z_goto (tgt := 7) B dX1_addUsualTemplate_26 rfl ?_
    refine z_lv [0, 1] rfl ?_
    exact ih1 (i_1 + 1, (upd i_2 i_1 (nI i_1))) Φ2 (show 9 - (i_1 + 1) < 9 - i_1 by omega) ⟨hI3, (fun b9 h9 => ((hF2 b9 (fun j9 h8 h7 => h9 j9 h8 (fq_598 j9 h7))).trans ((hF1 b9 h9).trans rfl))), (show (i_1 + 1) ≤ 9 by omega), ((CfU.add (k := 25) (w := 0) hd1 b_2 (us_pw i_1 (by omega)).1 (by omega) (us_bit i_1 (by omega)) h_9 h_10).2.trans (congrArg nI (us_pw i_1 (by omega)).2)), (us_row b_3), (CfU.add (k := 25) (w := 0) hd1 b_2 (us_pw i_1 (by omega)).1 (by omega) (us_bit i_1 (by omega)) h_9 h_10).1, trivial⟩

/-! a template taken over, as far as a set has its fields -/
theorem fM_mono (f : Nat → Int32) (s : Int32) {i : Nat} : ∀ j, i ≤ j → fM f s i ≤ fM f s j := by
  intro j
  induction j with
  | zero => intro h; rw [Nat.le_zero.mp h]; exact Nat.le_refl _
  | succ j ih =>
    intro h
    by_cases e : i = j + 1
    · rw [e]
      exact Nat.le_refl _
    · have h1 := ih (by omega)
      by_cases hb : bitI (f j) s
      · rw [fM_y hb]
        omega
      · rw [fM_n hb]
        exact h1
theorem fM_lt {f : Nat → Int32} {s : Int32} {i j : Nat} (h : i < j) (hb : bitI (f i) s) : fM f s i < fM f s j := by
  have h1 := fM_mono f s (i := i + 1) j h
  rw [fM_y hb] at h1
  omega
noncomputable def CpF (G : EnvG) (x k j b : Nat) (f g : Nat → Int32) (Φ : Hm) : Prop := Φ (x + k) = some (o_ 12 [.ref (x + (k + 1)), .int (nI (fM f (nI b) j)), .int (fS f (nI b) j), .int (fB_ f (nI b) j)]) ∧ Φ (x + (k + 1)) = some (ai_ G 9 g) ∧ ∀ i, i < j → bitI (f i) (nI b) → g (fM f (nI b) i) = f i
theorem CpF.mv {G : EnvG} {x k j b : Nat} {f g : Nat → Int32} {Φ Φ1 : Hm} (h : CpF G x k j b f g Φ) (e1 : Φ1 (x + k) = Φ (x + k)) (e2 : Φ1 (x + (k + 1)) = Φ (x + (k + 1))) : CpF G x k j b f g Φ1 := ⟨e1.trans h.1, e2.trans h.2.1, h.2.2⟩
theorem CpF.fr {G : EnvG} {x k j b : Nat} {f g : Nat → Int32} {md : Nat → Prop} {Φ Φ1 : Hm} (h : CpF G x k j b f g Φ) (hF : Fr x md Φ Φ1) (hm : ∀ i, md i → ¬ (i = k ∨ i = k + 1)) : CpF G x k j b f g Φ1 := CpF.mv h (hF _ (fun i q hi => hm i hi (by omega))) (hF _ (fun i q hi => hm i hi (by omega)))
theorem CpF.off {G : EnvG} {x j b k k0 : Nat} {f g : Nat → Int32} {e : va_E} {Φ Φ1 : Hm} (h : CpF G x k0 j b f g Φ) (h1 : Φ1 = fset Φ (x + k) e) (hk : ¬ (k = k0 ∨ k = k0 + 1)) : CpF G x k0 j b f g Φ1 := CpF.mv h (fset_fr h1 (by omega)) (fset_fr h1 (by omega))
theorem CpF.n {G : EnvG} {x k j b : Nat} {f g : Nat → Int32} {Φ : Hm} (h : CpF G x k j b f g Φ) (hb : ¬ bitI (f j) (nI b)) : CpF G x k (j + 1) b f g Φ := by
  obtain ⟨h1, h2, h3⟩ := h
  refine ⟨by rw [fM_n hb, fS_n hb, fB_n hb]; exact h1, h2, fun i hi hq => ?_⟩
  by_cases e : i = j
  · subst e
    exact absurd hq hb
  · exact h3 i (by omega) hq
theorem CpF.y {G : EnvG} {x k j b n : Nat} {f g : Nat → Int32} {Φ Φ1 : Hm} (h : CpF G x k j b f g Φ) (hb : bitI (f j) (nI b)) (e : f j = nI n) (hn : n ≤ 8) (h1 : Φ1 (x + k) = some (o_ 12 [.ref (x + (k + 1)), .int (nI (fM f (nI b) j + 1)), .int (fS f (nI b) j ||| ((1 : Int32) <<< (nI n &&& 31))), .int (fB_ f (nI b) j + fbT n)])) (h2 : Φ1 (x + (k + 1)) = some (ai_ G 9 (upd g (fM f (nI b) j) (nI n)))) : CpF G x k (j + 1) b f (upd g (fM f (nI b) j) (nI n)) Φ1 := by
  refine ⟨?_, h2, fun i hi hq => ?_⟩
  · rw [fM_y hb, fS_y hb, fB_y hb, e, nI_clamp (by omega)]
    exact h1
  · by_cases e2 : i = j
    · subst e2
      rw [upd_at, e]
    · have h3 := fM_lt (f := f) (s := nI b) (i := i) (j := j) (by omega) hq
      rw [upd_ne (by omega)]
      exact h.2.2 i (by omega) hq
theorem fM_all {f : Nat → Int32} {m : Nat} (h : dF f m) : ∀ j, j ≤ m → fM f 511 j = j := by
  intro j
  induction j with
  | zero => intro _; rfl
  | succ j ih =>
    intro hj
    rw [fM_y (bit_511 (h j (by omega)).1), ih (by omega)]
/-- what was taken over whole is as it was -/
theorem CpF.all {G : EnvG} {x k m : Nat} {f g : Nat → Int32} {Φ : Hm} (h : CpF G x k m 511 f g Φ) (hd : dF f m) : dF g m ∧ (∀ j, j < m → g j = f j) ∧ Φ (x + k) = some (o_ 12 [.ref (x + (k + 1)), .int (nI m), .int (fS g 511 m), .int (fB_ g 511 m)]) ∧ Φ (x + (k + 1)) = some (ai_ G 9 g) := by
  obtain ⟨h1, h2, h3⟩ := h
  have e0 : (nI 511 : Int32) = 511 := rfl
  rw [e0] at h1 h3
  have hg : ∀ j, j < m → g j = f j := fun j hj => by
    have h4 := h3 j hj (bit_511 (hd j hj).1)
    rw [fM_all hd j (by omega)] at h4
    exact h4
  obtain ⟨e1, e2, e3⟩ := fS_ext (f := g) (g := f) (s := 511) m hg
  refine ⟨fun j hj => ?_, hg, ?_, h2⟩
  · obtain ⟨e4, -, -⟩ := fS_ext (f := g) (g := f) (s := 511) j (fun i hi => hg i (by omega))
    rw [hg j hj, e4]
    exact hd j hj
  · rw [e1, e3, ← fM_all hd m (Nat.le_refl m)]
    rw [fM_all hd m (Nat.le_refl m)] at h1 ⊢
    exact h1
/-- the effective template u of the configuration at x + k, s being supported -/
noncomputable def ET (G : EnvG) (x a t u s : Nat) (c : Cf) (Φ : Hm) : Prop := ∃ (m : Nat) (f g : Nat → Int32), (u < t → 1 ≤ m ∧ c (11 + u) = nI m ∧ ∀ j, j < m → f j = c (15 + 9 * u + j)) ∧ (t ≤ u → m = 0) ∧ m ≤ 9 ∧ dF f m ∧ CpF G x a m s f g Φ
theorem ET.eq {G : EnvG} {x a t u s : Nat} {c : Cf} {Φ Φ1 : Hm} (h : ET G x a t u s c Φ) (e1 : Φ1 (x + a) = Φ (x + a)) (e2 : Φ1 (x + (a + 1)) = Φ (x + (a + 1))) : ET G x a t u s c Φ1 := by
  obtain ⟨m, f, g, h1, h2, h3, h4, h5⟩ := h
  exact ⟨m, f, g, h1, h2, h3, h4, h5.mv e1 e2⟩

set_option maxHeartbeats 4000000 in
set_option maxRecDepth 100000 in
theorem s_X10_fieldF (G : EnvG) (l : Launch) (Φ : Hm) (sz x ca : Nat) (m : Nat) (ms : Int32) (rb : Int32) (f : Nat → Int32) (k : Nat) (p : Nat) (hx : G.2.2.2 ≤ x) (hI : In G x ca Φ) (hk_k : kd k = 8) (hc0 : Φ (x + (k)) = some (o_ 12 [.ref (x + (k + 1)), .int (nI m), .int ms, .int rb])) (hc1 : Φ (x + (k + 1)) = some (ai_ G 9 f)) (hp : p < m) (hm : m ≤ 9) : Ct G l yX10_field wsX10_field ({ frames := 0, cells := 0, slots := 0, locals := 0 }) 0 0 [.ref (x + (k)), .int (nI p)] Φ sz (fun v Φ1 sz1 => (v = some (.int (f p))) ∧ sz1 = sz ∧ In G x (ca) Φ1 ∧ Fr x (fun j9 => False) Φ Φ1) := by
  refine Ct.of (cc := cX10_field) (maxL := 2) (ret := (some .int)) (by decide) rfl (Nat.le_of_ble_eq_true rfl) ?_
  intro p9 e9 s9 m9 w9 t9 k9 B
  show Z p9 l e9 _ s9 m9 _ w9 t9 k9 _ G 2 0 [(0, .ref (x + (k))), (1, .int (nI p))] [] Φ sz 0 0
  refine z_iload_n B dX10_field_0 rfl 1 rfl ?_
  refine z_if_lt (tgt := 21) B dX10_field_1 rfl (fun c_1 => ?_) (fun c_1 => ?_)
  · have e_1 : p < 0 := (nI_ltI (a := p) (b := 0) (by omega) (by omega)).mp c_1
    refine z_iconst (v := (-1)) B dX10_field_21 rfl ?_
    exact z_ret_i B dX10_field_22 ⟨((show False by omega).elim), rfl, hI, (fun b9 h9 => rfl)⟩
  · have e_2 : ¬ (p < 0) := fun h9 => c_1 ((nI_ltI (a := p) (b := 0) (by omega) (by omega)).mpr h9)
    refine z_iload_n B dX10_field_4 rfl 1 rfl ?_
    refine z_aload_n B dX10_field_5 rfl 0 rfl ?_
    refine z_get (ref := "FlowExporter$Template") (C := RX10) (T := TX10) (N := 4) (ci := 12) (v := .int (nI m)) B hu_X10_field_X10 rfl 1 (Nat.le_of_ble_eq_true rfl) hv_X10_field_15 rfl hc0 rfl dX10_field_6 ?_
    refine z_icmp_ge (tgt := 21) B dX10_field_9 rfl (fun c_2 => ?_) (fun c_2 => ?_)
    · have e_3 : m ≤ p := (nI_leI (a := m) (b := p) (by omega) (by omega)).mp c_2
      refine z_iconst (v := (-1)) B dX10_field_21 rfl ?_
      exact z_ret_i B dX10_field_22 ⟨((show False by omega).elim), rfl, hI, (fun b9 h9 => rfl)⟩
    · have e_4 : ¬ (m ≤ p) := fun h9 => c_2 ((nI_leI (a := m) (b := p) (by omega) (by omega)).mpr h9)
      refine z_aload_n B dX10_field_12 rfl 0 rfl ?_
      refine z_get (ref := "FlowExporter$Template") (C := RX10) (T := TX10) (N := 4) (ci := 12) (v := .ref (x + (k + 1))) B hu_X10_field_X10 rfl 0 (Nat.le_of_ble_eq_true rfl) hv_X10_field_9 rfl hc0 rfl dX10_field_13 ?_
      refine z_iload_n B dX10_field_16 rfl 1 rfl ?_
      refine z_iald B hc1 (vp_in_nI (by omega) (by omega)) dX10_field_17 ?_
      refine z_goto (tgt := 22) B dX10_field_18 rfl ?_
      exact z_ret_i B dX10_field_22 ⟨(congrArg (fun w9 : Nat => some (Value.int (f w9))) (nI_clamp (n := p) (by omega))), rfl, hI, (fun b9 h9 => rfl)⟩

set_option maxHeartbeats 4000000 in
set_option maxRecDepth 100000 in
theorem s_X10_copyFromF (G : EnvG) (l : Launch) (Φ : Hm) (sz x ca : Nat) (m : Nat) (se : Int32) (rb : Int32) (f : Nat → Int32) (k : Nat) (q : Nat) (b : Nat) (hx : G.2.2.2 ≤ x) (hI : In G x ca Φ) (hk_k : kd k = 8) (hk_q : kd q = 8) (hc0 : Φ (x + (q)) = some (o_ 12 [.ref (x + (q + 1)), .int (nI m), .int se, .int rb])) (hc1 : Φ (x + (q + 1)) = some (ai_ G 9 f)) (hkq : k ≠ q) (hkq1 : k + 1 ≠ q) (hkq2 : k ≠ q + 1) (hd : dF f m) (hm : m ≤ 9) (hb : b < 512) : Ct G l yX10_copyFrom wsX10_copyFrom ({ frames := 1, cells := 0, slots := 0, locals := 21 }) 0 0 [.ref (x + (k)), .ref (x + (q)), .int (nI b)] Φ sz (fun v Φ1 sz1 => (v = none ∧ ∃ g9 : Nat → Int32, CpF G x k m b f g9 Φ1) ∧ sz1 = sz ∧ In G x (ca) Φ1 ∧ Fr x (fun j9 => j9 = k ∨ j9 = k + 1) Φ Φ1) := by
  refine Ct.of (cc := cX10_copyFrom) (maxL := 5) (ret := none) (by decide) rfl (Nat.le_of_ble_eq_true rfl) ?_
  intro p9 e9 s9 m9 w9 t9 k9 B
  show Z p9 l e9 _ s9 m9 _ w9 t9 k9 _ G 5 0 [(0, .ref (x + (k))), (1, .ref (x + (q))), (2, .int (nI b))] [] Φ sz 0 0
  refine z_aload_n B dX10_copyFrom_0 rfl 0 rfl ?_
  obtain ⟨n_1, v_1, v_2, h_1, b_1⟩ := in8 (k := k) hI hk_k
  have h_2 : Φ (x + (k)) = some (o_ 12 [.ref (x + (k + 1)), .int (nI n_1), .int v_1, .int v_2]) := h_1
  refine z_callV (As := []) (rest := []) B (s_X10_clearE G l Φ sz x (ca) k hx hI hk_k) (cwV 0 B.1.2.2.2.2 gX10_copyFrom_X10_clear rfl rfl rfl (by decide +kernel) ⟨Nat.le_of_ble_eq_true rfl, Nat.le_of_ble_eq_true rfl⟩) h_2 rfl rfl rfl rfl (Nat.le_of_ble_eq_true rfl) dX10_copyFrom_1 ⟨Nat.le_of_ble_eq_true rfl, Nat.le_of_ble_eq_true rfl⟩ (fun r_1 Φ1 sz1 st1 hp1 hs1 => ?_)
  obtain ⟨⟨rfl, h_3⟩, hq1, hI1, hF1⟩ := hp1
  subst sz1
  replace hs1 : st1 = [] := hs1
  subst st1
  replace hI1 : In G x (ca) Φ1 := hI1
  have h_4 : Φ1 (x + (q)) = some (o_ 12 [.ref (x + (q + 1)), .int (nI m), .int se, .int rb]) := (hF1 (x + (q)) (fun j9 h8 h7 => by have h6 : j9 = k := h7; omega)).trans hc0
  have h_5 : Φ1 (x + (q + 1)) = some (ai_ G 9 f) := (hF1 (x + (q + 1)) (fun j9 h8 h7 => by have h6 : j9 = k := h7; omega)).trans hc1
  obtain ⟨f_1, h_6⟩ := in9 (k := k + 1) hI1 (kd_t hk_k)
  have h_7 : Φ1 (x + (k + 1)) = some (ai_ G 9 f_1) := h_6
  have hcg1 : CpF G x k 0 b f f_1 Φ1 := ⟨h_3, h_7, fun i9 h9 => absurd h9 (Nat.not_lt_zero i9)⟩
  refine z_iconst (v := 0) B dX10_copyFrom_4 rfl ?_
  refine z_istore_n (lv' := [(3, .int 0), (0, .ref (x + (k))), (1, .ref (x + (q))), (2, .int (nI b))]) B dX10_copyFrom_5 rfl (Nat.le_of_ble_eq_true rfl) rfl ?_
  refine z_lv [0, 1, 2, 3] rfl ?_
  refine z_loop (α := Nat × (Nat → Int32)) (fun (a9 : Nat × (Nat → Int32)) Φi => In G x (ca) Φi ∧ Fr x (fun j9 => j9 = k ∨ j9 = k + 1) Φ1 Φi ∧ (a9.1 ≤ m) ∧ (CpF G x k a9.1 b f a9.2 Φi) ∧ True) (fun a9 => [(3, .int (nI (a9.1))), (0, .ref (x + (k))), (1, .ref (x + (q))), (2, .int (nI b))]) (fun a9 => m - a9.1) ?_ (0, f_1) ⟨hI1, fun _ _ => rfl, (show 0 ≤ m by omega), hcg1, trivial⟩
  rintro ⟨i_1, i_2⟩ Φl1 ⟨hI2, hF2, b_2, b_3, -⟩ ih1
  replace hI2 : In G x (ca) Φl1 := hI2
  replace b_2 : i_1 ≤ m := b_2
  replace b_3 : CpF G x k i_1 b f i_2 Φl1 := b_3
  show Z p9 l e9 _ s9 m9 _ w9 t9 k9 _ G 5 6 [(3, .int (nI i_1)), (0, .ref (x + (k))), (1, .ref (x + (q))), (2, .int (nI b))] [] Φl1 _ _ _
  obtain ⟨h_8, h_9, q_1⟩ := id b_3
  have h_10 : Φl1 (x + (q)) = some (o_ 12 [.ref (x + (q + 1)), .int (nI m), .int se, .int rb]) := (hF2 (x + (q)) (fun j9 h8 h7 => by have h6 : j9 = k ∨ j9 = k + 1 := h7; omega)).trans h_4
  have h_11 : Φl1 (x + (q + 1)) = some (ai_ G 9 f) := (hF2 (x + (q + 1)) (fun j9 h8 h7 => by have h6 : j9 = k ∨ j9 = k + 1 := h7; omega)).trans h_5
  refine z_iload_n B dX10_copyFrom_6 rfl 0 rfl ?_
  refine z_aload_n B dX10_copyFrom_7 rfl 2 rfl ?_
  refine z_get (ref := "FlowExporter$Template") (C := RX10) (T := TX10) (N := 4) (ci := 12) (v := .int (nI m)) B hu_X10_copyFrom_X10 rfl 1 (Nat.le_of_ble_eq_true rfl) hv_X10_copyFrom_15 rfl h_10 rfl dX10_copyFrom_8 ?_
  refine z_icmp_ge (tgt := 43) B dX10_copyFrom_11 rfl (fun c_1 => ?_) (fun c_1 => ?_)
  · have e_1 : m ≤ i_1 := (nI_leI (a := m) (b := i_1) (by omega) (by omega)).mp c_1
    have hq2 : i_1 = m := by omega
    subst hq2
    exact z_ret_v B dX10_copyFrom_43 ⟨⟨rfl, _, b_3⟩, rfl, hI2, (fun b9 h9 => ((hF2 b9 h9).trans ((hF1 b9 (fun j9 h8 h7 => h9 j9 h8 (show j9 = k ∨ j9 = k + 1 by have h6 : j9 = k := h7; omega))).trans rfl)))⟩
  · have e_2 : ¬ (m ≤ i_1) := fun h9 => c_1 ((nI_leI (a := m) (b := i_1) (by omega) (by omega)).mpr h9)
    refine z_aload_n B dX10_copyFrom_14 rfl 2 rfl ?_
    refine z_iload_n B dX10_copyFrom_15 rfl 0 rfl ?_
    refine z_callV (As := [.int (nI i_1)]) (rest := []) B (s_X10_fieldF G l Φl1 sz x (ca) m se rb f q i_1 hx hI2 hk_q h_10 h_11 (show i_1 < m by omega) (show m ≤ 9 by omega)) (cwV 1 B.1.2.2.2.2 gX10_copyFrom_X10_field rfl rfl rfl (by decide +kernel) ⟨Nat.le_of_ble_eq_true rfl, Nat.le_of_ble_eq_true rfl⟩) h_10 rfl rfl rfl rfl (Nat.le_of_ble_eq_true rfl) dX10_copyFrom_16 ⟨Nat.le_of_ble_eq_true rfl, Nat.le_of_ble_eq_true rfl⟩ (fun r_2 Φ2 sz2 st2 hp2 hs2 => ?_)
    obtain ⟨rfl, hq3, hI3, hF3⟩ := hp2
    subst sz2
    replace hs2 : st2 = [.int (f i_1)] := hs2
    subst st2
    replace hI3 : In G x (ca) Φ2 := hI3
    refine z_istore (lv' := [(4, .int (f i_1)), (3, .int (nI i_1)), (0, .ref (x + (k))), (1, .ref (x + (q))), (2, .int (nI b))]) B dX10_copyFrom_19 (Nat.le_of_ble_eq_true rfl) rfl ?_
    refine z_iload_n B dX10_copyFrom_21 rfl 4 rfl ?_
    refine z_iload B dX10_copyFrom_22 0 rfl ?_
    refine z_ishr B dX10_copyFrom_24 ?_
    refine z_iconst (v := 1) B dX10_copyFrom_25 rfl ?_
    refine z_iand B dX10_copyFrom_26 ?_
    refine z_iconst (v := 1) B dX10_copyFrom_27 rfl ?_
    refine z_icmp_ne (tgt := 37) B dX10_copyFrom_28 rfl (fun c_2 => ?_) (fun c_2 => ?_)
    · refine z_iinc (k := 1) (v := nI (i_1 + 1)) (lv' := [(3, .int (nI (i_1 + 1))), (4, .int (f i_1)), (0, .ref (x + (k))), (1, .ref (x + (q))), (2, .int (nI b))]) B dX10_copyFrom_37 rfl (nI_add i_1 1) (Nat.le_of_ble_eq_true rfl) rfl ?_
      refine z_goto (tgt := 6) B dX10_copyFrom_40 rfl ?_
      refine z_lv [0, 2, 3, 4] rfl ?_
      have hcg2 : CpF G x k i_1 b f i_2 Φ2 := (CpF.fr b_3 hF3 (fun j9 h7 => (show False from h7).elim))
      exact ih1 (i_1 + 1, i_2) Φ2 (show m - (i_1 + 1) < m - i_1 by omega) ⟨hI3, (fun b9 h9 => ((hF3 b9 (fun j9 h8 h7 => (show False from h7).elim)).trans ((hF2 b9 h9).trans rfl))), (show (i_1 + 1) ≤ m by omega), (CpF.n hcg2 c_2), trivial⟩
    · have hb9 : bitI (f i_1) (nI b) := c_2
      obtain ⟨n_2, b_4, e_3⟩ := (hd i_1 (by omega)).1
      have hB1 : ¬ (fS f (nI b) i_1 >>> (nI n_2 &&& 31)) &&& 1 = 1 := e_3 ▸ fS_new hb hd (by omega)
      have b_5 := fM_le f (nI b) i_1
      refine z_aload_n B dX10_copyFrom_31 rfl 2 rfl ?_
      refine z_iload B dX10_copyFrom_32 0 rfl ?_
      refine z_top (st1 := [.int (nI n_2), .ref (x + (k))]) (congrArg (fun w9 : Int32 => ([.int w9, .ref (x + (k))] : List Value)) (e_3)) ?_
      have h_12 : Φ2 (x + (k)) = some (o_ 12 [.ref (x + (k + 1)), .int (nI (fM f (nI b) i_1)), .int (fS f (nI b) i_1), .int (fB_ f (nI b) i_1)]) := ((hF3 (x + (k)) (fun j9 h8 h7 => (show False from h7).elim)).trans h_8)
      have h_13 : Φ2 (x + (k + 1)) = some (ai_ G 9 i_2) := ((hF3 (x + (k + 1)) (fun j9 h8 h7 => (show False from h7).elim)).trans h_9)
      refine z_callV (As := [.int (nI n_2)]) (rest := []) B (s_X10_addFieldF G l Φ2 sz x (ca) (fM f (nI b) i_1) (fS f (nI b) i_1) (fB_ f (nI b) i_1) i_2 k n_2 hx hI3 hk_k h_12 h_13 (show n_2 < 9 by omega) (show (fM f (nI b) i_1) < 9 by omega) hB1) (cwV 1 B.1.2.2.2.2 gX10_copyFrom_X10_addField rfl rfl rfl (by decide +kernel) ⟨Nat.le_of_ble_eq_true rfl, Nat.le_of_ble_eq_true rfl⟩) h_12 rfl rfl rfl rfl (Nat.le_of_ble_eq_true rfl) dX10_copyFrom_34 ⟨Nat.le_of_ble_eq_true rfl, Nat.le_of_ble_eq_true rfl⟩ (fun r_3 Φ3 sz3 st3 hp3 hs3 => ?_)
      obtain ⟨⟨rfl, h_14, h_15⟩, hq4, hI4, hF4⟩ := hp3
      subst sz3
      replace hs3 : st3 = [] := hs3
      subst st3
      replace hI4 : In G x (ca) Φ3 := hI4
      refine z_iinc (k := 1) (v := nI (i_1 + 1)) (lv' := [(3, .int (nI (i_1 + 1))), (4, .int (f i_1)), (0, .ref (x + (k))), (1, .ref (x + (q))), (2, .int (nI b))]) B dX10_copyFrom_37 rfl (nI_add i_1 1) (Nat.le_of_ble_eq_true rfl) rfl ?_
      refine z_goto (tgt := 6) B dX10_copyFrom_40 rfl ?_
      refine z_lv [0, 2, 3, 4] rfl ?_
      exact ih1 (i_1 + 1, (upd i_2 (fM f (nI b) i_1) (nI n_2))) Φ3 (show m - (i_1 + 1) < m - i_1 by omega) ⟨hI4, (fun b9 h9 => ((hF4 b9 h9).trans ((hF3 b9 (fun j9 h8 h7 => (show False from h7).elim)).trans ((hF2 b9 h9).trans rfl)))), (show (i_1 + 1) ≤ m by omega), (CpF.y b_3 hb9 e_3 b_4 h_14 h_15), trivial⟩

/-! a configuration taken over; its effective templates -/
noncomputable def CfQ (G : EnvG) (x k t : Nat) (c : Cf) (Φ : Hm) : Prop := c 10 = nI t ∧ t ≤ 4 ∧ (∃ sp : Int32, Φ (x + k) = some (o_ 3 [.ref (x + (k + 1)), .ref (x + (k + 2)), .ref (x + (k + 3)), .ref (x + (k + 4)), .int (nI t), .int sp])) ∧ (∃ f, Φ (x + (k + 1)) = some (ai_ G 9 f) ∧ ∀ j, j < 9 → f j = c j) ∧ (∃ f, Φ (x + (k + 2)) = some (ai_ G 256 f) ∧ ∀ j, j < 256 → f j = c (51 + j)) ∧ ∀ u, u < 4 → WT G x (k + 5 + 4 * u) t u c Φ
theorem CfP.row1 {G : EnvG} {x k t w : Nat} {c : Cf} {f : Nat → Int32} {Φ : Hm} (h : CfP G x k t w c Φ) (hf : Φ (x + (k + 1)) = some (ai_ G 9 f)) : ∀ j, j < 9 → f j = c j := by
  obtain ⟨-, -, -, ⟨g, q4, q5⟩, -⟩ := h
  have e := ai_inj0 (q4.symm.trans hf)
  subst e
  exact q5
theorem CfP.row2 {G : EnvG} {x k t w : Nat} {c : Cf} {f : Nat → Int32} {Φ : Hm} (h : CfP G x k t w c Φ) (hf : Φ (x + (k + 2)) = some (ai_ G 256 f)) : ∀ j, j < 256 → f j = c (51 + j) := by
  obtain ⟨-, -, -, -, ⟨g, q4, q5⟩, -⟩ := h
  have e := ai_inj0 (q4.symm.trans hf)
  subst e
  exact q5
theorem CfP.wt {G : EnvG} {x k t w u : Nat} {c : Cf} {Φ : Hm} (h : CfP G x k t w c Φ) (hu : u < 4) (hw : ¬ u = w) : WT G x (k + 5 + 4 * u) t u c Φ := h.2.2.2.2.2.1 u hu hw
theorem CfP.sN {G : EnvG} {x k t w : Nat} {c : Cf} {Φ : Hm} (h : CfP G x k t w c Φ) : ∃ s : Nat, s < 512 ∧ c 9 = nI s := h.2.2.2.2.2.2
theorem CfQ.sup {G : EnvG} {x k t b : Nat} {c : Cf} {Φ Φ1 : Hm} (h : CfQ G x k t c Φ) (hb : b < 512) (h1 : Φ1 = fset Φ (x + k) (o_ 3 [.ref (x + (k + 1)), .ref (x + (k + 2)), .ref (x + (k + 3)), .ref (x + (k + 4)), .int (nI t), .int (nI b)])) : CfP G x k t 4 (upd c 9 (nI b)) Φ1 := by
  obtain ⟨q1, q2, -, ⟨g, q4, q5⟩, ⟨g2, q6, q7⟩, q8⟩ := h
  refine ⟨(upd_ne (by decide)).trans q1, q2, ?_, ⟨g, (fset_fr h1 (by omega)).trans q4, fun j hj => (q5 j hj).trans (upd_ne (by omega)).symm⟩, ⟨g2, (fset_fr h1 (by omega)).trans q6, fun j hj => (q7 j hj).trans (upd_ne (by omega)).symm⟩, fun u hu _ => ((q8 u hu).eq (fset_fr h1 (by omega)) (fset_fr h1 (by omega))).cong (upd_ne (by omega)) (fun j hj => upd_ne (by omega)), b, hb, upd_at⟩
  rw [show upd c 9 (nI b) 9 = nI b from upd_at]
  exact fset_at h1
theorem ETs_s {G : EnvG} {x t b i : Nat} {c : Cf} {md : Nat → Prop} {Φ Φ1 : Hm} (h : ∀ u, u < i → ET G x (10 + 4 * u) t u b c Φ) (hF : Fr x md Φ Φ1) (hm : ∀ j, md j → j = 10 + 4 * i ∨ j = 10 + 4 * i + 1) (hn : ET G x (10 + 4 * i) t i b c Φ1) : ∀ u, u < i + 1 → ET G x (10 + 4 * u) t u b c Φ1 := by
  intro u hu
  by_cases e : u = i
  · subst e
    exact hn
  · exact (h u (by omega)).eq (hF _ (fun j q hj => by have := hm j hj; omega)) (hF _ (fun j q hj => by have := hm j hj; omega))
theorem WTs_s {G : EnvG} {x t i : Nat} {c : Cf} {md : Nat → Prop} {Φ Φ1 : Hm} (h : ∀ u, u < i → WT G x (8 + 4 * u) t u c Φ) (hF : Fr x md Φ Φ1) (hm : ∀ j, md j → j = 8 + 4 * i ∨ j = 8 + 4 * i + 1) (hn : WT G x (8 + 4 * i) t i c Φ1) : ∀ u, u < i + 1 → WT G x (8 + 4 * u) t u c Φ1 := by
  intro u hu
  by_cases e : u = i
  · subst e
    exact hn
  · exact (h u (by omega)).eq (hF _ (fun j q hj => by have := hm j hj; omega)) (hF _ (fun j q hj => by have := hm j hj; omega))
theorem ET.of {G : EnvG} {x a t u b m : Nat} {c : Cf} {f g : Nat → Int32} {Φ : Hm} (w1 : u < t → 1 ≤ m ∧ c (11 + u) = nI m ∧ ∀ j, j < m → f j = c (15 + 9 * u + j)) (w2 : t ≤ u → m = 0) (w3 : m ≤ 9) (w4 : dF f m) (h : CpF G x a m b f g Φ) : ET G x a t u b c Φ := ⟨m, f, g, w1, w2, w3, w4, h⟩
theorem WT.of {G : EnvG} {x a t u m : Nat} {c : Cf} {f g : Nat → Int32} {Φ : Hm} (w1 : u < t → 1 ≤ m ∧ c (11 + u) = nI m ∧ ∀ j, j < m → f j = c (15 + 9 * u + j)) (w2 : t ≤ u → m = 0) (w3 : m ≤ 9) (w4 : dF f m) (h : CpF G x a m 511 f g Φ) : WT G x a t u c Φ := by
  obtain ⟨h1, h2, h3, h4⟩ := h.all w4
  refine ⟨m, g, fun hu => ?_, w2, w3, h1, h3, h4⟩
  obtain ⟨g1, g2, g3⟩ := w1 hu
  exact ⟨g1, g2, fun j hj => (h2 j hj).trans (g3 j hj)⟩
theorem upd_self {c : Cf} {i : Nat} {v : Int32} (h : c i = v) : upd c i v = c := by
  funext j
  by_cases e : j = i
  · subst e
    rw [upd_at, h]
  · exact upd_ne e
theorem cpy_0 {f g : Nat → Int32} {N : Nat} {n : Int32} (hn : n.toNatClampNeg = N) : ∀ j, j < N → va_cpy f g (0 : Int32).toNatClampNeg (0 : Int32).toNatClampNeg n.toNatClampNeg j = f j := by
  intro j hj
  unfold va_cpy
  have e0 : (0 : Int32).toNatClampNeg = 0 := by decide
  rw [e0, hn]
  rw [if_pos (by omega)]
  congr 1
  omega

theorem fq_599 : ∀ j9 : Nat, (10 ≤ j9 ∧ j9 < 24) → (j9 = 3 ∨ (10 ≤ j9 ∧ j9 < 24)) := by
  intro j9 h
  omega

theorem fq_600 {x : Nat} : ∀ j9 : Nat, x + 3 = x + j9 → (10 ≤ j9 ∧ j9 < 24) → False := by
  intro j9 h1 h2
  omega

set_option maxHeartbeats 4000000 in
set_option maxRecDepth 100000 in
theorem s_X1_supportF (G : EnvG) (l : Launch) (Φ : Hm) (sz x ca : Nat) (t : Nat) (c : Cf) (b : Nat) (hx : G.2.2.2 ≤ x) (hI : In G x ca Φ) (hcf0 : CfQ G x 3 t c Φ) (hb : b < 512) : Ct G l yX1_support wsX1_support ({ frames := 2, cells := 0, slots := 0, locals := 45 }) 0 0 [.ref (x + 3), .int (nI b)] Φ sz (fun v Φ1 sz1 => (v = none ∧ CfP G x 3 t 4 (upd c 9 (nI b)) Φ1 ∧ ∀ u9, u9 < 4 → ET G x (10 + 4 * u9) t u9 b (upd c 9 (nI b)) Φ1) ∧ sz1 = sz ∧ In G x (ca) Φ1 ∧ Fr x (fun j9 => j9 = 3 ∨ (10 ≤ j9 ∧ j9 < 24)) Φ Φ1) := by
  refine Ct.of (cc := cX1_support) (maxL := 3) (ret := none) (by decide) rfl (Nat.le_of_ble_eq_true rfl) ?_
  intro p9 e9 s9 m9 w9 t9 k9 B
  show Z p9 l e9 _ s9 m9 _ w9 t9 k9 _ G 3 0 [(0, .ref (x + 3)), (1, .int (nI b))] [] Φ sz 0 0
  obtain ⟨v_1, h_1⟩ := hcf0.2.2.1
  have h_2 : Φ (x + 3) = some (o_ 3 [.ref (x + 4), .ref (x + 5), .ref (x + 6), .ref (x + 7), .int (nI t), .int v_1]) := h_1
  refine z_aload_n B dX1_support_0 rfl 0 rfl ?_
  refine z_iload_n B dX1_support_1 rfl 1 rfl ?_
  refine z_put (ref := "FlowExporter$Config") (C := RX1) (T := TX1) (N := 6) (ci := 3) (v := .int (nI b)) B hu_X1_support_X1 tyX1 tyX1_ok nmX1 rfl 5 (Nat.le_of_ble_eq_true rfl) hv_X1_support_31 rfl (Or.inl rfl) h_2 (Nat.le_trans hx (Nat.le_add_right x 3)) rfl rfl (Nat.le_of_ble_eq_true rfl) dX1_support_2 (fun Φ1 hΦ1 => ?_)
  have h_3 : Φ1 (x + 3) = some (o_ 3 [.ref (x + 4), .ref (x + 5), .ref (x + 6), .ref (x + 7), .int (nI t), .int (nI b)]) := fset_at hΦ1
  have hI1 : In G x (ca) Φ1 := In.put (k := 3) hI hΦ1 (ok3 (k := 3) rfl ⟨nI t, nI b, rfl⟩)
  have hcg1 : CfP G x 3 t 4 (upd c 9 (nI b)) Φ1 := CfQ.sup (k := 3) hcf0 hb hΦ1
  refine z_iconst (v := 0) B dX1_support_5 rfl ?_
  refine z_istore_n (lv' := [(2, .int 0), (0, .ref (x + 3)), (1, .int (nI b))]) B dX1_support_6 rfl (Nat.le_of_ble_eq_true rfl) rfl ?_
  refine z_lv [0, 1, 2] rfl ?_
  refine z_loop (α := Nat) (fun (a9 : Nat) Φi => In G x (ca) Φi ∧ Fr x (fun j9 => 10 ≤ j9 ∧ j9 < 24) Φ1 Φi ∧ (a9 ≤ 4) ∧ (∀ u9, u9 < a9 → ET G x (10 + 4 * u9) t u9 b (upd c 9 (nI b)) Φi) ∧ (CfP G x 3 t 4 (upd c 9 (nI b)) Φi) ∧ True) (fun a9 => [(2, .int (nI a9)), (0, .ref (x + 3)), (1, .int (nI b))]) (fun a9 => 4 - a9) ?_ (0) ⟨hI1, fun _ _ => rfl, (show 0 ≤ 4 by omega), (fun u9 h9 => absurd h9 (Nat.not_lt_zero _)), hcg1, trivial⟩
  rintro i_1 Φl1 ⟨hI2, hF1, b_1, b_2, b_3, -⟩ ih1
  replace hI2 : In G x (ca) Φl1 := hI2
  replace b_1 : i_1 ≤ 4 := b_1
  replace b_2 : ∀ u9, u9 < i_1 → ET G x (10 + 4 * u9) t u9 b (upd c 9 (nI b)) Φl1 := b_2
  replace b_3 : CfP G x 3 t 4 (upd c 9 (nI b)) Φl1 := b_3
  show Z p9 l e9 _ s9 m9 _ w9 t9 k9 _ G 3 7 [(2, .int (nI i_1)), (0, .ref (x + 3)), (1, .int (nI b))] [] Φl1 _ _ _
  refine z_iload_n B dX1_support_7 rfl 0 rfl ?_
  refine z_iconst (v := 4) B dX1_support_8 rfl ?_
  refine z_icmp_ge (tgt := 34) B dX1_support_9 rfl (fun c_1 => ?_) (fun c_1 => ?_)
  · have e_1 : 4 ≤ i_1 := (nI_leI (a := 4) (b := i_1) (by omega) (by omega)).mp c_1
    exact z_ret_v B dX1_support_34 ⟨⟨rfl, b_3, fun u9 h9 => b_2 u9 (by omega)⟩, rfl, hI2, (fun b9 h9 => ((hF1 b9 (fun j9 h8 h7 => h9 j9 h8 (fq_599 j9 h7))).trans ((fset_fr hΦ1 (fun h8 => h9 (3) h8 (show 3 = 3 ∨ (10 ≤ 3 ∧ 3 < 24) by decide))).trans rfl)))⟩
  · have e_2 : ¬ (4 ≤ i_1) := fun h9 => c_1 ((nI_leI (a := 4) (b := i_1) (by omega) (by omega)).mpr h9)
    refine z_aload_n B dX1_support_12 rfl 1 rfl ?_
    have h_4 : Φl1 (x + 3) = some (o_ 3 [.ref (x + 4), .ref (x + 5), .ref (x + 6), .ref (x + 7), .int (nI t), .int (nI b)]) := ((hF1 (x + 3) fq_600).trans h_3)
    refine z_get (ref := "FlowExporter$Config") (C := RX1) (T := TX1) (N := 6) (ci := 3) (v := .ref (x + 7)) B hu_X1_support_X1 rfl 3 (Nat.le_of_ble_eq_true rfl) hv_X1_support_24 rfl h_4 rfl dX1_support_13 ?_
    refine z_iload_n B dX1_support_16 rfl 0 rfl ?_
    obtain ⟨f_1, h_5, r_1⟩ := in7 (k := 7) hI2 rfl
    have h_6 : Φl1 (x + 7) = some (aq_ G 4 4 f_1) := h_5
    refine z_aald (b := x + (7 + 3 + 4 * i_1)) B rfl h_6 (vp_in_nI (by omega) (by omega)) ((congrArg f_1 (nI_clamp (by omega))).trans (r_1 i_1 (by omega))) dX1_support_17 ?_
    refine z_aload_n B dX1_support_18 rfl 1 rfl ?_
    refine z_get (ref := "FlowExporter$Config") (C := RX1) (T := TX1) (N := 6) (ci := 3) (v := .ref (x + 6)) B hu_X1_support_X1 rfl 2 (Nat.le_of_ble_eq_true rfl) hv_X1_support_20 rfl h_4 rfl dX1_support_19 ?_
    refine z_iload_n B dX1_support_22 rfl 0 rfl ?_
    obtain ⟨f_2, h_7, r_2⟩ := in6 (k := 6) hI2 rfl
    have h_8 : Φl1 (x + 6) = some (aq_ G 4 4 f_2) := h_7
    refine z_aald (b := x + (6 + 2 + 4 * i_1)) B rfl h_8 (vp_in_nI (by omega) (by omega)) ((congrArg f_2 (nI_clamp (by omega))).trans (r_2 i_1 (by omega))) dX1_support_23 ?_
    refine z_iload_n B dX1_support_24 rfl 2 rfl ?_
    obtain ⟨m_1, f_3, w_1, w_2, w_3, w_4, w_5, w_6⟩ := CfP.wt b_3 (show i_1 < 4 by omega) (show ¬ i_1 = 4 by omega)
    have h_9 : Φl1 (x + (6 + 2 + 4 * i_1)) = some (o_ 12 [.ref (x + (6 + 2 + 4 * i_1 + 1)), .int (nI m_1), .int (fS f_3 511 m_1), .int (fB_ f_3 511 m_1)]) := w_5
    have h_10 : Φl1 (x + (6 + 2 + 4 * i_1 + 1)) = some (ai_ G 9 f_3) := w_6
    obtain ⟨n_1, v_2, v_3, h_11, b_4⟩ := in8 (k := 7 + 3 + 4 * i_1) hI2 (kd_e rfl (by omega))
    have h_12 : Φl1 (x + (7 + 3 + 4 * i_1)) = some (o_ 12 [.ref (x + (7 + 3 + 4 * i_1 + 1)), .int (nI n_1), .int v_2, .int v_3]) := h_11
    refine z_callV (As := [.ref (x + (6 + 2 + 4 * i_1)), .int (nI b)]) (rest := []) B (s_X10_copyFromF G l Φl1 sz x (ca) m_1 (fS f_3 511 m_1) (fB_ f_3 511 m_1) f_3 (7 + 3 + 4 * i_1) (6 + 2 + 4 * i_1) b hx hI2 (kd_e rfl (by omega)) (kd_w rfl (by omega)) h_9 h_10 (show (7 + 3 + 4 * i_1) ≠ (6 + 2 + 4 * i_1) by omega) (show (7 + 3 + 4 * i_1) + 1 ≠ (6 + 2 + 4 * i_1) by omega) (show (7 + 3 + 4 * i_1) ≠ (6 + 2 + 4 * i_1) + 1 by omega) w_4 w_3 (show b < 512 by omega)) (cwV 2 B.1.2.2.2.2 gX1_support_X10_copyFrom rfl rfl rfl (by decide +kernel) ⟨Nat.le_of_ble_eq_true rfl, Nat.le_of_ble_eq_true rfl⟩) h_12 rfl rfl rfl rfl (Nat.le_of_ble_eq_true rfl) dX1_support_25 ⟨Nat.le_of_ble_eq_true rfl, Nat.le_of_ble_eq_true rfl⟩ (fun r_3 Φ2 sz1 st1 hp1 hs1 => ?_)
    obtain ⟨⟨rfl, f_4, hcp1⟩, hq1, hI3, hF2⟩ := hp1
    subst sz1
    replace hs1 : st1 = [] := hs1
    subst st1
    replace hI3 : In G x (ca) Φ2 := hI3
    refine z_iinc (k := 0) (v := nI (i_1 + 1)) (lv' := [(2, .int (nI (i_1 + 1))), (0, .ref (x + 3)), (1, .int (nI b))]) B dX1_support_28 rfl (nI_add i_1 1) (Nat.le_of_ble_eq_true rfl) rfl ?_
    refine z_goto (tgt := 7) B dX1_support_31 rfl ?_
    refine z_lv [0, 1, 2] rfl ?_
    have hcg2 : CfP G x 3 t 4 (upd c 9 (nI b)) Φ2 := (CfP.fr b_3 hF2 (fun j9 h7 => by have h6 : j9 = (7 + 3 + 4 * i_1) ∨ j9 = (7 + 3 + 4 * i_1) + 1 := h7; intros; omega))
    exact ih1 (i_1 + 1) Φ2 (show 4 - (i_1 + 1) < 4 - i_1 by omega) ⟨hI3, (fun b9 h9 => ((hF2 b9 (fun j9 h8 h7 => h9 j9 h8 (show 10 ≤ j9 ∧ j9 < 24 by have h6 : j9 = (7 + 3 + 4 * i_1) ∨ j9 = (7 + 3 + 4 * i_1) + 1 := h7; omega))).trans ((hF1 b9 h9).trans rfl))), (show (i_1 + 1) ≤ 4 by omega), (ETs_s b_2 hF2 (fun j9 h7 => h7) (ET.of w_1 w_2 w_3 w_4 hcp1)), hcg2, trivial⟩

theorem fq_601 {x : Nat} : ∀ j9 : Nat, x + 3 = x + j9 → (8 ≤ j9 ∧ j9 < 24) → False := by
  intro j9 h1 h2
  omega

theorem fq_602 {x : Nat} : ∀ j9 : Nat, x + 4 = x + j9 → (8 ≤ j9 ∧ j9 < 24) → False := by
  intro j9 h1 h2
  omega

theorem fq_603 {x : Nat} : ∀ j9 : Nat, x + 5 = x + j9 → (8 ≤ j9 ∧ j9 < 24) → False := by
  intro j9 h1 h2
  omega

theorem fq_604 : ∀ j9 : Nat, (8 ≤ j9 ∧ j9 < 24) → (3 ≤ j9 ∧ j9 < 24) := by
  intro j9 h
  omega

theorem fq_605 : ∀ j9 : Nat, (j9 = 3 ∨ (10 ≤ j9 ∧ j9 < 24)) → (3 ≤ j9 ∧ j9 < 24) := by
  intro j9 h
  omega

set_option maxHeartbeats 4000000 in
set_option maxRecDepth 100000 in
theorem s_X1_copyFromF (G : EnvG) (l : Launch) (Φ : Hm) (sz x ca : Nat) (t : Nat) (c : Cf) (hx : G.2.2.2 ≤ x) (hI : In G x ca Φ) (hcf0 : CfP G x 25 t 4 c Φ) (ht : t ≤ 4) : Ct G l yX1_copyFrom wsX1_copyFrom ({ frames := 3, cells := 0, slots := 0, locals := 67 }) 0 0 [.ref (x + 3), .ref (x + 25)] Φ sz (fun v Φ1 sz1 => (v = none ∧ CfP G x 3 t 4 c Φ1 ∧ CfP G x 25 t 4 c Φ1 ∧ ∃ s8 : Nat, s8 < 512 ∧ c 9 = nI s8 ∧ ∀ u9, u9 < 4 → ET G x (10 + 4 * u9) t u9 s8 c Φ1) ∧ sz1 = sz ∧ In G x (ca) Φ1 ∧ Fr x (fun j9 => 3 ≤ j9 ∧ j9 < 24) Φ Φ1) := by
  refine Ct.of (cc := cX1_copyFrom) (maxL := 3) (ret := none) (by decide) rfl (Nat.le_of_ble_eq_true rfl) ?_
  intro p9 e9 s9 m9 w9 t9 k9 B
  show Z p9 l e9 _ s9 m9 _ w9 t9 k9 _ G 3 0 [(0, .ref (x + 3)), (1, .ref (x + 25))] [] Φ sz 0 0
  have h_1 : Φ (x + 25) = some (o_ 3 [.ref (x + 26), .ref (x + 27), .ref (x + 28), .ref (x + 29), .int (nI t), .int (c 9)]) := CfP.obj hcf0
  obtain ⟨f_1, h_2, r_1⟩ := in4 (k := 26) hI rfl
  have h_3 : Φ (x + 26) = some (ai_ G 9 f_1) := h_2
  obtain ⟨f_2, h_4⟩ := in5 (k := 27) hI rfl
  have h_5 : Φ (x + 27) = some (ai_ G 256 f_2) := h_4
  have hr1 := CfP.row1 (k := 25) hcf0 h_3
  have hr2 := CfP.row2 (k := 25) hcf0 h_5
  refine z_aload_n B dX1_copyFrom_0 rfl 1 rfl ?_
  refine z_get (ref := "FlowExporter$Config") (C := RX1) (T := TX1) (N := 6) (ci := 3) (v := .ref (x + 26)) B hu_X1_copyFrom_X1 rfl 0 (Nat.le_of_ble_eq_true rfl) hv_X1_copyFrom_9 rfl h_1 rfl dX1_copyFrom_1 ?_
  refine z_iconst (v := 0) B dX1_copyFrom_4 rfl ?_
  refine z_aload_n B dX1_copyFrom_5 rfl 0 rfl ?_
  obtain ⟨v_1, v_2, h_6⟩ := in3 (k := 3) hI rfl
  have h_7 : Φ (x + 3) = some (o_ 3 [.ref (x + 4), .ref (x + 5), .ref (x + 6), .ref (x + 7), .int v_1, .int v_2]) := h_6
  refine z_get (ref := "FlowExporter$Config") (C := RX1) (T := TX1) (N := 6) (ci := 3) (v := .ref (x + 4)) B hu_X1_copyFrom_X1 rfl 0 (Nat.le_of_ble_eq_true rfl) hv_X1_copyFrom_9 rfl h_7 rfl dX1_copyFrom_6 ?_
  refine z_iconst (v := 0) B dX1_copyFrom_9 rfl ?_
  refine z_bipush (v := 9) B dX1_copyFrom_10 rfl ?_
  obtain ⟨f_3, h_8, r_2⟩ := in4 (k := 4) hI rfl
  have h_9 : Φ (x + 4) = some (ai_ G 9 f_3) := h_8
  refine z_copy (t := 0) (ty := .int) B (by decide +kernel) (by decide +kernel) (by decide +kernel) (by decide +kernel) rfl rfl h_3 h_9 (Nat.le_trans hx (Nat.le_add_right x 4)) (by decide) (by decide) (by decide) (by decide) (by decide) (fun _ _ => rfl) (Nat.le_of_ble_eq_true rfl) (by decide +kernel) dX1_copyFrom_12 (fun Φ1 hΦ1 => ?_)
  have h_10 : Φ1 (x + 4) = some (ai_ G 9 (va_cpy f_1 f_3 (0 : Int32).toNatClampNeg (0 : Int32).toNatClampNeg (9 : Int32).toNatClampNeg)) := fset_at hΦ1
  have hI1 : In G x (ca) Φ1 := In.put (k := 4) hI hΦ1 (ok4 (k := 4) rfl ⟨_, rfl, cpy_nn r_1 r_2⟩)
  have h_11 : Φ1 (x + 4) = some (ai_ G 9 (va_cpy f_1 f_3 (0 : Int32).toNatClampNeg (0 : Int32).toNatClampNeg (9 : Int32).toNatClampNeg)) := fset_at hΦ1
  have r_3 : ∀ j9, ¬ (va_cpy f_1 f_3 (0 : Int32).toNatClampNeg (0 : Int32).toNatClampNeg (9 : Int32).toNatClampNeg) j9 < 0 := cpy_nn r_1 r_2
  refine z_aload_n B dX1_copyFrom_15 rfl 1 rfl ?_
  have h_12 : Φ1 (x + 25) = some (o_ 3 [.ref (x + 26), .ref (x + 27), .ref (x + 28), .ref (x + 29), .int (nI t), .int (c 9)]) := ((fset_fr hΦ1 (ne_off (x := x) (i := 25) (j := 4) rfl)).trans h_1)
  refine z_get (ref := "FlowExporter$Config") (C := RX1) (T := TX1) (N := 6) (ci := 3) (v := .ref (x + 27)) B hu_X1_copyFrom_X1 rfl 1 (Nat.le_of_ble_eq_true rfl) hv_X1_copyFrom_15 rfl h_12 rfl dX1_copyFrom_16 ?_
  refine z_iconst (v := 0) B dX1_copyFrom_19 rfl ?_
  refine z_aload_n B dX1_copyFrom_20 rfl 0 rfl ?_
  have h_13 : Φ1 (x + 3) = some (o_ 3 [.ref (x + 4), .ref (x + 5), .ref (x + 6), .ref (x + 7), .int v_1, .int v_2]) := ((fset_fr hΦ1 (ne_off (x := x) (i := 3) (j := 4) rfl)).trans h_7)
  refine z_get (ref := "FlowExporter$Config") (C := RX1) (T := TX1) (N := 6) (ci := 3) (v := .ref (x + 5)) B hu_X1_copyFrom_X1 rfl 1 (Nat.le_of_ble_eq_true rfl) hv_X1_copyFrom_15 rfl h_13 rfl dX1_copyFrom_21 ?_
  refine z_iconst (v := 0) B dX1_copyFrom_24 rfl ?_
  refine z_sipush (v := 256) B dX1_copyFrom_25 rfl ?_
  obtain ⟨f_4, h_14⟩ := in5 (k := 5) hI1 rfl
  have h_15 : Φ1 (x + 5) = some (ai_ G 256 f_4) := h_14
  have h_16 : Φ1 (x + 27) = some (ai_ G 256 f_2) := ((fset_fr hΦ1 (ne_off (x := x) (i := 27) (j := 4) rfl)).trans h_5)
  refine z_copy (t := 0) (ty := .int) B (by decide +kernel) (by decide +kernel) (by decide +kernel) (by decide +kernel) rfl rfl h_16 h_15 (Nat.le_trans hx (Nat.le_add_right x 5)) (by decide) (by decide) (by decide) (by decide) (by decide) (fun _ _ => rfl) (Nat.le_of_ble_eq_true rfl) (by decide +kernel) dX1_copyFrom_28 (fun Φ2 hΦ2 => ?_)
  have h_17 : Φ2 (x + 5) = some (ai_ G 256 (va_cpy f_2 f_4 (0 : Int32).toNatClampNeg (0 : Int32).toNatClampNeg (256 : Int32).toNatClampNeg)) := fset_at hΦ2
  have hI2 : In G x (ca) Φ2 := In.put (k := 5) hI1 hΦ2 (ok5 (k := 5) rfl ⟨_, rfl⟩)
  have h_18 : Φ2 (x + 5) = some (ai_ G 256 (va_cpy f_2 f_4 (0 : Int32).toNatClampNeg (0 : Int32).toNatClampNeg (256 : Int32).toNatClampNeg)) := fset_at hΦ2
  refine z_iconst (v := 0) B dX1_copyFrom_31 rfl ?_
  refine z_istore_n (lv' := [(2, .int 0), (0, .ref (x + 3)), (1, .ref (x + 25))]) B dX1_copyFrom_32 rfl (Nat.le_of_ble_eq_true rfl) rfl ?_
  refine z_lv [0, 1, 2] rfl ?_
  have hcg1 : CfP G x 25 t 4 c Φ2 := (CfP.off (k := 5) (CfP.off (k := 4) hcf0 hΦ1 (by intros; omega)) hΦ2 (by intros; omega))
  refine z_loop (α := Nat) (fun (a9 : Nat) Φi => In G x (ca) Φi ∧ Fr x (fun j9 => 8 ≤ j9 ∧ j9 < 24) Φ2 Φi ∧ (a9 ≤ 4) ∧ (∀ u9, u9 < a9 → WT G x (8 + 4 * u9) t u9 c Φi) ∧ (CfP G x 25 t 4 c Φi) ∧ True) (fun a9 => [(2, .int (nI a9)), (0, .ref (x + 3)), (1, .ref (x + 25))]) (fun a9 => 4 - a9) ?_ (0) ⟨hI2, fun _ _ => rfl, (show 0 ≤ 4 by omega), (fun u9 h9 => absurd h9 (Nat.not_lt_zero _)), hcg1, trivial⟩
  rintro i_1 Φl1 ⟨hI3, hF1, b_1, b_2, b_3, -⟩ ih1
  replace hI3 : In G x (ca) Φl1 := hI3
  replace b_1 : i_1 ≤ 4 := b_1
  replace b_2 : ∀ u9, u9 < i_1 → WT G x (8 + 4 * u9) t u9 c Φl1 := b_2
  replace b_3 : CfP G x 25 t 4 c Φl1 := b_3
  show Z p9 l e9 _ s9 m9 _ w9 t9 k9 _ G 3 33 [(2, .int (nI i_1)), (0, .ref (x + 3)), (1, .ref (x + 25))] [] Φl1 _ _ _
  have h_19 : Φl1 (x + 25) = some (o_ 3 [.ref (x + 26), .ref (x + 27), .ref (x + 28), .ref (x + 29), .int (nI t), .int (c 9)]) := CfP.obj b_3
  refine z_iload_n B dX1_copyFrom_33 rfl 0 rfl ?_
  refine z_iconst (v := 4) B dX1_copyFrom_34 rfl ?_
  refine z_icmp_ge (tgt := 62) B dX1_copyFrom_35 rfl (fun c_1 => ?_) (fun c_1 => ?_)
  · have e_1 : 4 ≤ i_1 := (nI_leI (a := 4) (b := i_1) (by omega) (by omega)).mp c_1
    refine z_aload_n B dX1_copyFrom_62 rfl 1 rfl ?_
    refine z_aload_n B dX1_copyFrom_63 rfl 2 rfl ?_
    refine z_get (ref := "FlowExporter$Config") (C := RX1) (T := TX1) (N := 6) (ci := 3) (v := .int (nI t)) B hu_X1_copyFrom_X1 rfl 4 (Nat.le_of_ble_eq_true rfl) hv_X1_copyFrom_27 rfl h_19 rfl dX1_copyFrom_64 ?_
    have h_20 : Φl1 (x + 3) = some (o_ 3 [.ref (x + 4), .ref (x + 5), .ref (x + 6), .ref (x + 7), .int v_1, .int v_2]) := ((hF1 (x + 3) fq_601).trans ((fset_fr hΦ2 (ne_off (x := x) (i := 3) (j := 5) rfl)).trans h_13))
    refine z_put (ref := "FlowExporter$Config") (C := RX1) (T := TX1) (N := 6) (ci := 3) (v := .int (nI t)) B hu_X1_copyFrom_X1 tyX1 tyX1_ok nmX1 rfl 4 (Nat.le_of_ble_eq_true rfl) hv_X1_copyFrom_27 rfl (Or.inl rfl) h_20 (Nat.le_trans hx (Nat.le_add_right x 3)) rfl rfl (Nat.le_of_ble_eq_true rfl) dX1_copyFrom_67 (fun Φ3 hΦ3 => ?_)
    have h_21 : Φ3 (x + 3) = some (o_ 3 [.ref (x + 4), .ref (x + 5), .ref (x + 6), .ref (x + 7), .int (nI t), .int v_2]) := fset_at hΦ3
    have hI4 : In G x (ca) Φ3 := In.put (k := 3) hI3 hΦ3 (ok3 (k := 3) rfl ⟨nI t, v_2, rfl⟩)
    refine z_aload_n B dX1_copyFrom_70 rfl 1 rfl ?_
    refine z_aload_n B dX1_copyFrom_71 rfl 2 rfl ?_
    have h_22 : Φ3 (x + 25) = some (o_ 3 [.ref (x + 26), .ref (x + 27), .ref (x + 28), .ref (x + 29), .int (nI t), .int (c 9)]) := ((fset_fr hΦ3 (ne_off (x := x) (i := 25) (j := 3) rfl)).trans h_19)
    refine z_get (ref := "FlowExporter$Config") (C := RX1) (T := TX1) (N := 6) (ci := 3) (v := .int (c 9)) B hu_X1_copyFrom_X1 rfl 5 (Nat.le_of_ble_eq_true rfl) hv_X1_copyFrom_31 rfl h_22 rfl dX1_copyFrom_72 ?_
    have hcg2 : CfP G x 25 t 4 c Φ3 := (CfP.off (k := 3) b_3 hΦ3 (by intros; omega))
    have h_23 : Φ3 (x + 4) = some (ai_ G 9 (va_cpy f_1 f_3 (0 : Int32).toNatClampNeg (0 : Int32).toNatClampNeg (9 : Int32).toNatClampNeg)) := ((fset_fr hΦ3 (ne_off (x := x) (i := 4) (j := 3) rfl)).trans ((hF1 (x + 4) fq_602).trans ((fset_fr hΦ2 (ne_off (x := x) (i := 4) (j := 5) rfl)).trans h_11)))
    have h_24 : Φ3 (x + 5) = some (ai_ G 256 (va_cpy f_2 f_4 (0 : Int32).toNatClampNeg (0 : Int32).toNatClampNeg (256 : Int32).toNatClampNeg)) := ((fset_fr hΦ3 (ne_off (x := x) (i := 5) (j := 3) rfl)).trans ((hF1 (x + 5) fq_603).trans h_18))
    have hcg3 : CfQ G x 3 t c Φ3 := ⟨hcf0.1, ht, ⟨_, h_21⟩, ⟨_, h_23, fun j9 h9 => (cpy_0 (N := 9) (by decide) j9 h9).trans (hr1 j9 h9)⟩, ⟨_, h_24, fun j9 h9 => (cpy_0 (N := 256) (by decide) j9 h9).trans (hr2 j9 h9)⟩, fun u9 h9 => (b_2 u9 (by omega)).eq (fset_fr hΦ3 (by omega)) (fset_fr hΦ3 (by omega))⟩
    obtain ⟨s_1, b_4, e_2⟩ := CfP.sN hcf0
    refine z_top (st1 := [.int (nI s_1), .ref (x + 3)]) (congrArg (fun w9 : Int32 => ([.int w9, .ref (x + 3)] : List Value)) (e_2)) ?_
    refine z_callV (As := [.int (nI s_1)]) (rest := []) B (s_X1_supportF G l Φ3 sz x (ca) t c s_1 hx hI4 hcg3 (show s_1 < 512 by omega)) (cwV 1 B.1.2.2.2.2 gX1_copyFrom_X1_support rfl rfl rfl (by decide +kernel) ⟨Nat.le_of_ble_eq_true rfl, Nat.le_of_ble_eq_true rfl⟩) h_21 rfl rfl rfl rfl (Nat.le_of_ble_eq_true rfl) dX1_copyFrom_75 ⟨Nat.le_of_ble_eq_true rfl, Nat.le_of_ble_eq_true rfl⟩ (fun r_4 Φ4 sz1 st1 hp1 hs1 => ?_)
    obtain ⟨⟨rfl, hcg4, hE1⟩, hq1, hI5, hF2⟩ := hp1
    subst sz1
    replace hs1 : st1 = [] := hs1
    subst st1
    replace hI5 : In G x (ca) Φ4 := hI5
    have hcg5 : CfP G x 25 t 4 c Φ4 := (CfP.fr hcg2 hF2 (fun j9 h7 => by have h6 : j9 = 3 ∨ (10 ≤ j9 ∧ j9 < 24) := h7; intros; omega))
    exact z_ret_v B dX1_copyFrom_78 ⟨⟨rfl, upd_self e_2 ▸ hcg4, hcg5, s_1, b_4, e_2, fun u9 h9 => upd_self e_2 ▸ hE1 u9 h9⟩, rfl, hI5, (fun b9 h9 => ((hF2 b9 (fun j9 h8 h7 => h9 j9 h8 (fq_605 j9 h7))).trans ((fset_fr hΦ3 (fun h8 => h9 (3) h8 (show 3 ≤ 3 ∧ 3 < 24 by decide))).trans ((hF1 b9 (fun j9 h8 h7 => h9 j9 h8 (fq_604 j9 h7))).trans ((fset_fr hΦ2 (fun h8 => h9 (5) h8 (show 3 ≤ 5 ∧ 5 < 24 by decide))).trans ((fset_fr hΦ1 (fun h8 => h9 (4) h8 (show 3 ≤ 4 ∧ 4 < 24 by decide))).trans rfl))))))⟩
  · have e_3 : ¬ (4 ≤ i_1) := fun h9 => c_1 ((nI_leI (a := 4) (b := i_1) (by omega) (by omega)).mpr h9)
    refine z_aload_n B dX1_copyFrom_38 rfl 1 rfl ?_
    have h_25 : Φl1 (x + 3) = some (o_ 3 [.ref (x + 4), .ref (x + 5), .ref (x + 6), .ref (x + 7), .int v_1, .int v_2]) := ((hF1 (x + 3) fq_601).trans ((fset_fr hΦ2 (ne_off (x := x) (i := 3) (j := 5) rfl)).trans h_13))
    refine z_get (ref := "FlowExporter$Config") (C := RX1) (T := TX1) (N := 6) (ci := 3) (v := .ref (x + 6)) B hu_X1_copyFrom_X1 rfl 2 (Nat.le_of_ble_eq_true rfl) hv_X1_copyFrom_20 rfl h_25 rfl dX1_copyFrom_39 ?_
    refine z_iload_n B dX1_copyFrom_42 rfl 0 rfl ?_
    obtain ⟨f_5, h_26, r_5⟩ := in6 (k := 6) hI3 rfl
    have h_27 : Φl1 (x + 6) = some (aq_ G 4 4 f_5) := h_26
    refine z_aald (b := x + (6 + 2 + 4 * i_1)) B rfl h_27 (vp_in_nI (by omega) (by omega)) ((congrArg f_5 (nI_clamp (by omega))).trans (r_5 i_1 (by omega))) dX1_copyFrom_43 ?_
    refine z_aload_n B dX1_copyFrom_44 rfl 2 rfl ?_
    refine z_get (ref := "FlowExporter$Config") (C := RX1) (T := TX1) (N := 6) (ci := 3) (v := .ref (x + 28)) B hu_X1_copyFrom_X1 rfl 2 (Nat.le_of_ble_eq_true rfl) hv_X1_copyFrom_20 rfl h_19 rfl dX1_copyFrom_45 ?_
    refine z_iload_n B dX1_copyFrom_48 rfl 0 rfl ?_
    obtain ⟨f_6, h_28, r_6⟩ := in6 (k := 28) hI3 rfl
    have h_29 : Φl1 (x + 28) = some (aq_ G 4 4 f_6) := h_28
    refine z_aald (b := x + (28 + 2 + 4 * i_1)) B rfl h_29 (vp_in_nI (by omega) (by omega)) ((congrArg f_6 (nI_clamp (by omega))).trans (r_6 i_1 (by omega))) dX1_copyFrom_49 ?_
    refine z_sipush (v := 511) B dX1_copyFrom_50 rfl ?_
    obtain ⟨m_1, f_7, w_1, w_2, w_3, w_4, w_5, w_6⟩ := CfP.wt b_3 (show i_1 < 4 by omega) (show ¬ i_1 = 4 by omega)
    have h_30 : Φl1 (x + (28 + 2 + 4 * i_1)) = some (o_ 12 [.ref (x + (28 + 2 + 4 * i_1 + 1)), .int (nI m_1), .int (fS f_7 511 m_1), .int (fB_ f_7 511 m_1)]) := w_5
    have h_31 : Φl1 (x + (28 + 2 + 4 * i_1 + 1)) = some (ai_ G 9 f_7) := w_6
    obtain ⟨n_1, v_3, v_4, h_32, b_5⟩ := in8 (k := 6 + 2 + 4 * i_1) hI3 (kd_w rfl (by omega))
    have h_33 : Φl1 (x + (6 + 2 + 4 * i_1)) = some (o_ 12 [.ref (x + (6 + 2 + 4 * i_1 + 1)), .int (nI n_1), .int v_3, .int v_4]) := h_32
    refine z_callV (As := [.ref (x + (28 + 2 + 4 * i_1)), .int 511]) (rest := []) B (s_X10_copyFromF G l Φl1 sz x (ca) m_1 (fS f_7 511 m_1) (fB_ f_7 511 m_1) f_7 (6 + 2 + 4 * i_1) (28 + 2 + 4 * i_1) 511 hx hI3 (kd_w rfl (by omega)) (kd_w rfl (by omega)) h_30 h_31 (show (6 + 2 + 4 * i_1) ≠ (28 + 2 + 4 * i_1) by omega) (show (6 + 2 + 4 * i_1) + 1 ≠ (28 + 2 + 4 * i_1) by omega) (show (6 + 2 + 4 * i_1) ≠ (28 + 2 + 4 * i_1) + 1 by omega) w_4 w_3 (show 511 < 512 by omega)) (cwV 2 B.1.2.2.2.2 gX1_copyFrom_X10_copyFrom rfl rfl rfl (by decide +kernel) ⟨Nat.le_of_ble_eq_true rfl, Nat.le_of_ble_eq_true rfl⟩) h_33 rfl rfl rfl rfl (Nat.le_of_ble_eq_true rfl) dX1_copyFrom_53 ⟨Nat.le_of_ble_eq_true rfl, Nat.le_of_ble_eq_true rfl⟩ (fun r_7 Φ5 sz2 st2 hp2 hs2 => ?_)
    obtain ⟨⟨rfl, f_8, hcp1⟩, hq2, hI6, hF3⟩ := hp2
    subst sz2
    replace hs2 : st2 = [] := hs2
    subst st2
    replace hI6 : In G x (ca) Φ5 := hI6
    refine z_iinc (k := 0) (v := nI (i_1 + 1)) (lv' := [(2, .int (nI (i_1 + 1))), (0, .ref (x + 3)), (1, .ref (x + 25))]) B dX1_copyFrom_56 rfl (nI_add i_1 1) (Nat.le_of_ble_eq_true rfl) rfl ?_
    refine z_goto (tgt := 33) B dX1_copyFrom_59 rfl ?_
    refine z_lv [0, 1, 2] rfl ?_
    have hcg6 : CfP G x 25 t 4 c Φ5 := (CfP.fr b_3 hF3 (fun j9 h7 => by have h6 : j9 = (6 + 2 + 4 * i_1) ∨ j9 = (6 + 2 + 4 * i_1) + 1 := h7; intros; omega))
    exact ih1 (i_1 + 1) Φ5 (show 4 - (i_1 + 1) < 4 - i_1 by omega) ⟨hI6, (fun b9 h9 => ((hF3 b9 (fun j9 h8 h7 => h9 j9 h8 (show 8 ≤ j9 ∧ j9 < 24 by have h6 : j9 = (6 + 2 + 4 * i_1) ∨ j9 = (6 + 2 + 4 * i_1) + 1 := h7; omega))).trans ((hF1 b9 h9).trans rfl))), (show (i_1 + 1) ≤ 4 by omega), (WTs_s b_2 hF3 (fun j9 h7 => h7) (WT.of w_1 w_2 w_3 w_4 hcp1)), hcg6, trivial⟩

theorem hu_X6_readText_X6 : ∀ w ∈ u_ws RX6 TX6 8, w ∈ wsX6_readText := fun _ h => List.mem_cons_of_mem _ (List.mem_append_left _ (List.mem_append_left _ (List.mem_append_left _ (List.mem_append_left _ (List.mem_append_left _ (List.mem_append_right _ (h)))))))

theorem hv_X6_readText_12 : Cond.fieldLink RX6 12 "FlowExporter$Parser" (TX6 0).2.1 (TX6 0).2.2.1 ∈ wsX6_readText := List.mem_cons_of_mem _ (List.mem_append_left _ (List.mem_append_left _ (List.mem_append_left _ (List.mem_append_left _ (List.mem_append_left _ (List.mem_append_left _ (List.mem_append_left _ (List.mem_of_getElem? (i := 0) rfl))))))))

set_option maxHeartbeats 4000000 in
set_option maxRecDepth 100000 in
theorem s_X8_addRecordX (G : EnvG) (l : Launch) (Φ : Hm) (sz x ca : Nat) (pn : Nat) (ms : Int32) (rs : Int64) (sq : Int32) (pl : Nat) (fp : Nat → Int32) (t : Nat) (s : Nat) (c : Cf) (q : Nat) (u : Nat) (b : Int32) (hx : G.2.2.2 ≤ x) (hI : In G x ca Φ) (hk_q : kd q = 19) (hc0 : Φ (x + 74) = some (o_ 10 [.ref (x + 3), .ref (x + 46), .ref (x + 75), .ref (x + 77), .int (nI pn), .ref (x + 78), .ref (x + 79), .int ms, .long rs, .int sq])) (hc1 : Φ (x + 75) = some (o_ 7 [.ref (x + 76), .int (nI pl)])) (hc2 : Φ (x + 77) = some (ai_ G 12 fp)) (hcf0 : CfA G x t s c Φ) (hu : u < 4) (hpn : pn ≤ 12) (hpl : pl ≤ 29 * pn) (hg : CfG c) : Ct G l yX8_addRecord wsX8_addRecord ({ frames := 2, cells := 0, slots := 0, locals := 43 }) 0 0 [.ref (x + 74), .ref (x + (q)), .int (nI u), .int b] Φ sz (fun v Φ1 sz1 => (∃ (pn8 : Nat) (pl8 : Nat) (f8 : Nat → Int32), v = none ∧ Φ1 (x + 74) = some (o_ 10 [.ref (x + 3), .ref (x + 46), .ref (x + 75), .ref (x + 77), .int (nI pn8), .ref (x + 78), .ref (x + 79), .int ms, .long rs, .int sq]) ∧ Φ1 (x + 75) = some (o_ 7 [.ref (x + 76), .int (nI pl8)]) ∧ Φ1 (x + 77) = some (ai_ G 12 f8) ∧ ((pn < 12 ∧ pn8 = pn + 1 ∧ pl8 = pl + rlN c u ∧ f8 = upd fp pn (nI u)) ∨ (¬ pn < 12 ∧ pn8 = pn ∧ pl8 = pl ∧ f8 = fp))) ∧ sz1 = sz ∧ In G x (ca) Φ1 ∧ Fr x (fun j9 => j9 = 74 ∨ (j9 = 75 ∨ (j9 = 76 ∨ j9 = 77))) Φ Φ1) := by
  refine Ct.of (cc := cX8_addRecord) (maxL := 9) (ret := none) (by decide) rfl (Nat.le_of_ble_eq_true rfl) ?_
  intro p9 e9 s9 m9 w9 t9 k9 B
  show Z p9 l e9 _ s9 m9 _ w9 t9 k9 _ G 9 0 [(0, .ref (x + 74)), (1, .ref (x + (q))), (2, .int (nI u)), (3, .int b)] [] Φ sz 0 0
  refine z_aload_n B dX8_addRecord_0 rfl 0 rfl ?_
  refine z_get (ref := "FlowExporter$Sender") (C := RX8) (T := TX8) (N := 10) (ci := 10) (v := .int (nI pn)) B hu_X8_addRecord_X8 rfl 4 (Nat.le_of_ble_eq_true rfl) hv_X8_addRecord_24 rfl hc0 rfl dX8_addRecord_1 ?_
  refine z_aload_n B dX8_addRecord_4 rfl 0 rfl ?_
  refine z_get (ref := "FlowExporter$Sender") (C := RX8) (T := TX8) (N := 10) (ci := 10) (v := .ref (x + 77)) B hu_X8_addRecord_X8 rfl 3 (Nat.le_of_ble_eq_true rfl) hv_X8_addRecord_20 rfl hc0 rfl dX8_addRecord_5 ?_
  refine z_alen (t := 0) (v := 12) B rfl hc2 rfl dX8_addRecord_8 ?_
  refine z_icmp_lt (tgt := 13) B dX8_addRecord_9 rfl (fun c_1 => ?_) (fun c_1 => ?_)
  · have e_1 : pn < 12 := (nI_ltI (a := pn) (b := 12) (by omega) (by omega)).mp c_1
    refine z_aload_n B dX8_addRecord_13 rfl 0 rfl ?_
    refine z_get (ref := "FlowExporter$Sender") (C := RX8) (T := TX8) (N := 10) (ci := 10) (v := .ref (x + 77)) B hu_X8_addRecord_X8 rfl 3 (Nat.le_of_ble_eq_true rfl) hv_X8_addRecord_20 rfl hc0 rfl dX8_addRecord_14 ?_
    refine z_aload_n B dX8_addRecord_17 rfl 0 rfl ?_
    refine z_get (ref := "FlowExporter$Sender") (C := RX8) (T := TX8) (N := 10) (ci := 10) (v := .int (nI pn)) B hu_X8_addRecord_X8 rfl 4 (Nat.le_of_ble_eq_true rfl) hv_X8_addRecord_24 rfl hc0 rfl dX8_addRecord_18 ?_
    refine z_iload_n B dX8_addRecord_21 rfl 2 rfl ?_
    refine z_iast B hc2 (Nat.le_trans hx (Nat.le_add_right x 77)) (vp_in_nI (by omega) (by omega)) dX8_addRecord_22 (fun Φ1 hΦ1 => ?_)
    have h_1 : Φ1 (x + 77) = some (ai_ G 12 (upd fp (nI pn).toNatClampNeg (nI u))) := fset_at hΦ1
    have hI1 : In G x (ca) Φ1 := In.put (k := 77) hI hΦ1 (ok14 (k := 77) rfl ⟨_, rfl⟩)
    have h_2 : Φ1 (x + 77) = some (ai_ G 12 (upd fp (nI pn).toNatClampNeg (nI u))) := fset_at hΦ1
    have h_3 : Φ1 (x + 77) = some (ai_ G 12 (upd fp (nI pn).toNatClampNeg (nI u))) := fset_at hΦ1
    refine z_aload_n B dX8_addRecord_23 rfl 0 rfl ?_
    refine z_dup B dX8_addRecord_24 rfl ?_
    have h_4 : Φ1 (x + 74) = some (o_ 10 [.ref (x + 3), .ref (x + 46), .ref (x + 75), .ref (x + 77), .int (nI pn), .ref (x + 78), .ref (x + 79), .int ms, .long rs, .int sq]) := ((fset_fr hΦ1 (ne_off (x := x) (i := 74) (j := 77) rfl)).trans hc0)
    refine z_get (ref := "FlowExporter$Sender") (C := RX8) (T := TX8) (N := 10) (ci := 10) (v := .int (nI pn)) B hu_X8_addRecord_X8 rfl 4 (Nat.le_of_ble_eq_true rfl) hv_X8_addRecord_24 rfl h_4 rfl dX8_addRecord_25 ?_
    refine z_iconst (v := 1) B dX8_addRecord_28 rfl ?_
    refine z_iadd B dX8_addRecord_29 ?_
    refine z_top (st1 := [.int (nI (pn + 1)), .ref (x + 74)]) (congrArg (fun w9 : Int32 => ([.int w9, .ref (x + 74)] : List Value)) (nI_add pn 1)) ?_
    refine z_put (ref := "FlowExporter$Sender") (C := RX8) (T := TX8) (N := 10) (ci := 10) (v := .int (nI (pn + 1))) B hu_X8_addRecord_X8 tyX8 tyX8_ok nmX8 rfl 4 (Nat.le_of_ble_eq_true rfl) hv_X8_addRecord_24 rfl (Or.inl rfl) h_4 (Nat.le_trans hx (Nat.le_add_right x 74)) rfl rfl (Nat.le_of_ble_eq_true rfl) dX8_addRecord_30 (fun Φ2 hΦ2 => ?_)
    have h_5 : Φ2 (x + 74) = some (o_ 10 [.ref (x + 3), .ref (x + 46), .ref (x + 75), .ref (x + 77), .int (nI (pn + 1)), .ref (x + 78), .ref (x + 79), .int ms, .long rs, .int sq]) := fset_at hΦ2
    have hI2 : In G x (ca) Φ2 := In.put (k := 74) hI1 hΦ2 (ok13 (k := 74) rfl ⟨pn + 1, ms, rs, sq, rfl, (show pn + 1 ≤ 12 by omega)⟩)
    refine z_aload_n B dX8_addRecord_33 rfl 0 rfl ?_
    refine z_get (ref := "FlowExporter$Sender") (C := RX8) (T := TX8) (N := 10) (ci := 10) (v := .ref (x + 3)) B hu_X8_addRecord_X8 rfl 0 (Nat.le_of_ble_eq_true rfl) hv_X8_addRecord_44 rfl h_5 rfl dX8_addRecord_34 ?_
    refine z_iload_n B dX8_addRecord_37 rfl 2 rfl ?_
    obtain ⟨v_1, v_2, h_6⟩ := in3 (k := 3) hI2 rfl
    have h_7 : Φ2 (x + 3) = some (o_ 3 [.ref (x + 4), .ref (x + 5), .ref (x + 6), .ref (x + 7), .int v_1, .int v_2]) := h_6
    refine z_callV (As := [.int (nI u)]) (rest := []) B (s_X1_effective3 G l Φ2 sz x (ca) u hx hI2 (show u < 4 by omega)) (cwV 1 B.1.2.2.2.2 gX8_addRecord_X1_effective rfl rfl rfl (by decide +kernel) ⟨Nat.le_of_ble_eq_true rfl, Nat.le_of_ble_eq_true rfl⟩) h_7 rfl rfl rfl rfl (Nat.le_of_ble_eq_true rfl) dX8_addRecord_38 ⟨Nat.le_of_ble_eq_true rfl, Nat.le_of_ble_eq_true rfl⟩ (fun r_1 Φ3 sz1 st1 hp1 hs1 => ?_)
    obtain ⟨rfl, hq1, hI3, hF1⟩ := hp1
    subst sz1
    replace hs1 : st1 = [.ref (x + (10 + 4 * u))] := hs1
    subst st1
    replace hI3 : In G x (ca) Φ3 := hI3
    refine z_astore (lv' := [(4, .ref (x + (10 + 4 * u))), (0, .ref (x + 74)), (1, .ref (x + (q))), (2, .int (nI u)), (3, .int b)]) B dX8_addRecord_41 (Nat.le_of_ble_eq_true rfl) rfl ?_
    have hcg1 : CfA G x t s c Φ3 := (CfA.fr (CfA.off (k := 74) (CfA.off (k := 77) hcf0 hΦ1 (by intros; omega)) hΦ2 (by intros; omega)) hF1 (fun j9 h7 => (show False from h7).elim))
    obtain ⟨v_3, f_1, h_8, h_9, hG1, hS1⟩ := CfA.eg (u := u) hcg1 hg hu
    have hw9 := (CfA.W hcg1 hg) u hu
    have hw8 : esN c u ≤ 9 := hw9.1
    have hw7 : rlN c u ≤ 29 := hw9.2.1
    have hz9 : smN f_1 0 = 0 := rfl
    refine z_iconst (v := 0) B dX8_addRecord_43 rfl ?_
    refine z_istore (lv' := [(5, .int 0), (4, .ref (x + (10 + 4 * u))), (0, .ref (x + 74)), (1, .ref (x + (q))), (2, .int (nI u)), (3, .int b)]) B dX8_addRecord_44 (Nat.le_of_ble_eq_true rfl) rfl ?_
    refine z_lv [0, 1, 2, 3, 4, 5] rfl ?_
    have h_10 : Φ3 (x + 75) = some (o_ 7 [.ref (x + 76), .int (nI pl)]) := ((hF1 (x + 75) (fun j9 h8 h7 => (show False from h7).elim)).trans ((fset_fr hΦ2 (ne_off (x := x) (i := 75) (j := 74) rfl)).trans ((fset_fr hΦ1 (ne_off (x := x) (i := 75) (j := 77) rfl)).trans hc1)))
    have h_11 : Φ3 (x + 74) = some (o_ 10 [.ref (x + 3), .ref (x + 46), .ref (x + 75), .ref (x + 77), .int (nI (pn + 1)), .ref (x + 78), .ref (x + 79), .int ms, .long rs, .int sq]) := ((hF1 (x + 74) (fun j9 h8 h7 => (show False from h7).elim)).trans h_5)
    have h_12 : Φ3 (x + 77) = some (ai_ G 12 (upd fp (nI pn).toNatClampNeg (nI u))) := ((hF1 (x + 77) (fun j9 h8 h7 => (show False from h7).elim)).trans ((fset_fr hΦ2 (ne_off (x := x) (i := 77) (j := 74) rfl)).trans h_3))
    refine z_loop (α := Nat) (fun (a9 : Nat) Φi => In G x (ca) Φi ∧ Fr x (fun j9 => j9 = 74 ∨ (j9 = 75 ∨ (j9 = 76 ∨ j9 = 77))) Φ3 Φi ∧ (a9 ≤ 9) ∧ (a9 ≤ esN c u) ∧ (CfA G x t s c Φi) ∧ (Φi (x + 75) = some (o_ 7 [.ref (x + 76), .int (nI ((pl + smN f_1 a9)))])) ∧ (Φi (x + 74) = some (o_ 10 [.ref (x + 3), .ref (x + 46), .ref (x + 75), .ref (x + 77), .int (nI ((pn + 1))), .ref (x + 78), .ref (x + 79), .int ms, .long rs, .int sq])) ∧ (Φi (x + 77) = some (ai_ G 12 (upd fp (nI pn).toNatClampNeg (nI u)))) ∧ True) (fun a9 => [(5, .int (nI a9)), (4, .ref (x + (10 + 4 * u))), (0, .ref (x + 74)), (1, .ref (x + (q))), (2, .int (nI u)), (3, .int b)]) (fun a9 => 9 - a9) ?_ (0) ⟨hI3, fun _ _ => rfl, (show 0 ≤ 9 by omega), (show 0 ≤ esN c u by omega), hcg1, (h_10.trans (congrArg (fun w9 : Nat => some (o_ 7 [.ref (x + 76), .int (nI w9)])) (show pl = pl + smN f_1 0 by omega))), (h_11.trans (congrArg (fun w9 : Nat => some (o_ 10 [.ref (x + 3), .ref (x + 46), .ref (x + 75), .ref (x + 77), .int (nI w9), .ref (x + 78), .ref (x + 79), .int ms, .long rs, .int sq])) (show pn + 1 = pn + 1 by omega))), h_12, trivial⟩
    rintro i_1 Φl1 ⟨hI4, hF2, b_1, b_2, b_3, b_4, b_5, b_6, -⟩ ih1
    replace hI4 : In G x (ca) Φl1 := hI4
    replace b_1 : i_1 ≤ 9 := b_1
    replace b_2 : i_1 ≤ esN c u := b_2
    replace b_3 : CfA G x t s c Φl1 := b_3
    replace b_4 : Φl1 (x + 75) = some (o_ 7 [.ref (x + 76), .int (nI ((pl + smN f_1 i_1)))]) := b_4
    replace b_5 : Φl1 (x + 74) = some (o_ 10 [.ref (x + 3), .ref (x + 46), .ref (x + 75), .ref (x + 77), .int (nI ((pn + 1))), .ref (x + 78), .ref (x + 79), .int ms, .long rs, .int sq]) := b_5
    replace b_6 : Φl1 (x + 77) = some (ai_ G 12 (upd fp (nI pn).toNatClampNeg (nI u))) := b_6
    show Z p9 l e9 _ s9 m9 _ w9 t9 k9 _ G 9 46 [(5, .int (nI i_1)), (4, .ref (x + (10 + 4 * u))), (0, .ref (x + 74)), (1, .ref (x + (q))), (2, .int (nI u)), (3, .int b)] [] Φl1 _ _ _
    refine z_iload B dX8_addRecord_46 0 rfl ?_
    refine z_aload B dX8_addRecord_48 1 rfl ?_
    have h_13 : Φl1 (x + (10 + 4 * u)) = some (o_ 12 [.ref (x + (10 + 4 * u + 1)), .int (nI (esN c u)), .int v_3, .int (nI (rlN c u))]) := ((hF2 (x + (10 + 4 * u)) (fun j9 h8 h7 => by have h6 : j9 = 74 ∨ (j9 = 75 ∨ (j9 = 76 ∨ j9 = 77)) := h7; omega)).trans h_8)
    refine z_get (ref := "FlowExporter$Template") (C := RX10) (T := TX10) (N := 4) (ci := 12) (v := .int (nI (esN c u))) B hu_X8_addRecord_X10 rfl 1 (Nat.le_of_ble_eq_true rfl) hv_X8_addRecord_85 rfl h_13 rfl dX8_addRecord_50 ?_
    refine z_icmp_ge (tgt := 109) B dX8_addRecord_53 rfl (fun c_2 => ?_) (fun c_2 => ?_)
    · have e_2 : esN c u ≤ i_1 := (nI_leI (a := esN c u) (b := i_1) (by omega) (by omega)).mp c_2
      have hi9 : smN f_1 i_1 = rlN c u := (congrArg (smN f_1) (show i_1 = esN c u by omega)).trans hS1
      exact z_ret_v B dX8_addRecord_109 ⟨⟨pn + 1, pl + rlN c u, _, rfl, b_5, (b_4.trans (congrArg (fun w9 : Nat => some (o_ 7 [.ref (x + 76), .int (nI w9)])) (show pl + smN f_1 i_1 = pl + rlN c u by omega))), b_6, Or.inl ⟨by omega, rfl, rfl, congrArg (fun w9 : Nat => upd fp w9 (nI u)) (nI_clamp (by omega))⟩⟩, rfl, hI4, (fun b9 h9 => ((hF2 b9 h9).trans ((hF1 b9 (fun j9 h8 h7 => (show False from h7).elim)).trans ((fset_fr hΦ2 (fun h8 => h9 (74) h8 (show 74 = 74 ∨ (74 = 75 ∨ (74 = 76 ∨ 74 = 77)) by decide))).trans ((fset_fr hΦ1 (fun h8 => h9 (77) h8 (show 77 = 74 ∨ (77 = 75 ∨ (77 = 76 ∨ 77 = 77)) by decide))).trans rfl)))))⟩
    · have e_3 : ¬ (esN c u ≤ i_1) := fun h9 => c_2 ((nI_leI (a := esN c u) (b := i_1) (by omega) (by omega)).mpr h9)
      refine z_aload B dX8_addRecord_56 1 rfl ?_
      refine z_iload B dX8_addRecord_58 0 rfl ?_
      have h_14 : Φl1 (x + (10 + 4 * u + 1)) = some (ai_ G 9 f_1) := ((hF2 (x + (10 + 4 * u + 1)) (fun j9 h8 h7 => by have h6 : j9 = 74 ∨ (j9 = 75 ∨ (j9 = 76 ∨ j9 = 77)) := h7; omega)).trans h_9)
      refine z_callV (As := [.int (nI i_1)]) (rest := []) B (s_X10_fieldA G l Φl1 sz x (ca) (esN c u) v_3 (nI (rlN c u)) f_1 (10 + 4 * u) (nI i_1) hx hI4 (kd_e (k := 7) rfl (show u < 4 by omega)) h_13 h_14 (show (esN c u) ≤ 9 by omega)) (cwV 1 B.1.2.2.2.2 gX8_addRecord_X10_field rfl rfl rfl (by decide +kernel) ⟨Nat.le_of_ble_eq_true rfl, Nat.le_of_ble_eq_true rfl⟩) h_13 rfl rfl rfl rfl (Nat.le_of_ble_eq_true rfl) dX8_addRecord_60 ⟨Nat.le_of_ble_eq_true rfl, Nat.le_of_ble_eq_true rfl⟩ (fun r_2 Φ4 sz2 st2 hp2 hs2 => ?_)
      obtain ⟨rfl, hq2, hI5, hF3⟩ := hp2
      subst sz2
      replace hs2 : st2 = [.int (faV f_1 (esN c u) (nI i_1))] := hs2
      subst st2
      replace hI5 : In G x (ca) Φ4 := hI5
      obtain ⟨n_1, b_7, e_4⟩ := hG1 i_1 (by omega)
      refine z_top (st1 := [.int (nI n_1)]) (congrArg (fun w9 : Int32 => ([.int w9] : List Value)) ((faV_ok (by rw [nI_toInt (by omega)]; omega)).trans ((congrArg f_1 (nI_clamp (by omega))).trans e_4))) ?_
      have b_8 := smN_s (g := f_1) e_4 b_7
      have b_9 := smN_mono f_1 (i := i_1 + 1) (esN c u) (by omega)
      have b_10 : fnT n_1 ≤ 8 := (fbT_fn n_1 (by omega)).2
      refine z_istore (lv' := [(6, .int (nI n_1)), (5, .int (nI i_1)), (4, .ref (x + (10 + 4 * u))), (0, .ref (x + 74)), (1, .ref (x + (q))), (2, .int (nI u)), (3, .int b)]) B dX8_addRecord_63 (Nat.le_of_ble_eq_true rfl) rfl ?_
      refine z_iload B dX8_addRecord_65 0 rfl ?_
      refine z_bipush (v := 8) B dX8_addRecord_67 rfl ?_
      refine z_icmp_ne (tgt := 77) B dX8_addRecord_69 rfl (fun c_3 => ?_) (fun c_3 => ?_)
      · have e_5 : ¬ (n_1 = 8) := fun h9 => c_3 ((nI_eq (a := n_1) (b := 8) (by omega) (by omega)).mpr h9)
        refine z_aload_n B dX8_addRecord_77 rfl 4 rfl ?_
        refine z_iload B dX8_addRecord_78 0 rfl ?_
        obtain ⟨v_4, v_5, v_6, v_7, v_8, h_15⟩ := in19 (k := q) hI5 hk_q
        have h_16 : Φ4 (x + (q)) = some (o_ 5 [.long v_4, .long v_5, .long v_6, .int v_7, .int v_8]) := h_15
        refine z_callV (As := [.int (nI n_1)]) (rest := []) B (s_X3_value G l Φ4 sz x (ca) q (nI n_1) hx hI5 hk_q) (cwV 1 B.1.2.2.2.2 gX8_addRecord_X3_value rfl rfl rfl (by decide +kernel) ⟨Nat.le_of_ble_eq_true rfl, Nat.le_of_ble_eq_true rfl⟩) h_16 rfl rfl rfl rfl (Nat.le_of_ble_eq_true rfl) dX8_addRecord_80 ⟨Nat.le_of_ble_eq_true rfl, Nat.le_of_ble_eq_true rfl⟩ (fun r_3 Φ5 sz3 st3 hp3 hs3 => ?_)
        obtain ⟨⟨v_9, rfl⟩, hq3, hI6, hF4⟩ := hp3
        subst sz3
        replace hs3 : st3 = [.long v_9] := hs3
        subst st3
        replace hI6 : In G x (ca) Φ5 := hI6
        refine z_lstore (lv' := [(7, .long v_9), (6, .int (nI n_1)), (5, .int (nI i_1)), (4, .ref (x + (10 + 4 * u))), (0, .ref (x + 74)), (1, .ref (x + (q))), (2, .int (nI u)), (3, .int b)]) B dX8_addRecord_83 (Nat.le_of_ble_eq_true rfl) rfl ?_
        refine z_aload_n B dX8_addRecord_85 rfl 4 rfl ?_
        have h_17 : Φ5 (x + 74) = some (o_ 10 [.ref (x + 3), .ref (x + 46), .ref (x + 75), .ref (x + 77), .int (nI ((pn + 1))), .ref (x + 78), .ref (x + 79), .int ms, .long rs, .int sq]) := ((hF4 (x + 74) (fun j9 h8 h7 => (show False from h7).elim)).trans ((hF3 (x + 74) (fun j9 h8 h7 => (show False from h7).elim)).trans b_5))
        refine z_get (ref := "FlowExporter$Sender") (C := RX8) (T := TX8) (N := 10) (ci := 10) (v := .ref (x + 75)) B hu_X8_addRecord_X8 rfl 2 (Nat.le_of_ble_eq_true rfl) hv_X8_addRecord_14 rfl h_17 rfl dX8_addRecord_86 ?_
        refine z_lload B dX8_addRecord_89 0 rfl ?_
        refine z_ldc2 (v := 4294967295) B (by decide +kernel) dX8_addRecord_91 ?_
        refine z_land B dX8_addRecord_94 ?_
        refine z_fl (fun v_10 => ?_)
        refine z_iload B dX8_addRecord_95 1 rfl ?_
        refine z_callSN (As := [.int (nI n_1)]) (rest := [.long v_10, .ref (x + 75)]) B (s_X11_lengthOfX G l Φ5 sz x (ca) n_1 hx hI6 (show n_1 < 9 by omega)) ⟨va_cnB 1 B.1.2.2.2.2 gX8_addRecord_X11_lengthOf_n103 rfl rfl rfl (B.2.2.2.2.1.2.2.1 (RX8, 103, yX11_lengthOf) (by decide +kernel)) (B.1.2.2.2.2 _ (by decide +kernel)) (by decide +kernel) ⟨Nat.le_of_ble_eq_true rfl, Nat.le_of_ble_eq_true rfl⟩, B.1.2.2.2.2 _ (by decide +kernel), trivial⟩ rfl rfl (Nat.le_of_ble_eq_true rfl) dX8_addRecord_97 ⟨Nat.le_of_ble_eq_true rfl, Nat.le_of_ble_eq_true rfl⟩ (fun r_4 Φ6 sz4 st4 hp4 hs4 => ?_)
        obtain ⟨rfl, hq4, hI7, hF5⟩ := hp4
        subst sz4
        replace hs4 : st4 = [.int (nI (fnT n_1)), .long v_10, .ref (x + 75)] := hs4
        subst st4
        replace hI7 : In G x (ca) Φ6 := hI7
        have h_18 : Φ6 (x + 75) = some (o_ 7 [.ref (x + 76), .int (nI ((pl + smN f_1 i_1)))]) := ((hF5 (x + 75) (fun j9 h8 h7 => (show False from h7).elim)).trans ((hF4 (x + 75) (fun j9 h8 h7 => (show False from h7).elim)).trans ((hF3 (x + 75) (fun j9 h8 h7 => (show False from h7).elim)).trans b_4)))
        refine z_callV (As := [.long v_10, .int (nI (fnT n_1))]) (rest := []) B (s_X5_putL G l Φ6 sz x (ca) (pl + smN f_1 i_1) 75 v_10 (fnT n_1) hx hI7 rfl h_18 (show (fnT n_1) ≤ 8 by omega) (by have h9 : cap 75 = 348 := rfl; omega)) (cwV 2 B.1.2.2.2.2 gX8_addRecord_X5_put rfl rfl rfl (by decide +kernel) ⟨Nat.le_of_ble_eq_true rfl, Nat.le_of_ble_eq_true rfl⟩) h_18 rfl rfl rfl rfl (Nat.le_of_ble_eq_true rfl) dX8_addRecord_100 ⟨Nat.le_of_ble_eq_true rfl, Nat.le_of_ble_eq_true rfl⟩ (fun r_5 Φ7 sz5 st5 hp5 hs5 => ?_)
        obtain ⟨⟨rfl, h_19⟩, hq5, hI8, hF6⟩ := hp5
        subst sz5
        replace hs5 : st5 = [] := hs5
        subst st5
        replace hI8 : In G x (ca) Φ7 := hI8
        refine z_iinc (k := 2) (v := nI (i_1 + 1)) (lv' := [(5, .int (nI (i_1 + 1))), (7, .long v_9), (6, .int (nI n_1)), (4, .ref (x + (10 + 4 * u))), (0, .ref (x + 74)), (1, .ref (x + (q))), (2, .int (nI u)), (3, .int b)]) B dX8_addRecord_103 rfl (nI_add i_1 1) (Nat.le_of_ble_eq_true rfl) rfl ?_
        refine z_goto (tgt := 46) B dX8_addRecord_106 rfl ?_
        refine z_lv [0, 3, 4, 5, 6, 7] rfl ?_
        have hcg2 : CfA G x t s c Φ7 := (CfA.fr (CfA.fr (CfA.fr (CfA.fr b_3 hF3 (fun j9 h7 => (show False from h7).elim)) hF4 (fun j9 h7 => (show False from h7).elim)) hF5 (fun j9 h7 => (show False from h7).elim)) hF6 (fun j9 h7 => by have h6 : j9 = 75 ∨ j9 = 75 + 1 := h7; intros; omega))
        have h_20 : Φ7 (x + 74) = some (o_ 10 [.ref (x + 3), .ref (x + 46), .ref (x + 75), .ref (x + 77), .int (nI ((pn + 1))), .ref (x + 78), .ref (x + 79), .int ms, .long rs, .int sq]) := ((hF6 (x + 74) fq_729).trans ((hF5 (x + 74) (fun j9 h8 h7 => (show False from h7).elim)).trans h_17))
        have h_21 : Φ7 (x + 77) = some (ai_ G 12 upd fp (nI pn).toNatClampNeg (nI u)) := ((hF6 (x + 77) fq_730).trans ((hF5 (x + 77) (fun j9 h8 h7 => (show False from h7).elim)).trans ((hF4 (x + 77) (fun j9 h8 h7 => (show False from h7).elim)).trans ((hF3 (x + 77) (fun j9 h8 h7 => (show False from h7).elim)).trans b_6))))
        exact ih1 (i_1 + 1) Φ7 (show 9 - (i_1 + 1) < 9 - i_1 by omega) ⟨hI8, (fun b9 h9 => ((hF6 b9 (fun j9 h8 h7 => h9 j9 h8 (fq_728 j9 h7))).trans ((hF5 b9 (fun j9 h8 h7 => (show False from h7).elim)).trans ((hF4 b9 (fun j9 h8 h7 => (show False from h7).elim)).trans ((hF3 b9 (fun j9 h8 h7 => (show False from h7).elim)).trans ((hF2 b9 h9).trans rfl)))))), (show (i_1 + 1) ≤ 9 by omega), (show (i_1 + 1) ≤ esN c u by omega), hcg2, (h_19.trans (congrArg (fun w9 : Nat => some (o_ 7 [.ref (x + 76), .int (nI w9)])) (show (pl + smN f_1 i_1) + (fnT n_1) = pl + smN f_1 (i_1 + 1) by omega))), h_20, h_21, trivial⟩
      · have e_6 : n_1 = 8 := (nI_eq (a := n_1) (b := 8) (by omega) (by omega)).mp c_3
        refine z_iload_n B dX8_addRecord_72 rfl 6 rfl ?_
        refine z_i2l (v := b.toInt64) B dX8_addRecord_73 rfl ?_
        refine z_fl (fun v_11 => ?_)
        refine z_goto (tgt := 83) B dX8_addRecord_74 rfl ?_
        refine z_lstore (lv' := [(7, .long v_11), (6, .int (nI n_1)), (5, .int (nI i_1)), (4, .ref (x + (10 + 4 * u))), (0, .ref (x + 74)), (1, .ref (x + (q))), (2, .int (nI u)), (3, .int b)]) B dX8_addRecord_83 (Nat.le_of_ble_eq_true rfl) rfl ?_
        refine z_aload_n B dX8_addRecord_85 rfl 4 rfl ?_
        have h_22 : Φ4 (x + 74) = some (o_ 10 [.ref (x + 3), .ref (x + 46), .ref (x + 75), .ref (x + 77), .int (nI ((pn + 1))), .ref (x + 78), .ref (x + 79), .int ms, .long rs, .int sq]) := ((hF3 (x + 74) (fun j9 h8 h7 => (show False from h7).elim)).trans b_5)
        refine z_get (ref := "FlowExporter$Sender") (C := RX8) (T := TX8) (N := 10) (ci := 10) (v := .ref (x + 75)) B hu_X8_addRecord_X8 rfl 2 (Nat.le_of_ble_eq_true rfl) hv_X8_addRecord_14 rfl h_22 rfl dX8_addRecord_86 ?_
        refine z_lload B dX8_addRecord_89 0 rfl ?_
        refine z_ldc2 (v := 4294967295) B (by decide +kernel) dX8_addRecord_91 ?_
        refine z_land B dX8_addRecord_94 ?_
        refine z_fl (fun v_12 => ?_)
        refine z_iload B dX8_addRecord_95 1 rfl ?_
        refine z_callSN (As := [.int (nI n_1)]) (rest := [.long v_12, .ref (x + 75)]) B (s_X11_lengthOfX G l Φ4 sz x (ca) n_1 hx hI5 (show n_1 < 9 by omega)) ⟨va_cnB 1 B.1.2.2.2.2 gX8_addRecord_X11_lengthOf_n103 rfl rfl rfl (B.2.2.2.2.1.2.2.1 (RX8, 103, yX11_lengthOf) (by decide +kernel)) (B.1.2.2.2.2 _ (by decide +kernel)) (by decide +kernel) ⟨Nat.le_of_ble_eq_true rfl, Nat.le_of_ble_eq_true rfl⟩, B.1.2.2.2.2 _ (by decide +kernel), trivial⟩ rfl rfl (Nat.le_of_ble_eq_true rfl) dX8_addRecord_97 ⟨Nat.le_of_ble_eq_true rfl, Nat.le_of_ble_eq_true rfl⟩ (fun r_6 Φ8 sz6 st6 hp6 hs6 => ?_)
        obtain ⟨rfl, hq6, hI9, hF7⟩ := hp6
        subst sz6
        replace hs6 : st6 = [.int (nI (fnT n_1)), .long v_12, .ref (x + 75)] := hs6
        subst st6
        replace hI9 : In G x (ca) Φ8 := hI9
        have h_23 : Φ8 (x + 75) = some (o_ 7 [.ref (x + 76), .int (nI ((pl + smN f_1 i_1)))]) := ((hF7 (x + 75) (fun j9 h8 h7 => (show False from h7).elim)).trans ((hF3 (x + 75) (fun j9 h8 h7 => (show False from h7).elim)).trans b_4))
        refine z_callV (As := [.long v_12, .int (nI (fnT n_1))]) (rest := []) B (s_X5_putL G l Φ8 sz x (ca) (pl + smN f_1 i_1) 75 v_12 (fnT n_1) hx hI9 rfl h_23 (show (fnT n_1) ≤ 8 by omega) (by have h9 : cap 75 = 348 := rfl; omega)) (cwV 2 B.1.2.2.2.2 gX8_addRecord_X5_put rfl rfl rfl (by decide +kernel) ⟨Nat.le_of_ble_eq_true rfl, Nat.le_of_ble_eq_true rfl⟩) h_23 rfl rfl rfl rfl (Nat.le_of_ble_eq_true rfl) dX8_addRecord_100 ⟨Nat.le_of_ble_eq_true rfl, Nat.le_of_ble_eq_true rfl⟩ (fun r_7 Φ9 sz7 st7 hp7 hs7 => ?_)
        obtain ⟨⟨rfl, h_24⟩, hq7, hI10, hF8⟩ := hp7
        subst sz7
        replace hs7 : st7 = [] := hs7
        subst st7
        replace hI10 : In G x (ca) Φ9 := hI10
        refine z_iinc (k := 2) (v := nI (i_1 + 1)) (lv' := [(5, .int (nI (i_1 + 1))), (7, .long v_11), (6, .int (nI n_1)), (4, .ref (x + (10 + 4 * u))), (0, .ref (x + 74)), (1, .ref (x + (q))), (2, .int (nI u)), (3, .int b)]) B dX8_addRecord_103 rfl (nI_add i_1 1) (Nat.le_of_ble_eq_true rfl) rfl ?_
        refine z_goto (tgt := 46) B dX8_addRecord_106 rfl ?_
        refine z_lv [0, 3, 4, 5, 6, 7] rfl ?_
        have hcg3 : CfA G x t s c Φ9 := (CfA.fr (CfA.fr (CfA.fr b_3 hF3 (fun j9 h7 => (show False from h7).elim)) hF7 (fun j9 h7 => (show False from h7).elim)) hF8 (fun j9 h7 => by have h6 : j9 = 75 ∨ j9 = 75 + 1 := h7; intros; omega))
        have h_25 : Φ9 (x + 74) = some (o_ 10 [.ref (x + 3), .ref (x + 46), .ref (x + 75), .ref (x + 77), .int (nI ((pn + 1))), .ref (x + 78), .ref (x + 79), .int ms, .long rs, .int sq]) := ((hF8 (x + 74) fq_729).trans ((hF7 (x + 74) (fun j9 h8 h7 => (show False from h7).elim)).trans h_22))
        have h_26 : Φ9 (x + 77) = some (ai_ G 12 upd fp (nI pn).toNatClampNeg (nI u)) := ((hF8 (x + 77) fq_730).trans ((hF7 (x + 77) (fun j9 h8 h7 => (show False from h7).elim)).trans ((hF3 (x + 77) (fun j9 h8 h7 => (show False from h7).elim)).trans b_6)))
        exact ih1 (i_1 + 1) Φ9 (show 9 - (i_1 + 1) < 9 - i_1 by omega) ⟨hI10, (fun b9 h9 => ((hF8 b9 (fun j9 h8 h7 => h9 j9 h8 (fq_728 j9 h7))).trans ((hF7 b9 (fun j9 h8 h7 => (show False from h7).elim)).trans ((hF3 b9 (fun j9 h8 h7 => (show False from h7).elim)).trans ((hF2 b9 h9).trans rfl))))), (show (i_1 + 1) ≤ 9 by omega), (show (i_1 + 1) ≤ esN c u by omega), hcg3, (h_24.trans (congrArg (fun w9 : Nat => some (o_ 7 [.ref (x + 76), .int (nI w9)])) (show (pl + smN f_1 i_1) + (fnT n_1) = pl + smN f_1 (i_1 + 1) by omega))), h_25, h_26, trivial⟩
  · have e_7 : ¬ (pn < 12) := fun h9 => c_1 ((nI_ltI (a := pn) (b := 12) (by omega) (by omega)).mpr h9)
    exact z_ret_v B dX8_addRecord_12 ⟨⟨pn, pl, fp, rfl, hc0, hc1, hc2, Or.inr ⟨by omega, rfl, rfl, rfl⟩⟩, rfl, hI, (fun b9 h9 => rfl)⟩

theorem fq_731 {x : Nat} : ∀ j9 : Nat, x + 79 = x + j9 → (j9 = 74 ∨ j9 = 75) → False := by
  intro j9 h1 h2
  omega

set_option maxHeartbeats 4000000 in
set_option maxRecDepth 100000 in
theorem s_X8_putTemplateSetX (G : EnvG) (l : Launch) (Φ : Hm) (sz x ca : Nat) (pn : Nat) (ms : Int32) (rs : Int64) (sq : Int32) (fa : Nat → Int32) (fb : Nat → Int32) (t : Nat) (s : Nat) (c : Cf) (k : Nat) (b : Int32) (hx : G.2.2.2 ≤ x) (hI : In G x ca Φ) (hk_k : kd k = 1) (hc0 : Φ (x + 74) = some (o_ 10 [.ref (x + 3), .ref (x + 46), .ref (x + 75), .ref (x + 77), .int (nI pn), .ref (x + 78), .ref (x + 79), .int ms, .long rs, .int sq])) (hc1 : Φ (x + (k)) = some (o_ 7 [.ref (x + (k + 1)), .int (nI 16)])) (hc2 : Φ (x + 78) = some (ai_ G 4 fa)) (hc3 : Φ (x + 79) = some (ai_ G 4 fb)) (hcf0 : CfA G x t s c Φ) (hq1 : 48 ≤ k) (hq2 : k < 73) (hcp : cap k = 600) (hg : CfG c) (hpn : pn ≤ 12) : Ct G l yX8_putTemplateSet wsX8_putTemplateSet ({ frames := 2, cells := 0, slots := 0, locals := 49 }) 0 0 [.ref (x + 74), .ref (x + (k)), .int b] Φ sz (fun v Φ1 sz1 => (∃ (L8 : Nat) (a8 : Nat → Int32) (b8 : Nat → Int32), v = none ∧ Φ1 (x + (k)) = some (o_ 7 [.ref (x + (k + 1)), .int (nI L8)]) ∧ Φ1 (x + 78) = some (ai_ G 4 a8) ∧ Φ1 (x + 79) = some (ai_ G 4 b8) ∧ Φ1 (x + 74) = some (o_ 10 [.ref (x + 3), .ref (x + 46), .ref (x + 75), .ref (x + 77), .int (nI pn), .ref (x + 78), .ref (x + 79), .int ms, .long rs, .int sq]) ∧ (ptI c b (fa, fb, ms, rs, sq) 4 = (L8, a8, b8, ms, rs, sq)) ∧ (16 ≤ L8) ∧ (L8 ≤ 180)) ∧ sz1 = sz ∧ In G x (ca) Φ1 ∧ Fr x (fun j9 => (j9 = k ∨ j9 = k + 1) ∨ (j9 = 78 ∨ j9 = 79)) Φ Φ1) := by
  refine Ct.of (cc := cX8_putTemplateSet) (maxL := 5) (ret := none) (by decide) rfl (Nat.le_of_ble_eq_true rfl) ?_
  intro p9 e9 s9 m9 w9 t9 k9 B
  show Z p9 l e9 _ s9 m9 _ w9 t9 k9 _ G 5 0 [(0, .ref (x + 74)), (1, .ref (x + (k))), (2, .int b)] [] Φ sz 0 0
  refine z_aload_n B dX8_putTemplateSet_0 rfl 1 rfl ?_
  refine z_get (ref := "FlowExporter$Message") (C := RX5) (T := TX5) (N := 2) (ci := 7) (v := .int (nI 16)) B hu_X8_putTemplateSet_X5 rfl 1 (Nat.le_of_ble_eq_true rfl) hv_X8_putTemplateSet_61 rfl hc1 rfl dX8_putTemplateSet_1 ?_
  refine z_istore_n (lv' := [(3, .int (nI 16)), (0, .ref (x + 74)), (1, .ref (x + (k))), (2, .int b)]) B dX8_putTemplateSet_4 rfl (Nat.le_of_ble_eq_true rfl) rfl ?_
  refine z_iconst (v := 0) B dX8_putTemplateSet_5 rfl ?_
  refine z_istore (lv' := [(4, .int 0), (3, .int (nI 16)), (0, .ref (x + 74)), (1, .ref (x + (k))), (2, .int b)]) B dX8_putTemplateSet_6 (Nat.le_of_ble_eq_true rfl) rfl ?_
  refine z_lv [0, 1, 2, 3, 4] rfl ?_
  refine z_loop (α := Nat × Nat × (Nat → Int32) × (Nat → Int32)) (fun (a9 : Nat × Nat × (Nat → Int32) × (Nat → Int32)) Φi => In G x (ca) Φi ∧ Fr x (fun j9 => (j9 = k ∨ j9 = k + 1) ∨ (j9 = 78 ∨ j9 = 79)) Φ Φi ∧ (a9.1 ≤ 4) ∧ (16 ≤ a9.2.1) ∧ (a9.2.1 ≤ 20 + 40 * a9.1) ∧ (ptI c b (fa, fb, ms, rs, sq) a9.1 = (a9.2.1, a9.2.2.1, a9.2.2.2, ms, rs, sq)) ∧ (CfA G x t s c Φi) ∧ (Φi (x + (k)) = some (o_ 7 [.ref (x + (k + 1)), .int (nI (a9.2.1))])) ∧ (Φi (x + 78) = some (ai_ G 4 a9.2.2.1)) ∧ (Φi (x + 79) = some (ai_ G 4 a9.2.2.2)) ∧ (Φi (x + 74) = some (o_ 10 [.ref (x + 3), .ref (x + 46), .ref (x + 75), .ref (x + 77), .int (nI pn), .ref (x + 78), .ref (x + 79), .int ms, .long rs, .int sq])) ∧ True) (fun a9 => [(4, .int (nI (a9.1))), (3, .int (nI 16)), (0, .ref (x + 74)), (1, .ref (x + (k))), (2, .int b)]) (fun a9 => 4 - a9.1) ?_ (0, 16, fa, fb) ⟨hI, fun _ _ => rfl, (show 0 ≤ 4 by omega), (show 16 ≤ 16 by omega), (show 16 ≤ 20 + 40 * 0 by omega), rfl, hcf0, (hc1.trans (congrArg (fun w9 : Nat => some (o_ 7 [.ref (x + (k + 1)), .int (nI w9)])) (show 16 = 16 by omega))), hc2, hc3, hc0, trivial⟩
  rintro ⟨i_1, i_2, i_3, i_4⟩ Φl1 ⟨hI1, hF1, b_1, b_2, b_3, b_4, b_5, b_6, b_7, b_8, b_9, -⟩ ih1
  replace hI1 : In G x (ca) Φl1 := hI1
  replace b_1 : i_1 ≤ 4 := b_1
  replace b_2 : 16 ≤ i_2 := b_2
  replace b_3 : i_2 ≤ 20 + 40 * i_1 := b_3
  replace b_4 : ptI c b (fa, fb, ms, rs, sq) i_1 = (i_2, i_3, i_4, ms, rs, sq) := b_4
  replace b_5 : CfA G x t s c Φl1 := b_5
  replace b_6 : Φl1 (x + (k)) = some (o_ 7 [.ref (x + (k + 1)), .int (nI (i_2))]) := b_6
  replace b_7 : Φl1 (x + 78) = some (ai_ G 4 i_3) := b_7
  replace b_8 : Φl1 (x + 79) = some (ai_ G 4 i_4) := b_8
  replace b_9 : Φl1 (x + 74) = some (o_ 10 [.ref (x + 3), .ref (x + 46), .ref (x + 75), .ref (x + 77), .int (nI pn), .ref (x + 78), .ref (x + 79), .int ms, .long rs, .int sq]) := b_9
  show Z p9 l e9 _ s9 m9 _ w9 t9 k9 _ G 5 8 [(4, .int (nI i_1)), (3, .int (nI 16)), (0, .ref (x + 74)), (1, .ref (x + (k))), (2, .int b)] [] Φl1 _ _ _
  refine z_iload B dX8_putTemplateSet_8 0 rfl ?_
  refine z_iconst (v := 4) B dX8_putTemplateSet_10 rfl ?_
  refine z_icmp_ge (tgt := 80) B dX8_putTemplateSet_11 rfl (fun c_1 => ?_) (fun c_1 => ?_)
  · have e_1 : 4 ≤ i_1 := (nI_leI (a := 4) (b := i_1) (by omega) (by omega)).mp c_1
    refine z_aload_n B dX8_putTemplateSet_80 rfl 3 rfl ?_
    refine z_get (ref := "FlowExporter$Message") (C := RX5) (T := TX5) (N := 2) (ci := 7) (v := .int (nI (i_2))) B hu_X8_putTemplateSet_X5 rfl 1 (Nat.le_of_ble_eq_true rfl) hv_X8_putTemplateSet_61 rfl b_6 rfl dX8_putTemplateSet_81 ?_
    refine z_iload_n B dX8_putTemplateSet_84 rfl 1 rfl ?_
    refine z_icmp_le (tgt := 103) B dX8_putTemplateSet_85 rfl (fun c_2 => ?_) (fun c_2 => ?_)
    · have e_2 : i_2 ≤ 16 := (nI_leI (a := i_2) (b := 16) (by omega) (by omega)).mp c_2
      have hu9 : i_1 = 4 := by omega
      have hp9 : ptI c b (fa, fb, ms, rs, sq) 4 = (i_2, i_3, i_4, ms, rs, sq) := (congrArg (ptI c b (fa, fb, ms, rs, sq)) hu9).symm.trans b_4
      exact z_ret_v B dX8_putTemplateSet_103 ⟨⟨i_2, i_3, i_4, rfl, b_6, b_7, b_8, b_9, hp9, by omega, by omega⟩, rfl, hI1, (fun b9 h9 => ((hF1 b9 h9).trans rfl))⟩
    · have e_3 : ¬ (i_2 ≤ 16) := fun h9 => c_2 ((nI_leI (a := i_2) (b := 16) (by omega) (by omega)).mpr h9)
      refine z_aload_n B dX8_putTemplateSet_88 rfl 3 rfl ?_
      refine z_iload_n B dX8_putTemplateSet_89 rfl 1 rfl ?_
      refine z_iconst (v := 2) B dX8_putTemplateSet_90 rfl ?_
      refine z_iadd B dX8_putTemplateSet_91 ?_
      refine z_top (st1 := [.int (nI (16 + 2)), .ref (x + (k))]) (congrArg (fun w9 : Int32 => ([.int w9, .ref (x + (k))] : List Value)) (nI_add 16 2)) ?_
      refine z_aload_n B dX8_putTemplateSet_92 rfl 3 rfl ?_
      refine z_get (ref := "FlowExporter$Message") (C := RX5) (T := TX5) (N := 2) (ci := 7) (v := .int (nI (i_2))) B hu_X8_putTemplateSet_X5 rfl 1 (Nat.le_of_ble_eq_true rfl) hv_X8_putTemplateSet_61 rfl b_6 rfl dX8_putTemplateSet_93 ?_
      refine z_iload_n B dX8_putTemplateSet_96 rfl 1 rfl ?_
      refine z_isub B dX8_putTemplateSet_97 ?_
      refine z_fi (fun v_1 => ?_)
      refine z_i2l (v := v_1.toInt64) B dX8_putTemplateSet_98 rfl ?_
      refine z_fl (fun v_2 => ?_)
      refine z_iconst (v := 2) B dX8_putTemplateSet_99 rfl ?_
      refine z_callV (As := [.int (nI (16 + 2)), .long v_2, .int 2]) (rest := []) B (s_X5_putAt G l Φl1 sz x (ca) k (nI (16 + 2)) v_2 2 hx hI1 hk_k (show 2 ≤ 8 by omega)) (cwV 3 B.1.2.2.2.2 gX8_putTemplateSet_X5_putAt rfl rfl rfl (by decide +kernel) ⟨Nat.le_of_ble_eq_true rfl, Nat.le_of_ble_eq_true rfl⟩) b_6 rfl rfl rfl rfl (Nat.le_of_ble_eq_true rfl) dX8_putTemplateSet_100 ⟨Nat.le_of_ble_eq_true rfl, Nat.le_of_ble_eq_true rfl⟩ (fun r_1 Φ1 sz1 st1 hp1 hs1 => ?_)
      obtain ⟨rfl, hq1, hI2, hF2⟩ := hp1
      subst sz1
      replace hs1 : st1 = [] := hs1
      subst st1
      replace hI2 : In G x (ca) Φ1 := hI2
      have hu9 : i_1 = 4 := by omega
      have hp9 : ptI c b (fa, fb, ms, rs, sq) 4 = (i_2, i_3, i_4, ms, rs, sq) := (congrArg (ptI c b (fa, fb, ms, rs, sq)) hu9).symm.trans b_4
      have h_1 : Φ1 (x + (k)) = some (o_ 7 [.ref (x + (k + 1)), .int (nI (i_2))]) := ((hF2 (x + (k)) (fun j9 h8 h7 => by have h6 : j9 = k + 1 := h7; omega)).trans b_6)
      have h_2 : Φ1 (x + 78) = some (ai_ G 4 i_3) := ((hF2 (x + 78) (fun j9 h8 h7 => by have h6 : j9 = k + 1 := h7; omega)).trans b_7)
      have h_3 : Φ1 (x + 79) = some (ai_ G 4 i_4) := ((hF2 (x + 79) (fun j9 h8 h7 => by have h6 : j9 = k + 1 := h7; omega)).trans b_8)
      have h_4 : Φ1 (x + 74) = some (o_ 10 [.ref (x + 3), .ref (x + 46), .ref (x + 75), .ref (x + 77), .int (nI pn), .ref (x + 78), .ref (x + 79), .int ms, .long rs, .int sq]) := ((hF2 (x + 74) (fun j9 h8 h7 => by have h6 : j9 = k + 1 := h7; omega)).trans b_9)
      exact z_ret_v B dX8_putTemplateSet_103 ⟨⟨i_2, i_3, i_4, rfl, h_1, h_2, h_3, h_4, hp9, by omega, by omega⟩, rfl, hI2, (fun b9 h9 => ((hF2 b9 (fun j9 h8 h7 => h9 j9 h8 (show (j9 = k ∨ j9 = k + 1) ∨ (j9 = 78 ∨ j9 = 79) by have h6 : j9 = k + 1 := h7; omega))).trans ((hF1 b9 h9).trans rfl)))⟩
  · have e_4 : ¬ (4 ≤ i_1) := fun h9 => c_1 ((nI_leI (a := 4) (b := i_1) (by omega) (by omega)).mpr h9)
    refine z_aload_n B dX8_putTemplateSet_14 rfl 2 rfl ?_
    refine z_iload B dX8_putTemplateSet_15 0 rfl ?_
    refine z_iload_n B dX8_putTemplateSet_17 rfl 4 rfl ?_
    refine z_callV (As := [.int (nI i_1), .int b]) (rest := []) B (s_X8_mustSendX G l Φl1 sz x (ca) pn ms rs sq i_3 i_4 t s c i_1 b hx hI1 b_9 b_7 b_8 b_5 (show i_1 < 4 by omega) hg) (cwV 2 B.1.2.2.2.2 gX8_putTemplateSet_X8_mustSend rfl rfl rfl (by decide +kernel) ⟨Nat.le_of_ble_eq_true rfl, Nat.le_of_ble_eq_true rfl⟩) b_9 rfl rfl rfl rfl (Nat.le_of_ble_eq_true rfl) dX8_putTemplateSet_18 ⟨Nat.le_of_ble_eq_true rfl, Nat.le_of_ble_eq_true rfl⟩ (fun r_2 Φ2 sz2 st2 hp2 hs2 => ?_)
    obtain ⟨ha1, hq2, hI3, hF3⟩ := hp2
    subst sz2
    replace hI3 : In G x (ca) Φ2 := hI3
    rcases ha1 with ⟨rfl, e_5⟩ | ⟨rfl, e_6⟩
    · replace e_5 : dueP c b (i_3, i_4, ms, rs, sq) i_1 := e_5
      replace hs2 : st2 = [.int 1] := hs2
      subst st2
      refine z_if_eq (tgt := 74) B dX8_putTemplateSet_21 rfl (fun h9 => absurd h9 (by decide)) (fun c_3 => ?_)
      refine z_aload_n B dX8_putTemplateSet_24 rfl 3 rfl ?_
      have h_5 : Φ2 (x + (k)) = some (o_ 7 [.ref (x + (k + 1)), .int (nI (i_2))]) := ((hF3 (x + (k)) (fun j9 h8 h7 => (show False from h7).elim)).trans b_6)
      refine z_get (ref := "FlowExporter$Message") (C := RX5) (T := TX5) (N := 2) (ci := 7) (v := .int (nI (i_2))) B hu_X8_putTemplateSet_X5 rfl 1 (Nat.le_of_ble_eq_true rfl) hv_X8_putTemplateSet_61 rfl h_5 rfl dX8_putTemplateSet_25 ?_
      refine z_iload_n B dX8_putTemplateSet_28 rfl 1 rfl ?_
      refine z_icmp_ne (tgt := 46) B dX8_putTemplateSet_29 rfl (fun c_4 => ?_) (fun c_4 => ?_)
      · have e_7 : ¬ (i_2 = 16) := fun h9 => c_4 ((nI_eq (a := i_2) (b := 16) (by omega) (by omega)).mpr h9)
        refine z_aload_n B dX8_putTemplateSet_46 rfl 2 rfl ?_
        refine z_aload_n B dX8_putTemplateSet_47 rfl 3 rfl ?_
        refine z_iload B dX8_putTemplateSet_48 0 rfl ?_
        have hcg1 : CfA G x t s c Φ2 := (CfA.fr b_5 hF3 (fun j9 h7 => (show False from h7).elim))
        have h_6 : Φ2 (x + 74) = some (o_ 10 [.ref (x + 3), .ref (x + 46), .ref (x + 75), .ref (x + 77), .int (nI pn), .ref (x + 78), .ref (x + 79), .int ms, .long rs, .int sq]) := ((hF3 (x + 74) (fun j9 h8 h7 => (show False from h7).elim)).trans b_9)
        refine z_callV (As := [.ref (x + (k)), .int (nI i_1)]) (rest := []) B (s_X8_putTemplateX G l Φ2 sz x (ca) i_2 t s c k i_1 hx hI3 hk_k h_5 hcg1 (show 48 ≤ k by omega) (show k < 73 by omega) (show cap k = 600 by omega) (show i_1 < 4 by omega) (show i_2 + 40 ≤ 600 by omega) hg) (cwV 2 B.1.2.2.2.2 gX8_putTemplateSet_X8_putTemplate rfl rfl rfl (by decide +kernel) ⟨Nat.le_of_ble_eq_true rfl, Nat.le_of_ble_eq_true rfl⟩) h_6 rfl rfl rfl rfl (Nat.le_of_ble_eq_true rfl) dX8_putTemplateSet_50 ⟨Nat.le_of_ble_eq_true rfl, Nat.le_of_ble_eq_true rfl⟩ (fun r_3 Φ3 sz3 st3 hp3 hs3 => ?_)
        obtain ⟨⟨rfl, h_7⟩, hq3, hI4, hF4⟩ := hp3
        subst sz3
        replace hs3 : st3 = [] := hs3
        subst st3
        replace hI4 : In G x (ca) Φ3 := hI4
        refine z_aload_n B dX8_putTemplateSet_53 rfl 2 rfl ?_
        have h_8 : Φ3 (x + 74) = some (o_ 10 [.ref (x + 3), .ref (x + 46), .ref (x + 75), .ref (x + 77), .int (nI pn), .ref (x + 78), .ref (x + 79), .int ms, .long rs, .int sq]) := ((hF4 (x + 74) (fun j9 h8 h7 => by have h6 : j9 = k ∨ j9 = k + 1 := h7; omega)).trans h_6)
        refine z_get (ref := "FlowExporter$Sender") (C := RX8) (T := TX8) (N := 10) (ci := 10) (v := .ref (x + 78)) B hu_X8_putTemplateSet_X8 rfl 5 (Nat.le_of_ble_eq_true rfl) hv_X8_putTemplateSet_28 rfl h_8 rfl dX8_putTemplateSet_54 ?_
        refine z_iload B dX8_putTemplateSet_57 0 rfl ?_
        refine z_aload_n B dX8_putTemplateSet_59 rfl 2 rfl ?_
        refine z_get (ref := "FlowExporter$Sender") (C := RX8) (T := TX8) (N := 10) (ci := 10) (v := .int ms) B hu_X8_putTemplateSet_X8 rfl 7 (Nat.le_of_ble_eq_true rfl) hv_X8_putTemplateSet_34 rfl h_8 rfl dX8_putTemplateSet_60 ?_
        refine z_iconst (v := 1) B dX8_putTemplateSet_63 rfl ?_
        refine z_iadd B dX8_putTemplateSet_64 ?_
        have h_9 : Φ3 (x + 78) = some (ai_ G 4 i_3) := ((hF4 (x + 78) (fun j9 h8 h7 => by have h6 : j9 = k ∨ j9 = k + 1 := h7; omega)).trans ((hF3 (x + 78) (fun j9 h8 h7 => (show False from h7).elim)).trans b_7))
        refine z_iast B h_9 (Nat.le_trans hx (Nat.le_add_right x 78)) (vp_in_nI (by omega) (by omega)) dX8_putTemplateSet_65 (fun Φ4 hΦ1 => ?_)
        have h_10 : Φ4 (x + 78) = some (ai_ G 4 (upd i_3 (nI i_1).toNatClampNeg (ms + 1))) := fset_at hΦ1
        have hI5 : In G x (ca) Φ4 := In.put (k := 78) hI4 hΦ1 (ok15 (k := 78) rfl ⟨_, rfl⟩)
        have h_11 : Φ4 (x + 78) = some (ai_ G 4 (upd i_3 (nI i_1).toNatClampNeg (ms + 1))) := fset_at hΦ1
        have h_12 : Φ4 (x + 78) = some (ai_ G 4 (upd i_3 (nI i_1).toNatClampNeg (ms + 1))) := fset_at hΦ1
        refine z_aload_n B dX8_putTemplateSet_66 rfl 2 rfl ?_
        have h_13 : Φ4 (x + 74) = some (o_ 10 [.ref (x + 3), .ref (x + 46), .ref (x + 75), .ref (x + 77), .int (nI pn), .ref (x + 78), .ref (x + 79), .int ms, .long rs, .int sq]) := ((fset_fr hΦ1 (ne_off (x := x) (i := 74) (j := 78) rfl)).trans h_8)
        refine z_get (ref := "FlowExporter$Sender") (C := RX8) (T := TX8) (N := 10) (ci := 10) (v := .ref (x + 79)) B hu_X8_putTemplateSet_X8 rfl 6 (Nat.le_of_ble_eq_true rfl) hv_X8_putTemplateSet_31 rfl h_13 rfl dX8_putTemplateSet_67 ?_
        refine z_iload B dX8_putTemplateSet_70 0 rfl ?_
        refine z_iload_n B dX8_putTemplateSet_72 rfl 4 rfl ?_
        have h_14 : Φ4 (x + 79) = some (ai_ G 4 i_4) := ((fset_fr hΦ1 (ne_off (x := x) (i := 79) (j := 78) rfl)).trans ((hF4 (x + 79) (fun j9 h8 h7 => by have h6 : j9 = k ∨ j9 = k + 1 := h7; omega)).trans ((hF3 (x + 79) (fun j9 h8 h7 => (show False from h7).elim)).trans b_8)))
        refine z_iast B h_14 (Nat.le_trans hx (Nat.le_add_right x 79)) (vp_in_nI (by omega) (by omega)) dX8_putTemplateSet_73 (fun Φ5 hΦ2 => ?_)
        have h_15 : Φ5 (x + 79) = some (ai_ G 4 (upd i_4 (nI i_1).toNatClampNeg b)) := fset_at hΦ2
        have hI6 : In G x (ca) Φ5 := In.put (k := 79) hI5 hΦ2 (ok15 (k := 79) rfl ⟨_, rfl⟩)
        have h_16 : Φ5 (x + 79) = some (ai_ G 4 (upd i_4 (nI i_1).toNatClampNeg b)) := fset_at hΦ2
        have h_17 : Φ5 (x + 79) = some (ai_ G 4 (upd i_4 (nI i_1).toNatClampNeg b)) := fset_at hΦ2
        refine z_iinc (k := 0) (v := nI (i_1 + 1)) (lv' := [(4, .int (nI (i_1 + 1))), (3, .int (nI 16)), (0, .ref (x + 74)), (1, .ref (x + (k))), (2, .int b)]) B dX8_putTemplateSet_74 rfl (nI_add i_1 1) (Nat.le_of_ble_eq_true rfl) rfl ?_
        refine z_goto (tgt := 8) B dX8_putTemplateSet_77 rfl ?_
        refine z_lv [0, 1, 2, 3, 4] rfl ?_
        have hcg2 : CfA G x t s c Φ5 := (CfA.off (k := 79) (CfA.off (k := 78) (CfA.fr hcg1 hF4 (fun j9 h7 => by have h6 : j9 = k ∨ j9 = k + 1 := h7; intros; omega)) hΦ1 (by intros; omega)) hΦ2 (by intros; omega))
        have h_18 : Φ5 (x + (k)) = some (o_ 7 [.ref (x + (k + 1)), .int (nI (i_2 + 4 + 4 * esN c i_1))]) := ((fset_fr hΦ2 (by omega)).trans ((fset_fr hΦ1 (by omega)).trans h_7))
        have h_19 : Φ5 (x + 78) = some (ai_ G 4 (upd i_3 (nI i_1).toNatClampNeg (ms + 1))) := ((fset_fr hΦ2 (ne_off (x := x) (i := 78) (j := 79) rfl)).trans h_12)
        have h_20 : Φ5 (x + 74) = some (o_ 10 [.ref (x + 3), .ref (x + 46), .ref (x + 75), .ref (x + 77), .int (nI pn), .ref (x + 78), .ref (x + 79), .int ms, .long rs, .int sq]) := ((fset_fr hΦ2 (ne_off (x := x) (i := 74) (j := 79) rfl)).trans h_13)
        exact ih1 (i_1 + 1, i_2 + 4 + 4 * esN c i_1, (upd i_3 (nI i_1).toNatClampNeg (ms + 1)), (upd i_4 (nI i_1).toNatClampNeg b)) Φ5 (show 4 - (i_1 + 1) < 4 - i_1 by omega) ⟨hI6, (fun b9 h9 => ((fset_fr hΦ2 (fun h8 => h9 (79) h8 (show (79 = k ∨ 79 = k + 1) ∨ (79 = 78 ∨ 79 = 79) by omega))).trans ((fset_fr hΦ1 (fun h8 => h9 (78) h8 (show (78 = k ∨ 78 = k + 1) ∨ (78 = 78 ∨ 78 = 79) by omega))).trans ((hF4 b9 (fun j9 h8 h7 => h9 j9 h8 (show (j9 = k ∨ j9 = k + 1) ∨ (j9 = 78 ∨ j9 = 79) by have h6 : j9 = k ∨ j9 = k + 1 := h7; omega))).trans ((hF3 b9 (fun j9 h8 h7 => (show False from h7).elim)).trans ((hF1 b9 h9).trans rfl)))))), (show (i_1 + 1) ≤ 4 by omega), (show 16 ≤ (i_2 + 4 + 4 * esN c i_1) by omega), (show (i_2 + 4 + 4 * esN c i_1) ≤ 20 + 40 * (i_1 + 1) by omega), (pts_y b_4 e_5 (by rw [if_neg (show ¬ i_2 = 16 by omega)]; omega) (nI_clamp (by omega))), hcg2, (h_18.trans (congrArg (fun w9 : Nat => some (o_ 7 [.ref (x + (k + 1)), .int (nI w9)])) (show i_2 + 4 + 4 * esN c i_1 = i_2 + 4 + 4 * esN c i_1 by omega))), h_19, h_17, h_20, trivial⟩
      · have e_8 : i_2 = 16 := (nI_eq (a := i_2) (b := 16) (by omega) (by omega)).mp c_4
        refine z_aload_n B dX8_putTemplateSet_32 rfl 3 rfl ?_
        refine z_ldc2 (v := 2) B (by decide +kernel) dX8_putTemplateSet_33 ?_
        refine z_iconst (v := 2) B dX8_putTemplateSet_36 rfl ?_
        refine z_callV (As := [.long 2, .int 2]) (rest := []) B (s_X5_putL G l Φ2 sz x (ca) i_2 k 2 2 hx hI3 hk_k h_5 (show 2 ≤ 8 by omega) (show i_2 + 2 ≤ cap k by omega)) (cwV 2 B.1.2.2.2.2 gX8_putTemplateSet_X5_put rfl rfl rfl (by decide +kernel) ⟨Nat.le_of_ble_eq_true rfl, Nat.le_of_ble_eq_true rfl⟩) h_5 rfl rfl rfl rfl (Nat.le_of_ble_eq_true rfl) dX8_putTemplateSet_37 ⟨Nat.le_of_ble_eq_true rfl, Nat.le_of_ble_eq_true rfl⟩ (fun r_4 Φ6 sz4 st4 hp4 hs4 => ?_)
        obtain ⟨⟨rfl, h_21⟩, hq4, hI7, hF5⟩ := hp4
        subst sz4
        replace hs4 : st4 = [] := hs4
        subst st4
        replace hI7 : In G x (ca) Φ6 := hI7
        refine z_aload_n B dX8_putTemplateSet_40 rfl 3 rfl ?_
        refine z_lconst (v := 0) B dX8_putTemplateSet_41 rfl ?_
        refine z_iconst (v := 2) B dX8_putTemplateSet_42 rfl ?_
        refine z_callV (As := [.long 0, .int 2]) (rest := []) B (s_X5_putL G l Φ6 sz x (ca) (i_2 + 2) k 0 2 hx hI7 hk_k h_21 (show 2 ≤ 8 by omega) (show (i_2 + 2) + 2 ≤ cap k by omega)) (cwV 2 B.1.2.2.2.2 gX8_putTemplateSet_X5_put rfl rfl rfl (by decide +kernel) ⟨Nat.le_of_ble_eq_true rfl, Nat.le_of_ble_eq_true rfl⟩) h_21 rfl rfl rfl rfl (Nat.le_of_ble_eq_true rfl) dX8_putTemplateSet_43 ⟨Nat.le_of_ble_eq_true rfl, Nat.le_of_ble_eq_true rfl⟩ (fun r_5 Φ7 sz5 st5 hp5 hs5 => ?_)
        obtain ⟨⟨rfl, h_22⟩, hq5, hI8, hF6⟩ := hp5
        subst sz5
        replace hs5 : st5 = [] := hs5
        subst st5
        replace hI8 : In G x (ca) Φ7 := hI8
        refine z_aload_n B dX8_putTemplateSet_46 rfl 2 rfl ?_
        refine z_aload_n B dX8_putTemplateSet_47 rfl 3 rfl ?_
        refine z_iload B dX8_putTemplateSet_48 0 rfl ?_
        have hcg3 : CfA G x t s c Φ7 := (CfA.fr (CfA.fr (CfA.fr b_5 hF3 (fun j9 h7 => (show False from h7).elim)) hF5 (fun j9 h7 => by have h6 : j9 = k ∨ j9 = k + 1 := h7; intros; omega)) hF6 (fun j9 h7 => by have h6 : j9 = k ∨ j9 = k + 1 := h7; intros; omega))
        have h_23 : Φ7 (x + 74) = some (o_ 10 [.ref (x + 3), .ref (x + 46), .ref (x + 75), .ref (x + 77), .int (nI pn), .ref (x + 78), .ref (x + 79), .int ms, .long rs, .int sq]) := ((hF6 (x + 74) (fun j9 h8 h7 => by have h6 : j9 = k ∨ j9 = k + 1 := h7; omega)).trans ((hF5 (x + 74) (fun j9 h8 h7 => by have h6 : j9 = k ∨ j9 = k + 1 := h7; omega)).trans ((hF3 (x + 74) (fun j9 h8 h7 => (show False from h7).elim)).trans b_9)))
        refine z_callV (As := [.ref (x + (k)), .int (nI i_1)]) (rest := []) B (s_X8_putTemplateX G l Φ7 sz x (ca) ((i_2 + 2) + 2) t s c k i_1 hx hI8 hk_k h_22 hcg3 (show 48 ≤ k by omega) (show k < 73 by omega) (show cap k = 600 by omega) (show i_1 < 4 by omega) (show ((i_2 + 2) + 2) + 40 ≤ 600 by omega) hg) (cwV 2 B.1.2.2.2.2 gX8_putTemplateSet_X8_putTemplate rfl rfl rfl (by decide +kernel) ⟨Nat.le_of_ble_eq_true rfl, Nat.le_of_ble_eq_true rfl⟩) h_23 rfl rfl rfl rfl (Nat.le_of_ble_eq_true rfl) dX8_putTemplateSet_50 ⟨Nat.le_of_ble_eq_true rfl, Nat.le_of_ble_eq_true rfl⟩ (fun r_6 Φ8 sz6 st6 hp6 hs6 => ?_)
        obtain ⟨⟨rfl, h_24⟩, hq6, hI9, hF7⟩ := hp6
        subst sz6
        replace hs6 : st6 = [] := hs6
        subst st6
        replace hI9 : In G x (ca) Φ8 := hI9
        refine z_aload_n B dX8_putTemplateSet_53 rfl 2 rfl ?_
        have h_25 : Φ8 (x + 74) = some (o_ 10 [.ref (x + 3), .ref (x + 46), .ref (x + 75), .ref (x + 77), .int (nI pn), .ref (x + 78), .ref (x + 79), .int ms, .long rs, .int sq]) := ((hF7 (x + 74) (fun j9 h8 h7 => by have h6 : j9 = k ∨ j9 = k + 1 := h7; omega)).trans h_23)
        refine z_get (ref := "FlowExporter$Sender") (C := RX8) (T := TX8) (N := 10) (ci := 10) (v := .ref (x + 78)) B hu_X8_putTemplateSet_X8 rfl 5 (Nat.le_of_ble_eq_true rfl) hv_X8_putTemplateSet_28 rfl h_25 rfl dX8_putTemplateSet_54 ?_
        refine z_iload B dX8_putTemplateSet_57 0 rfl ?_
        refine z_aload_n B dX8_putTemplateSet_59 rfl 2 rfl ?_
        refine z_get (ref := "FlowExporter$Sender") (C := RX8) (T := TX8) (N := 10) (ci := 10) (v := .int ms) B hu_X8_putTemplateSet_X8 rfl 7 (Nat.le_of_ble_eq_true rfl) hv_X8_putTemplateSet_34 rfl h_25 rfl dX8_putTemplateSet_60 ?_
        refine z_iconst (v := 1) B dX8_putTemplateSet_63 rfl ?_
        refine z_iadd B dX8_putTemplateSet_64 ?_
        have h_26 : Φ8 (x + 78) = some (ai_ G 4 i_3) := ((hF7 (x + 78) (fun j9 h8 h7 => by have h6 : j9 = k ∨ j9 = k + 1 := h7; omega)).trans ((hF6 (x + 78) (fun j9 h8 h7 => by have h6 : j9 = k ∨ j9 = k + 1 := h7; omega)).trans ((hF5 (x + 78) (fun j9 h8 h7 => by have h6 : j9 = k ∨ j9 = k + 1 := h7; omega)).trans ((hF3 (x + 78) (fun j9 h8 h7 => (show False from h7).elim)).trans b_7))))
        refine z_iast B h_26 (Nat.le_trans hx (Nat.le_add_right x 78)) (vp_in_nI (by omega) (by omega)) dX8_putTemplateSet_65 (fun Φ9 hΦ3 => ?_)
        have h_27 : Φ9 (x + 78) = some (ai_ G 4 (upd i_3 (nI i_1).toNatClampNeg (ms + 1))) := fset_at hΦ3
        have hI10 : In G x (ca) Φ9 := In.put (k := 78) hI9 hΦ3 (ok15 (k := 78) rfl ⟨_, rfl⟩)
        have h_28 : Φ9 (x + 78) = some (ai_ G 4 (upd i_3 (nI i_1).toNatClampNeg (ms + 1))) := fset_at hΦ3
        have h_29 : Φ9 (x + 78) = some (ai_ G 4 (upd i_3 (nI i_1).toNatClampNeg (ms + 1))) := fset_at hΦ3
        refine z_aload_n B dX8_putTemplateSet_66 rfl 2 rfl ?_
        have h_30 : Φ9 (x + 74) = some (o_ 10 [.ref (x + 3), .ref (x + 46), .ref (x + 75), .ref (x + 77), .int (nI pn), .ref (x + 78), .ref (x + 79), .int ms, .long rs, .int sq]) := ((fset_fr hΦ3 (ne_off (x := x) (i := 74) (j := 78) rfl)).trans h_25)
        refine z_get (ref := "FlowExporter$Sender") (C := RX8) (T := TX8) (N := 10) (ci := 10) (v := .ref (x + 79)) B hu_X8_putTemplateSet_X8 rfl 6 (Nat.le_of_ble_eq_true rfl) hv_X8_putTemplateSet_31 rfl h_30 rfl dX8_putTemplateSet_67 ?_
        refine z_iload B dX8_putTemplateSet_70 0 rfl ?_
        refine z_iload_n B dX8_putTemplateSet_72 rfl 4 rfl ?_
        have h_31 : Φ9 (x + 79) = some (ai_ G 4 i_4) := ((fset_fr hΦ3 (ne_off (x := x) (i := 79) (j := 78) rfl)).trans ((hF7 (x + 79) (fun j9 h8 h7 => by have h6 : j9 = k ∨ j9 = k + 1 := h7; omega)).trans ((hF6 (x + 79) (fun j9 h8 h7 => by have h6 : j9 = k ∨ j9 = k + 1 := h7; omega)).trans ((hF5 (x + 79) (fun j9 h8 h7 => by have h6 : j9 = k ∨ j9 = k + 1 := h7; omega)).trans ((hF3 (x + 79) (fun j9 h8 h7 => (show False from h7).elim)).trans b_8)))))
        refine z_iast B h_31 (Nat.le_trans hx (Nat.le_add_right x 79)) (vp_in_nI (by omega) (by omega)) dX8_putTemplateSet_73 (fun Φ10 hΦ4 => ?_)
        have h_32 : Φ10 (x + 79) = some (ai_ G 4 (upd i_4 (nI i_1).toNatClampNeg b)) := fset_at hΦ4
        have hI11 : In G x (ca) Φ10 := In.put (k := 79) hI10 hΦ4 (ok15 (k := 79) rfl ⟨_, rfl⟩)
        have h_33 : Φ10 (x + 79) = some (ai_ G 4 (upd i_4 (nI i_1).toNatClampNeg b)) := fset_at hΦ4
        have h_34 : Φ10 (x + 79) = some (ai_ G 4 (upd i_4 (nI i_1).toNatClampNeg b)) := fset_at hΦ4
        refine z_iinc (k := 0) (v := nI (i_1 + 1)) (lv' := [(4, .int (nI (i_1 + 1))), (3, .int (nI 16)), (0, .ref (x + 74)), (1, .ref (x + (k))), (2, .int b)]) B dX8_putTemplateSet_74 rfl (nI_add i_1 1) (Nat.le_of_ble_eq_true rfl) rfl ?_
        refine z_goto (tgt := 8) B dX8_putTemplateSet_77 rfl ?_
        refine z_lv [0, 1, 2, 3, 4] rfl ?_
        have hcg4 : CfA G x t s c Φ10 := (CfA.off (k := 79) (CfA.off (k := 78) (CfA.fr hcg3 hF7 (fun j9 h7 => by have h6 : j9 = k ∨ j9 = k + 1 := h7; intros; omega)) hΦ3 (by intros; omega)) hΦ4 (by intros; omega))
        have h_35 : Φ10 (x + (k)) = some (o_ 7 [.ref (x + (k + 1)), .int (nI (((i_2 + 2) + 2) + 4 + 4 * esN c i_1))]) := ((fset_fr hΦ4 (by omega)).trans ((fset_fr hΦ3 (by omega)).trans h_24))
        have h_36 : Φ10 (x + 78) = some (ai_ G 4 (upd i_3 (nI i_1).toNatClampNeg (ms + 1))) := ((fset_fr hΦ4 (ne_off (x := x) (i := 78) (j := 79) rfl)).trans h_29)
        have h_37 : Φ10 (x + 74) = some (o_ 10 [.ref (x + 3), .ref (x + 46), .ref (x + 75), .ref (x + 77), .int (nI pn), .ref (x + 78), .ref (x + 79), .int ms, .long rs, .int sq]) := ((fset_fr hΦ4 (ne_off (x := x) (i := 74) (j := 79) rfl)).trans h_30)
        exact ih1 (i_1 + 1, ((i_2 + 2) + 2) + 4 + 4 * esN c i_1, (upd i_3 (nI i_1).toNatClampNeg (ms + 1)), (upd i_4 (nI i_1).toNatClampNeg b)) Φ10 (show 4 - (i_1 + 1) < 4 - i_1 by omega) ⟨hI11, (fun b9 h9 => ((fset_fr hΦ4 (fun h8 => h9 (79) h8 (show (79 = k ∨ 79 = k + 1) ∨ (79 = 78 ∨ 79 = 79) by omega))).trans ((fset_fr hΦ3 (fun h8 => h9 (78) h8 (show (78 = k ∨ 78 = k + 1) ∨ (78 = 78 ∨ 78 = 79) by omega))).trans ((hF7 b9 (fun j9 h8 h7 => h9 j9 h8 (show (j9 = k ∨ j9 = k + 1) ∨ (j9 = 78 ∨ j9 = 79) by have h6 : j9 = k ∨ j9 = k + 1 := h7; omega))).trans ((hF6 b9 (fun j9 h8 h7 => h9 j9 h8 (show (j9 = k ∨ j9 = k + 1) ∨ (j9 = 78 ∨ j9 = 79) by have h6 : j9 = k ∨ j9 = k + 1 := h7; omega))).trans ((hF5 b9 (fun j9 h8 h7 => h9 j9 h8 (show (j9 = k ∨ j9 = k + 1) ∨ (j9 = 78 ∨ j9 = 79) by have h6 : j9 = k ∨ j9 = k + 1 := h7; omega))).trans ((hF3 b9 (fun j9 h8 h7 => (show False from h7).elim)).trans ((hF1 b9 h9).trans rfl)))))))), (show (i_1 + 1) ≤ 4 by omega), (show 16 ≤ (((i_2 + 2) + 2) + 4 + 4 * esN c i_1) by omega), (show (((i_2 + 2) + 2) + 4 + 4 * esN c i_1) ≤ 20 + 40 * (i_1 + 1) by omega), (pts_y b_4 e_5 (by rw [if_pos (show i_2 = 16 by omega)]; omega) (nI_clamp (by omega))), hcg4, (h_35.trans (congrArg (fun w9 : Nat => some (o_ 7 [.ref (x + (k + 1)), .int (nI w9)])) (show ((i_2 + 2) + 2) + 4 + 4 * esN c i_1 = ((i_2 + 2) + 2) + 4 + 4 * esN c i_1 by omega))), h_36, h_34, h_37, trivial⟩
    · replace e_6 : ¬ dueP c b (i_3, i_4, ms, rs, sq) i_1 := e_6
      replace hs2 : st2 = [.int 0] := hs2
      subst st2
      refine z_if_eq (tgt := 74) B dX8_putTemplateSet_21 rfl (fun c_5 => ?_) (fun h9 => absurd (by decide) h9)
      refine z_iinc (k := 0) (v := nI (i_1 + 1)) (lv' := [(4, .int (nI (i_1 + 1))), (3, .int (nI 16)), (0, .ref (x + 74)), (1, .ref (x + (k))), (2, .int b)]) B dX8_putTemplateSet_74 rfl (nI_add i_1 1) (Nat.le_of_ble_eq_true rfl) rfl ?_
      refine z_goto (tgt := 8) B dX8_putTemplateSet_77 rfl ?_
      refine z_lv [0, 1, 2, 3, 4] rfl ?_
      have hcg5 : CfA G x t s c Φ2 := (CfA.fr b_5 hF3 (fun j9 h7 => (show False from h7).elim))
      have h_38 : Φ2 (x + (k)) = some (o_ 7 [.ref (x + (k + 1)), .int (nI (i_2))]) := ((hF3 (x + (k)) (fun j9 h8 h7 => (show False from h7).elim)).trans b_6)
      have h_39 : Φ2 (x + 78) = some (ai_ G 4 i_3) := ((hF3 (x + 78) (fun j9 h8 h7 => (show False from h7).elim)).trans b_7)
      have h_40 : Φ2 (x + 79) = some (ai_ G 4 i_4) := ((hF3 (x + 79) (fun j9 h8 h7 => (show False from h7).elim)).trans b_8)
      have h_41 : Φ2 (x + 74) = some (o_ 10 [.ref (x + 3), .ref (x + 46), .ref (x + 75), .ref (x + 77), .int (nI pn), .ref (x + 78), .ref (x + 79), .int ms, .long rs, .int sq]) := ((hF3 (x + 74) (fun j9 h8 h7 => (show False from h7).elim)).trans b_9)
      exact ih1 (i_1 + 1, i_2, i_3, i_4) Φ2 (show 4 - (i_1 + 1) < 4 - i_1 by omega) ⟨hI3, (fun b9 h9 => ((hF3 b9 (fun j9 h8 h7 => (show False from h7).elim)).trans ((hF1 b9 h9).trans rfl))), (show (i_1 + 1) ≤ 4 by omega), (show 16 ≤ i_2 by omega), (show i_2 ≤ 20 + 40 * (i_1 + 1) by omega), (ptI_n b_4 e_6), hcg5, h_38, h_39, h_40, h_41, trivial⟩

set_option maxHeartbeats 4000000 in
set_option maxRecDepth 100000 in
theorem s_X7_messageAtX (G : EnvG) (l : Launch) (Φ : Hm) (sz x ca : Nat) (qn : Nat) (qL : Nat → Nat) (qd : Int32) (qp : Nat → Nat) (i : Nat) (hx : G.2.2.2 ≤ x) (hI : In G x ca Φ) (hcf0 : QbR G x qn qL qd qp Φ) (hi : i < 13) : Ct G l yX7_messageAt wsX7_messageAt ({ frames := 0, cells := 0, slots := 0, locals := 0 }) 0 0 [.ref (x + 46), .int (nI i)] Φ sz (fun v Φ1 sz1 => (v = some (.ref (x + (48 + 2 * qp i)))) ∧ sz1 = sz ∧ In G x (ca) Φ1 ∧ Fr x (fun j9 => False) Φ Φ1) := by
  refine Ct.of (cc := cX7_messageAt) (maxL := 2) (ret := (some (.object "FlowExporter$Message"))) (by decide) rfl (Nat.le_of_ble_eq_true rfl) ?_
  intro p9 e9 s9 m9 w9 t9 k9 B
  show Z p9 l e9 _ s9 m9 _ w9 t9 k9 _ G 2 0 [(0, .ref (x + 46)), (1, .int (nI i))] [] Φ sz 0 0
  refine z_aload_n B dX7_messageAt_0 rfl 0 rfl ?_
  obtain ⟨n_1, v_1, h_1, b_1⟩ := in11 (k := 46) hI rfl
  have h_2 : Φ (x + 46) = some (o_ 9 [.ref (x + 47), .int (nI n_1), .int v_1]) := h_1
  refine z_get (ref := "FlowExporter$Queue") (C := RX7) (T := TX7) (N := 3) (ci := 9) (v := .ref (x + 47)) B hu_X7_messageAt_X7 rfl 0 (Nat.le_of_ble_eq_true rfl) hv_X7_messageAt_11 rfl h_2 rfl dX7_messageAt_1 ?_
  refine z_iload_n B dX7_messageAt_4 rfl 1 rfl ?_
  refine z_if_lt (tgt := 21) B dX7_messageAt_5 rfl (fun c_1 => ?_) (fun c_1 => ?_)
  · have e_1 : i < 0 := (nI_ltI (a := i) (b := 0) (by omega) (by omega)).mp c_1
    refine z_iconst (v := 0) B dX7_messageAt_21 rfl ?_
    obtain ⟨f_1, h_3, r_1⟩ := in12 (k := 47) hI rfl
    have h_4 : Φ (x + 47) = some (aq_ G 6 13 f_1) := h_3
    refine z_aald (b := x + (48 + 2 * qp 0)) B rfl h_4 (vin rfl) ((QbR.row hcf0 h_4 (show 0 < 13 by omega))) dX7_messageAt_22 ?_
    exact z_ret_a B dX7_messageAt_23 ⟨((show False by omega).elim), rfl, hI, (fun b9 h9 => rfl)⟩
  · have e_2 : ¬ (i < 0) := fun h9 => c_1 ((nI_ltI (a := i) (b := 0) (by omega) (by omega)).mpr h9)
    refine z_iload_n B dX7_messageAt_8 rfl 1 rfl ?_
    refine z_aload_n B dX7_messageAt_9 rfl 0 rfl ?_
    refine z_get (ref := "FlowExporter$Queue") (C := RX7) (T := TX7) (N := 3) (ci := 9) (v := .ref (x + 47)) B hu_X7_messageAt_X7 rfl 0 (Nat.le_of_ble_eq_true rfl) hv_X7_messageAt_11 rfl h_2 rfl dX7_messageAt_10 ?_
    obtain ⟨f_2, h_5, r_2⟩ := in12 (k := 47) hI rfl
    have h_6 : Φ (x + 47) = some (aq_ G 6 13 f_2) := h_5
    refine z_alen (t := 6) (v := 13) B rfl h_6 rfl dX7_messageAt_13 ?_
    refine z_icmp_ge (tgt := 21) B dX7_messageAt_14 rfl (fun c_2 => ?_) (fun c_2 => ?_)
    · have e_3 : 13 ≤ i := (nI_leI (a := 13) (b := i) (by omega) (by omega)).mp c_2
      refine z_iconst (v := 0) B dX7_messageAt_21 rfl ?_
      refine z_aald (b := x + (48 + 2 * qp 0)) B rfl h_6 (vin rfl) ((QbR.row hcf0 h_6 (show 0 < 13 by omega))) dX7_messageAt_22 ?_
      exact z_ret_a B dX7_messageAt_23 ⟨((show False by omega).elim), rfl, hI, (fun b9 h9 => rfl)⟩
    · have e_4 : ¬ (13 ≤ i) := fun h9 => c_2 ((nI_leI (a := 13) (b := i) (by omega) (by omega)).mpr h9)
      refine z_iload_n B dX7_messageAt_17 rfl 1 rfl ?_
      refine z_goto (tgt := 22) B dX7_messageAt_18 rfl ?_
      refine z_aald (b := x + (48 + 2 * qp i)) B rfl h_6 (vp_in_nI (by omega) (by omega)) ((congrArg f_2 (nI_clamp (by omega))).trans (QbR.row hcf0 h_6 (show i < 13 by omega))) dX7_messageAt_22 ?_
      exact z_ret_a B dX7_messageAt_23 ⟨rfl, rfl, hI, (fun b9 h9 => rfl)⟩

set_option maxHeartbeats 4000000 in
set_option maxRecDepth 100000 in
theorem s_X7_freeMessageX (G : EnvG) (l : Launch) (Φ : Hm) (sz x ca : Nat) (qn : Nat) (qL : Nat → Nat) (qd : Int32) (qp : Nat → Nat) (hx : G.2.2.2 ≤ x) (hI : In G x ca Φ) (hcf0 : QbR G x qn qL qd qp Φ) : Ct G l yX7_freeMessage wsX7_freeMessage ({ frames := 1, cells := 0, slots := 0, locals := 21 }) 0 0 [.ref (x + 46)] Φ sz (fun v Φ1 sz1 => (v = some (.ref (x + (48 + 2 * qp qn))) ∧ Φ1 (x + (48 + 2 * qp qn)) = some (o_ 7 [.ref (x + (48 + 2 * qp qn + 1)), .int (nI 0)]) ∧ QbR G x qn qL qd qp Φ1) ∧ sz1 = sz ∧ In G x (ca) Φ1 ∧ Fr x (fun j9 => j9 = 48 + 2 * qp qn) Φ Φ1) := by
  refine Ct.of (cc := cX7_freeMessage) (maxL := 2) (ret := (some (.object "FlowExporter$Message"))) (by decide) rfl (Nat.le_of_ble_eq_true rfl) ?_
  intro p9 e9 s9 m9 w9 t9 k9 B
  show Z p9 l e9 _ s9 m9 _ w9 t9 k9 _ G 2 0 [(0, .ref (x + 46))] [] Φ sz 0 0
  refine z_aload_n B dX7_freeMessage_0 rfl 0 rfl ?_
  refine z_aload_n B dX7_freeMessage_1 rfl 0 rfl ?_
  have h_1 : Φ (x + 46) = some (o_ 9 [.ref (x + 47), .int (nI qn), .int qd]) := hcf0.1
  have b_1 : qn ≤ 12 := QbR.le hcf0
  refine z_get (ref := "FlowExporter$Queue") (C := RX7) (T := TX7) (N := 3) (ci := 9) (v := .int (nI qn)) B hu_X7_freeMessage_X7 rfl 1 (Nat.le_of_ble_eq_true rfl) hv_X7_freeMessage_17 rfl h_1 rfl dX7_freeMessage_2 ?_
  refine z_callV (As := [.int (nI qn)]) (rest := []) B (s_X7_messageAtX G l Φ sz x (ca) qn qL qd qp qn hx hI hcf0 (show qn < 13 by omega)) (cwV 1 B.1.2.2.2.2 gX7_freeMessage_X7_messageAt rfl rfl rfl (by decide +kernel) ⟨Nat.le_of_ble_eq_true rfl, Nat.le_of_ble_eq_true rfl⟩) h_1 rfl rfl rfl rfl (Nat.le_of_ble_eq_true rfl) dX7_freeMessage_5 ⟨Nat.le_of_ble_eq_true rfl, Nat.le_of_ble_eq_true rfl⟩ (fun r_1 Φ1 sz1 st1 hp1 hs1 => ?_)
  obtain ⟨rfl, hq1, hI1, hF1⟩ := hp1
  subst sz1
  replace hs1 : st1 = [.ref (x + (48 + 2 * qp qn))] := hs1
  subst st1
  replace hI1 : In G x (ca) Φ1 := hI1
  refine z_astore_n (lv' := [(1, .ref (x + (48 + 2 * qp qn))), (0, .ref (x + 46))]) B dX7_freeMessage_8 rfl (Nat.le_of_ble_eq_true rfl) rfl ?_
  refine z_aload_n B dX7_freeMessage_9 rfl 0 rfl ?_
  refine z_iconst (v := 0) B dX7_freeMessage_10 rfl ?_
  obtain ⟨n_1, h_2, b_2⟩ := in1 (k := 48 + 2 * qp qn) hI1 (kd_q (QbR.lt hcf0 (show qn < 13 by omega)))
  replace b_2 : n_1 ≤ cap (48 + 2 * qp qn) := b_2
  have b_3 := cap_le (48 + 2 * qp qn)
  have h_3 : Φ1 (x + (48 + 2 * qp qn)) = some (o_ 7 [.ref (x + (48 + 2 * qp qn + 1)), .int (nI n_1)]) := h_2
  refine z_put (ref := "FlowExporter$Message") (C := RX5) (T := TX5) (N := 2) (ci := 7) (v := .int 0) B hu_X7_freeMessage_X5 tyX5 tyX5_ok nmX5 rfl 1 (Nat.le_of_ble_eq_true rfl) hv_X7_freeMessage_31 rfl (Or.inl rfl) h_3 (by omega) rfl rfl (Nat.le_of_ble_eq_true rfl) dX7_freeMessage_11 (fun Φ2 hΦ1 => ?_)
  have h_4 : Φ2 (x + (48 + 2 * qp qn)) = some (o_ 7 [.ref (x + (48 + 2 * qp qn + 1)), .int 0]) := fset_at hΦ1
  have hI2 : In G x (ca) Φ2 := In.put (k := 48 + 2 * qp qn) hI1 hΦ1 (ok1 (k := 48 + 2 * qp qn) (kd_q (QbR.lt hcf0 (show qn < 13 by omega))) ⟨0, rfl, (show 0 ≤ cap (48 + 2 * qp qn) by omega)⟩)
  refine z_aload_n B dX7_freeMessage_14 rfl 0 rfl ?_
  have hcg1 : QbR G x qn qL qd qp Φ2 := (QbR.offw (k := 48 + 2 * qp qn) (QbR.frw hcf0 hF1 (fun j9 h7 => (show False from h7).elim)) hΦ1 (by omega))
  exact z_ret_a B dX7_freeMessage_15 ⟨⟨rfl, (h_4.trans (congrArg (fun w9 : Nat => some (o_ 7 [.ref (x + (48 + 2 * qp qn + 1)), .int (nI w9)])) (show 0 = 0 by omega))), hcg1⟩, rfl, hI2, (fun b9 h9 => ((fset_fr hΦ1 (fun h8 => h9 (48 + 2 * qp qn) h8 (show (48 + 2 * qp qn) = 48 + 2 * qp qn by omega))).trans ((hF1 b9 (fun j9 h8 h7 => (show False from h7).elim)).trans rfl)))⟩

set_option maxHeartbeats 4000000 in
set_option maxRecDepth 100000 in
theorem s_X7_addFreeMessageX (G : EnvG) (l : Launch) (Φ : Hm) (sz x ca : Nat) (qn : Nat) (qL : Nat → Nat) (qd : Int32) (qp : Nat → Nat) (ml : Nat) (hx : G.2.2.2 ≤ x) (hI : In G x ca Φ) (hcf0 : QbR G x qn qL qd qp Φ) (hl : ml ≤ 600) (hm0 : Φ (x + (48 + 2 * qp qn)) = some (o_ 7 [.ref (x + (48 + 2 * qp qn + 1)), .int (nI ml)])) : Ct G l yX7_addFreeMessage wsX7_addFreeMessage ({ frames := 0, cells := 0, slots := 0, locals := 0 }) 0 0 [.ref (x + 46)] Φ sz (fun v Φ1 sz1 => (∃ (n8 : Nat) (L8 : Nat → Nat) (d8 : Int32), v = none ∧ QbR G x n8 L8 d8 qp Φ1 ∧ (enQ ml (qn, qL, qd) = (n8, L8, d8))) ∧ sz1 = sz ∧ In G x (ca) Φ1 ∧ Fr x (fun j9 => j9 = 46) Φ Φ1) := by
  refine Ct.of (cc := cX7_addFreeMessage) (maxL := 1) (ret := none) (by decide) rfl (Nat.le_of_ble_eq_true rfl) ?_
  intro p9 e9 s9 m9 w9 t9 k9 B
  show Z p9 l e9 _ s9 m9 _ w9 t9 k9 _ G 1 0 [(0, .ref (x + 46))] [] Φ sz 0 0
  refine z_aload_n B dX7_addFreeMessage_0 rfl 0 rfl ?_
  have h_1 : Φ (x + 46) = some (o_ 9 [.ref (x + 47), .int (nI qn), .int qd]) := hcf0.1
  have b_1 : qn ≤ 12 := QbR.le hcf0
  refine z_get (ref := "FlowExporter$Queue") (C := RX7) (T := TX7) (N := 3) (ci := 9) (v := .int (nI qn)) B hu_X7_addFreeMessage_X7 rfl 1 (Nat.le_of_ble_eq_true rfl) hv_X7_addFreeMessage_17 rfl h_1 rfl dX7_addFreeMessage_1 ?_
  refine z_bipush (v := 12) B dX7_addFreeMessage_4 rfl ?_
  refine z_icmp_ge (tgt := 22) B dX7_addFreeMessage_6 rfl (fun c_1 => ?_) (fun c_1 => ?_)
  · have e_1 : 12 ≤ qn := (nI_leI (a := 12) (b := qn) (by omega) (by omega)).mp c_1
    refine z_aload_n B dX7_addFreeMessage_22 rfl 0 rfl ?_
    refine z_dup B dX7_addFreeMessage_23 rfl ?_
    refine z_get (ref := "FlowExporter$Queue") (C := RX7) (T := TX7) (N := 3) (ci := 9) (v := .int qd) B hu_X7_addFreeMessage_X7 rfl 2 (Nat.le_of_ble_eq_true rfl) hv_X7_addFreeMessage_21 rfl h_1 rfl dX7_addFreeMessage_24 ?_
    refine z_iconst (v := 1) B dX7_addFreeMessage_27 rfl ?_
    refine z_iadd B dX7_addFreeMessage_28 ?_
    refine z_put (ref := "FlowExporter$Queue") (C := RX7) (T := TX7) (N := 3) (ci := 9) (v := .int (qd + 1)) B hu_X7_addFreeMessage_X7 tyX7 tyX7_ok nmX7 rfl 2 (Nat.le_of_ble_eq_true rfl) hv_X7_addFreeMessage_21 rfl (Or.inl rfl) h_1 (Nat.le_trans hx (Nat.le_add_right x 46)) rfl rfl (Nat.le_of_ble_eq_true rfl) dX7_addFreeMessage_29 (fun Φ1 hΦ1 => ?_)
    have h_2 : Φ1 (x + 46) = some (o_ 9 [.ref (x + 47), .int (nI qn), .int (qd + 1)]) := fset_at hΦ1
    have hI1 : In G x (ca) Φ1 := In.put (k := 46) hI hΦ1 (ok11 (k := 46) rfl ⟨qn, qd + 1, rfl, (show qn ≤ 12 by omega)⟩)
    exact z_ret_v B dX7_addFreeMessage_32 ⟨⟨qn, qL, qd + 1, rfl, (QbR.drop hcf0 hΦ1), enQ_n (by omega)⟩, rfl, hI1, (fun b9 h9 => ((fset_fr hΦ1 (fun h8 => h9 (46) h8 (show 46 = 46 by decide))).trans rfl))⟩
  · have e_2 : ¬ (12 ≤ qn) := fun h9 => c_1 ((nI_leI (a := 12) (b := qn) (by omega) (by omega)).mpr h9)
    refine z_aload_n B dX7_addFreeMessage_9 rfl 0 rfl ?_
    refine z_dup B dX7_addFreeMessage_10 rfl ?_
    refine z_get (ref := "FlowExporter$Queue") (C := RX7) (T := TX7) (N := 3) (ci := 9) (v := .int (nI qn)) B hu_X7_addFreeMessage_X7 rfl 1 (Nat.le_of_ble_eq_true rfl) hv_X7_addFreeMessage_17 rfl h_1 rfl dX7_addFreeMessage_11 ?_
    refine z_iconst (v := 1) B dX7_addFreeMessage_14 rfl ?_
    refine z_iadd B dX7_addFreeMessage_15 ?_
    refine z_top (st1 := [.int (nI (qn + 1)), .ref (x + 46)]) (congrArg (fun w9 : Int32 => ([.int w9, .ref (x + 46)] : List Value)) (nI_add qn 1)) ?_
    refine z_put (ref := "FlowExporter$Queue") (C := RX7) (T := TX7) (N := 3) (ci := 9) (v := .int (nI (qn + 1))) B hu_X7_addFreeMessage_X7 tyX7 tyX7_ok nmX7 rfl 1 (Nat.le_of_ble_eq_true rfl) hv_X7_addFreeMessage_17 rfl (Or.inl rfl) h_1 (Nat.le_trans hx (Nat.le_add_right x 46)) rfl rfl (Nat.le_of_ble_eq_true rfl) dX7_addFreeMessage_16 (fun Φ2 hΦ2 => ?_)
    have h_3 : Φ2 (x + 46) = some (o_ 9 [.ref (x + 47), .int (nI (qn + 1)), .int qd]) := fset_at hΦ2
    have hI2 : In G x (ca) Φ2 := In.put (k := 46) hI hΦ2 (ok11 (k := 46) rfl ⟨qn + 1, qd, rfl, (show qn + 1 ≤ 12 by omega)⟩)
    refine z_goto (tgt := 32) B dX7_addFreeMessage_19 rfl ?_
    exact z_ret_v B dX7_addFreeMessage_32 ⟨⟨qn + 1, _, qd, rfl, (QbR.add hcf0 (by omega) hl hm0 hΦ2), enQ_y (by omega)⟩, rfl, hI2, (fun b9 h9 => ((fset_fr hΦ2 (fun h8 => h9 (46) h8 (show 46 = 46 by decide))).trans rfl))⟩

theorem cap_q {k : Nat} (h1 : 48 ≤ k) (h2 : k < 74) : cap k = 600 := by
  unfold cap
  rw [if_neg (by omega), if_neg (by omega)]

set_option maxHeartbeats 4000000 in
set_option maxRecDepth 100000 in
theorem s_X8_beginMessageX (G : EnvG) (l : Launch) (Φ : Hm) (sz x ca : Nat) (pn : Nat) (ms : Int32) (rs : Int64) (sq : Int32) (fa : Nat → Int32) (fb : Nat → Int32) (t : Nat) (s : Nat) (c : Cf) (qn : Nat) (qL : Nat → Nat) (qd : Int32) (qp : Nat → Nat) (b : Int32) (hx : G.2.2.2 ≤ x) (hI : In G x ca Φ) (hc0 : Φ (x + 74) = some (o_ 10 [.ref (x + 3), .ref (x + 46), .ref (x + 75), .ref (x + 77), .int (nI pn), .ref (x + 78), .ref (x + 79), .int ms, .long rs, .int sq])) (hc1 : Φ (x + 78) = some (ai_ G 4 fa)) (hc2 : Φ (x + 79) = some (ai_ G 4 fb)) (hcf0 : CfA G x t s c Φ) (hcf1 : QbR G x qn qL qd qp Φ) (hg : CfG c) (hpn : pn ≤ 12) : Ct G l yX8_beginMessage wsX8_beginMessage ({ frames := 3, cells := 0, slots := 0, locals := 73 }) 0 0 [.ref (x + 74), .int b] Φ sz (fun v Φ1 sz1 => (∃ (L8 : Nat) (a8 b8 : Nat → Int32), v = some (.ref (x + (48 + 2 * qp qn))) ∧ Φ1 (x + (48 + 2 * qp qn)) = some (o_ 7 [.ref (x + (48 + 2 * qp qn + 1)), .int (nI L8)]) ∧ Φ1 (x + 78) = some (ai_ G 4 a8) ∧ Φ1 (x + 79) = some (ai_ G 4 b8) ∧ Φ1 (x + 74) = some (o_ 10 [.ref (x + 3), .ref (x + 46), .ref (x + 75), .ref (x + 77), .int (nI pn), .ref (x + 78), .ref (x + 79), .int ms, .long rs, .int sq]) ∧ QbR G x qn qL qd qp Φ1 ∧ bgS c b (fa, fb, ms, rs, sq) = (L8, a8, b8, ms, rs, sq) ∧ 16 ≤ L8 ∧ L8 ≤ 180) ∧ sz1 = sz ∧ In G x (ca) Φ1 ∧ Fr x (fun j9 => (j9 = 48 + 2 * qp qn ∨ j9 = 48 + 2 * qp qn + 1) ∨ (j9 = 78 ∨ j9 = 79)) Φ Φ1) := by
  refine Ct.of (cc := cX8_beginMessage) (maxL := 3) (ret := (some (.object "FlowExporter$Message"))) (by decide) rfl (Nat.le_of_ble_eq_true rfl) ?_
  intro p9 e9 s9 m9 w9 t9 k9 B
  show Z p9 l e9 _ s9 m9 _ w9 t9 k9 _ G 3 0 [(0, .ref (x + 74)), (1, .int b)] [] Φ sz 0 0
  have h_1 : Φ (x + 46) = some (o_ 9 [.ref (x + 47), .int (nI qn), .int qd]) := hcf1.1
  have b_1 : qn ≤ 12 := QbR.le hcf1
  have hlt9 := QbR.lt hcf1 (show qn < 13 by omega)
  have hcp9 : cap (48 + 2 * qp qn) = 600 := cap_q (by omega) (by omega)
  refine z_aload_n B dX8_beginMessage_0 rfl 0 rfl ?_
  refine z_get (ref := "FlowExporter$Sender") (C := RX8) (T := TX8) (N := 10) (ci := 10) (v := .ref (x + 46)) B hu_X8_beginMessage_X8 rfl 1 (Nat.le_of_ble_eq_true rfl) hv_X8_beginMessage_48 rfl hc0 rfl dX8_beginMessage_1 ?_
  refine z_callV (As := []) (rest := []) B (s_X7_freeMessageX G l Φ sz x (ca) qn qL qd qp hx hI hcf1) (cwV 0 B.1.2.2.2.2 gX8_beginMessage_X7_freeMessage rfl rfl rfl (by decide +kernel) ⟨Nat.le_of_ble_eq_true rfl, Nat.le_of_ble_eq_true rfl⟩) h_1 rfl rfl rfl rfl (Nat.le_of_ble_eq_true rfl) dX8_beginMessage_4 ⟨Nat.le_of_ble_eq_true rfl, Nat.le_of_ble_eq_true rfl⟩ (fun r_1 Φ1 sz1 st1 hp1 hs1 => ?_)
  obtain ⟨⟨rfl, h_2, hcg1⟩, hq1, hI1, hF1⟩ := hp1
  subst sz1
  replace hs1 : st1 = [.ref (x + (48 + 2 * qp qn))] := hs1
  subst st1
  replace hI1 : In G x (ca) Φ1 := hI1
  refine z_astore_n (lv' := [(2, .ref (x + (48 + 2 * qp qn))), (0, .ref (x + 74)), (1, .int b)]) B dX8_beginMessage_7 rfl (Nat.le_of_ble_eq_true rfl) rfl ?_
  refine z_aload_n B dX8_beginMessage_8 rfl 0 rfl ?_
  refine z_ldc2 (v := 10) B (by decide +kernel) dX8_beginMessage_9 ?_
  refine z_iconst (v := 2) B dX8_beginMessage_12 rfl ?_
  refine z_callV (As := [.long 10, .int 2]) (rest := []) B (s_X5_putL G l Φ1 sz x (ca) 0 (48 + 2 * qp qn) 10 2 hx hI1 (kd_q (QbR.lt hcf1 (show qn < 13 by omega))) h_2 (show 2 ≤ 8 by omega) (show 0 + 2 ≤ cap (48 + 2 * qp qn) by omega)) (cwV 2 B.1.2.2.2.2 gX8_beginMessage_X5_put rfl rfl rfl (by decide +kernel) ⟨Nat.le_of_ble_eq_true rfl, Nat.le_of_ble_eq_true rfl⟩) h_2 rfl rfl rfl rfl (Nat.le_of_ble_eq_true rfl) dX8_beginMessage_13 ⟨Nat.le_of_ble_eq_true rfl, Nat.le_of_ble_eq_true rfl⟩ (fun r_2 Φ2 sz2 st2 hp2 hs2 => ?_)
  obtain ⟨⟨rfl, h_3⟩, hq2, hI2, hF2⟩ := hp2
  subst sz2
  replace hs2 : st2 = [] := hs2
  subst st2
  replace hI2 : In G x (ca) Φ2 := hI2
  refine z_aload_n B dX8_beginMessage_16 rfl 0 rfl ?_
  refine z_lconst (v := 0) B dX8_beginMessage_17 rfl ?_
  refine z_iconst (v := 2) B dX8_beginMessage_18 rfl ?_
  refine z_callV (As := [.long 0, .int 2]) (rest := []) B (s_X5_putL G l Φ2 sz x (ca) (0 + 2) (48 + 2 * qp qn) 0 2 hx hI2 (kd_q (QbR.lt hcf1 (show qn < 13 by omega))) h_3 (show 2 ≤ 8 by omega) (show (0 + 2) + 2 ≤ cap (48 + 2 * qp qn) by omega)) (cwV 2 B.1.2.2.2.2 gX8_beginMessage_X5_put rfl rfl rfl (by decide +kernel) ⟨Nat.le_of_ble_eq_true rfl, Nat.le_of_ble_eq_true rfl⟩) h_3 rfl rfl rfl rfl (Nat.le_of_ble_eq_true rfl) dX8_beginMessage_19 ⟨Nat.le_of_ble_eq_true rfl, Nat.le_of_ble_eq_true rfl⟩ (fun r_3 Φ3 sz3 st3 hp3 hs3 => ?_)
  obtain ⟨⟨rfl, h_4⟩, hq3, hI3, hF3⟩ := hp3
  subst sz3
  replace hs3 : st3 = [] := hs3
  subst st3
  replace hI3 : In G x (ca) Φ3 := hI3
  refine z_aload_n B dX8_beginMessage_22 rfl 0 rfl ?_
  refine z_iload_n B dX8_beginMessage_23 rfl 2 rfl ?_
  refine z_i2l (v := b.toInt64) B dX8_beginMessage_24 rfl ?_
  refine z_fl (fun v_1 => ?_)
  refine z_iconst (v := 4) B dX8_beginMessage_25 rfl ?_
  refine z_callV (As := [.long v_1, .int 4]) (rest := []) B (s_X5_putL G l Φ3 sz x (ca) ((0 + 2) + 2) (48 + 2 * qp qn) v_1 4 hx hI3 (kd_q (QbR.lt hcf1 (show qn < 13 by omega))) h_4 (show 4 ≤ 8 by omega) (show ((0 + 2) + 2) + 4 ≤ cap (48 + 2 * qp qn) by omega)) (cwV 2 B.1.2.2.2.2 gX8_beginMessage_X5_put rfl rfl rfl (by decide +kernel) ⟨Nat.le_of_ble_eq_true rfl, Nat.le_of_ble_eq_true rfl⟩) h_4 rfl rfl rfl rfl (Nat.le_of_ble_eq_true rfl) dX8_beginMessage_26 ⟨Nat.le_of_ble_eq_true rfl, Nat.le_of_ble_eq_true rfl⟩ (fun r_4 Φ4 sz4 st4 hp4 hs4 => ?_)
  obtain ⟨⟨rfl, h_5⟩, hq4, hI4, hF4⟩ := hp4
  subst sz4
  replace hs4 : st4 = [] := hs4
  subst st4
  replace hI4 : In G x (ca) Φ4 := hI4
  refine z_aload_n B dX8_beginMessage_29 rfl 0 rfl ?_
  refine z_aload_n B dX8_beginMessage_30 rfl 1 rfl ?_
  have h_6 : Φ4 (x + 74) = some (o_ 10 [.ref (x + 3), .ref (x + 46), .ref (x + 75), .ref (x + 77), .int (nI pn), .ref (x + 78), .ref (x + 79), .int ms, .long rs, .int sq]) := ((hF4 (x + 74) (fun j9 h8 h7 => by have h6 : j9 = (48 + 2 * qp qn) ∨ j9 = (48 + 2 * qp qn) + 1 := h7; omega)).trans ((hF3 (x + 74) (fun j9 h8 h7 => by have h6 : j9 = (48 + 2 * qp qn) ∨ j9 = (48 + 2 * qp qn) + 1 := h7; omega)).trans ((hF2 (x + 74) (fun j9 h8 h7 => by have h6 : j9 = (48 + 2 * qp qn) ∨ j9 = (48 + 2 * qp qn) + 1 := h7; omega)).trans ((hF1 (x + 74) (fun j9 h8 h7 => by have h6 : j9 = 48 + 2 * qp qn := h7; omega)).trans hc0))))
  refine z_get (ref := "FlowExporter$Sender") (C := RX8) (T := TX8) (N := 10) (ci := 10) (v := .int sq) B hu_X8_beginMessage_X8 rfl 9 (Nat.le_of_ble_eq_true rfl) hv_X8_beginMessage_41 rfl h_6 rfl dX8_beginMessage_31 ?_
  refine z_i2l (v := sq.toInt64) B dX8_beginMessage_34 rfl ?_
  refine z_fl (fun v_2 => ?_)
  refine z_iconst (v := 4) B dX8_beginMessage_35 rfl ?_
  refine z_callV (As := [.long v_2, .int 4]) (rest := []) B (s_X5_putL G l Φ4 sz x (ca) (((0 + 2) + 2) + 4) (48 + 2 * qp qn) v_2 4 hx hI4 (kd_q (QbR.lt hcf1 (show qn < 13 by omega))) h_5 (show 4 ≤ 8 by omega) (show (((0 + 2) + 2) + 4) + 4 ≤ cap (48 + 2 * qp qn) by omega)) (cwV 2 B.1.2.2.2.2 gX8_beginMessage_X5_put rfl rfl rfl (by decide +kernel) ⟨Nat.le_of_ble_eq_true rfl, Nat.le_of_ble_eq_true rfl⟩) h_5 rfl rfl rfl rfl (Nat.le_of_ble_eq_true rfl) dX8_beginMessage_36 ⟨Nat.le_of_ble_eq_true rfl, Nat.le_of_ble_eq_true rfl⟩ (fun r_5 Φ5 sz5 st5 hp5 hs5 => ?_)
  obtain ⟨⟨rfl, h_7⟩, hq5, hI5, hF5⟩ := hp5
  subst sz5
  replace hs5 : st5 = [] := hs5
  subst st5
  replace hI5 : In G x (ca) Φ5 := hI5
  refine z_aload_n B dX8_beginMessage_39 rfl 0 rfl ?_
  refine z_lconst (v := 0) B dX8_beginMessage_40 rfl ?_
  refine z_iconst (v := 4) B dX8_beginMessage_41 rfl ?_
  refine z_callV (As := [.long 0, .int 4]) (rest := []) B (s_X5_putL G l Φ5 sz x (ca) ((((0 + 2) + 2) + 4) + 4) (48 + 2 * qp qn) 0 4 hx hI5 (kd_q (QbR.lt hcf1 (show qn < 13 by omega))) h_7 (show 4 ≤ 8 by omega) (show ((((0 + 2) + 2) + 4) + 4) + 4 ≤ cap (48 + 2 * qp qn) by omega)) (cwV 2 B.1.2.2.2.2 gX8_beginMessage_X5_put rfl rfl rfl (by decide +kernel) ⟨Nat.le_of_ble_eq_true rfl, Nat.le_of_ble_eq_true rfl⟩) h_7 rfl rfl rfl rfl (Nat.le_of_ble_eq_true rfl) dX8_beginMessage_42 ⟨Nat.le_of_ble_eq_true rfl, Nat.le_of_ble_eq_true rfl⟩ (fun r_6 Φ6 sz6 st6 hp6 hs6 => ?_)
  obtain ⟨⟨rfl, h_8⟩, hq6, hI6, hF6⟩ := hp6
  subst sz6
  replace hs6 : st6 = [] := hs6
  subst st6
  replace hI6 : In G x (ca) Φ6 := hI6
  refine z_aload_n B dX8_beginMessage_45 rfl 1 rfl ?_
  refine z_aload_n B dX8_beginMessage_46 rfl 0 rfl ?_
  refine z_iload_n B dX8_beginMessage_47 rfl 2 rfl ?_
  have h_9 : Φ6 (x + (48 + 2 * qp qn)) = some (o_ 7 [.ref (x + (48 + 2 * qp qn + 1)), .int (nI 16)]) := (h_8.trans (congrArg (fun w9 : Nat => some (o_ 7 [.ref (x + (48 + 2 * qp qn + 1)), .int (nI w9)])) (show ((((0 + 2) + 2) + 4) + 4) + 4 = 16 by omega)))
  have h_10 : Φ6 (x + 74) = some (o_ 10 [.ref (x + 3), .ref (x + 46), .ref (x + 75), .ref (x + 77), .int (nI pn), .ref (x + 78), .ref (x + 79), .int ms, .long rs, .int sq]) := ((hF6 (x + 74) (fun j9 h8 h7 => by have h6 : j9 = (48 + 2 * qp qn) ∨ j9 = (48 + 2 * qp qn) + 1 := h7; omega)).trans ((hF5 (x + 74) (fun j9 h8 h7 => by have h6 : j9 = (48 + 2 * qp qn) ∨ j9 = (48 + 2 * qp qn) + 1 := h7; omega)).trans h_6))
  have h_11 : Φ6 (x + 78) = some (ai_ G 4 fa) := ((hF6 (x + 78) (fun j9 h8 h7 => by have h6 : j9 = (48 + 2 * qp qn) ∨ j9 = (48 + 2 * qp qn) + 1 := h7; omega)).trans ((hF5 (x + 78) (fun j9 h8 h7 => by have h6 : j9 = (48 + 2 * qp qn) ∨ j9 = (48 + 2 * qp qn) + 1 := h7; omega)).trans ((hF4 (x + 78) (fun j9 h8 h7 => by have h6 : j9 = (48 + 2 * qp qn) ∨ j9 = (48 + 2 * qp qn) + 1 := h7; omega)).trans ((hF3 (x + 78) (fun j9 h8 h7 => by have h6 : j9 = (48 + 2 * qp qn) ∨ j9 = (48 + 2 * qp qn) + 1 := h7; omega)).trans ((hF2 (x + 78) (fun j9 h8 h7 => by have h6 : j9 = (48 + 2 * qp qn) ∨ j9 = (48 + 2 * qp qn) + 1 := h7; omega)).trans ((hF1 (x + 78) (fun j9 h8 h7 => by have h6 : j9 = 48 + 2 * qp qn := h7; omega)).trans hc1))))))
  have h_12 : Φ6 (x + 79) = some (ai_ G 4 fb) := ((hF6 (x + 79) (fun j9 h8 h7 => by have h6 : j9 = (48 + 2 * qp qn) ∨ j9 = (48 + 2 * qp qn) + 1 := h7; omega)).trans ((hF5 (x + 79) (fun j9 h8 h7 => by have h6 : j9 = (48 + 2 * qp qn) ∨ j9 = (48 + 2 * qp qn) + 1 := h7; omega)).trans ((hF4 (x + 79) (fun j9 h8 h7 => by have h6 : j9 = (48 + 2 * qp qn) ∨ j9 = (48 + 2 * qp qn) + 1 := h7; omega)).trans ((hF3 (x + 79) (fun j9 h8 h7 => by have h6 : j9 = (48 + 2 * qp qn) ∨ j9 = (48 + 2 * qp qn) + 1 := h7; omega)).trans ((hF2 (x + 79) (fun j9 h8 h7 => by have h6 : j9 = (48 + 2 * qp qn) ∨ j9 = (48 + 2 * qp qn) + 1 := h7; omega)).trans ((hF1 (x + 79) (fun j9 h8 h7 => by have h6 : j9 = 48 + 2 * qp qn := h7; omega)).trans hc2))))))
  have hcg2 : CfA G x t s c Φ6 := (CfA.fr (CfA.fr (CfA.fr (CfA.fr (CfA.fr (CfA.fr hcf0 hF1 (fun j9 h7 => by have h6 : j9 = 48 + 2 * qp qn := h7; intros; omega)) hF2 (fun j9 h7 => by have h6 : j9 = (48 + 2 * qp qn) ∨ j9 = (48 + 2 * qp qn) + 1 := h7; intros; omega)) hF3 (fun j9 h7 => by have h6 : j9 = (48 + 2 * qp qn) ∨ j9 = (48 + 2 * qp qn) + 1 := h7; intros; omega)) hF4 (fun j9 h7 => by have h6 : j9 = (48 + 2 * qp qn) ∨ j9 = (48 + 2 * qp qn) + 1 := h7; intros; omega)) hF5 (fun j9 h7 => by have h6 : j9 = (48 + 2 * qp qn) ∨ j9 = (48 + 2 * qp qn) + 1 := h7; intros; omega)) hF6 (fun j9 h7 => by have h6 : j9 = (48 + 2 * qp qn) ∨ j9 = (48 + 2 * qp qn) + 1 := h7; intros; omega))
  refine z_callV (As := [.ref (x + (48 + 2 * qp qn)), .int b]) (rest := []) B (s_X8_putTemplateSetX G l Φ6 sz x (ca) pn ms rs sq fa fb t s c (48 + 2 * qp qn) b hx hI6 (kd_q (QbR.lt hcf1 (show qn < 13 by omega))) h_10 h_9 h_11 h_12 hcg2 (show 48 ≤ (48 + 2 * qp qn) by omega) (show (48 + 2 * qp qn) < 73 by omega) (show cap (48 + 2 * qp qn) = 600 by omega) hg (show pn ≤ 12 by omega)) (cwV 2 B.1.2.2.2.2 gX8_beginMessage_X8_putTemplateSet rfl rfl rfl (by decide +kernel) ⟨Nat.le_of_ble_eq_true rfl, Nat.le_of_ble_eq_true rfl⟩) h_10 rfl rfl rfl rfl (Nat.le_of_ble_eq_true rfl) dX8_beginMessage_48 ⟨Nat.le_of_ble_eq_true rfl, Nat.le_of_ble_eq_true rfl⟩ (fun r_7 Φ7 sz7 st7 hp7 hs7 => ?_)
  obtain ⟨⟨n_1, f_1, f_2, rfl, h_13, h_14, h_15, h_16, e_1, e_2, e_3⟩, hq7, hI7, hF7⟩ := hp7
  subst sz7
  replace hs7 : st7 = [] := hs7
  subst st7
  replace hI7 : In G x (ca) Φ7 := hI7
  replace e_1 : ptI c b (fa, fb, ms, rs, sq) 4 = (n_1, f_1, f_2, ms, rs, sq) := e_1
  replace e_2 : 16 ≤ n_1 := e_2
  replace e_3 : n_1 ≤ 180 := e_3
  refine z_aload_n B dX8_beginMessage_51 rfl 0 rfl ?_
  have hcg3 : QbR G x qn qL qd qp Φ7 := (QbR.frw (QbR.frw (QbR.frw (QbR.frw (QbR.frw (QbR.frw hcg1 hF2 (fun j9 h7 => by have h6 : j9 = (48 + 2 * qp qn) ∨ j9 = (48 + 2 * qp qn) + 1 := h7; omega)) hF3 (fun j9 h7 => by have h6 : j9 = (48 + 2 * qp qn) ∨ j9 = (48 + 2 * qp qn) + 1 := h7; omega)) hF4 (fun j9 h7 => by have h6 : j9 = (48 + 2 * qp qn) ∨ j9 = (48 + 2 * qp qn) + 1 := h7; omega)) hF5 (fun j9 h7 => by have h6 : j9 = (48 + 2 * qp qn) ∨ j9 = (48 + 2 * qp qn) + 1 := h7; omega)) hF6 (fun j9 h7 => by have h6 : j9 = (48 + 2 * qp qn) ∨ j9 = (48 + 2 * qp qn) + 1 := h7; omega)) hF7 (fun j9 h7 => by have h6 : (j9 = (48 + 2 * qp qn) ∨ j9 = (48 + 2 * qp qn) + 1) ∨ (j9 = 78 ∨ j9 = 79) := h7; omega))
  exact z_ret_a B dX8_beginMessage_52 ⟨⟨n_1, f_1, f_2, rfl, h_13, h_14, h_15, h_16, hcg3, e_1, by omega, by omega⟩, rfl, hI7, (fun b9 h9 => ((hF7 b9 (fun j9 h8 h7 => h9 j9 h8 (show (j9 = 48 + 2 * qp qn ∨ j9 = 48 + 2 * qp qn + 1) ∨ (j9 = 78 ∨ j9 = 79) by have h6 : (j9 = (48 + 2 * qp qn) ∨ j9 = (48 + 2 * qp qn) + 1) ∨ (j9 = 78 ∨ j9 = 79) := h7; omega))).trans ((hF6 b9 (fun j9 h8 h7 => h9 j9 h8 (show (j9 = 48 + 2 * qp qn ∨ j9 = 48 + 2 * qp qn + 1) ∨ (j9 = 78 ∨ j9 = 79) by have h6 : j9 = (48 + 2 * qp qn) ∨ j9 = (48 + 2 * qp qn) + 1 := h7; omega))).trans ((hF5 b9 (fun j9 h8 h7 => h9 j9 h8 (show (j9 = 48 + 2 * qp qn ∨ j9 = 48 + 2 * qp qn + 1) ∨ (j9 = 78 ∨ j9 = 79) by have h6 : j9 = (48 + 2 * qp qn) ∨ j9 = (48 + 2 * qp qn) + 1 := h7; omega))).trans ((hF4 b9 (fun j9 h8 h7 => h9 j9 h8 (show (j9 = 48 + 2 * qp qn ∨ j9 = 48 + 2 * qp qn + 1) ∨ (j9 = 78 ∨ j9 = 79) by have h6 : j9 = (48 + 2 * qp qn) ∨ j9 = (48 + 2 * qp qn) + 1 := h7; omega))).trans ((hF3 b9 (fun j9 h8 h7 => h9 j9 h8 (show (j9 = 48 + 2 * qp qn ∨ j9 = 48 + 2 * qp qn + 1) ∨ (j9 = 78 ∨ j9 = 79) by have h6 : j9 = (48 + 2 * qp qn) ∨ j9 = (48 + 2 * qp qn) + 1 := h7; omega))).trans ((hF2 b9 (fun j9 h8 h7 => h9 j9 h8 (show (j9 = 48 + 2 * qp qn ∨ j9 = 48 + 2 * qp qn + 1) ∨ (j9 = 78 ∨ j9 = 79) by have h6 : j9 = (48 + 2 * qp qn) ∨ j9 = (48 + 2 * qp qn) + 1 := h7; omega))).trans ((hF1 b9 (fun j9 h8 h7 => h9 j9 h8 (show (j9 = 48 + 2 * qp qn ∨ j9 = 48 + 2 * qp qn + 1) ∨ (j9 = 78 ∨ j9 = 79) by have h6 : j9 = 48 + 2 * qp qn := h7; omega))).trans rfl))))))))⟩

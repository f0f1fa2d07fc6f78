set_option maxHeartbeats 4000000 in
set_option maxRecDepth 100000 in
theorem c_X6_readText_empty (G : EnvG) (l : Launch) (Φ : Hm) (sz : Nat) (h : Nat) (t : Nat) (f : Nat) (a : Int32) (b : Int32) (nx : Int32) (k : Int32) (s0 : Int32) (n0 : Int32) (c : Nat) (s : Nat → Int32) (u : Nat → Int32) (m : Int32) (q : Int32) (wa0 : Int32) (wb0 : Int32) (wd0 : Int32) (wa1 : Int32) (wb1 : Int32) (wd1 : Int32) (wa2 : Int32) (wb2 : Int32) (wd2 : Int32) (wa3 : Int32) (wb3 : Int32) (wd3 : Int32) (wg0 : Nat → Int32) (hc0 : Φ h = some (o_ 8 [.ref c, .int a, .int b, .ref t, .int nx, .int k, .int s0, .int n0])) (hc1 : Φ t = some (o_ 7 [.ref f, .int 0])) (hc2 : Φ c = some (o_ 3 [.ref (c + 1), .ref (c + 2), .ref (c + 3), .ref (c + 4), .int m, .int q])) (hc3 : Φ (c + 1) = some (ai_ G 9 s)) (hc4 : Φ (c + 2) = some (ai_ G 256 u)) (hc5 : Φ (c + 3) = some (aq_ G 4 4 (va_up (va_up (va_up (va_up (fun _ => none) (0 : Int32).toNatClampNeg (some (c + 5))) (1 : Int32).toNatClampNeg (some (c + 9))) (2 : Int32).toNatClampNeg (some (c + 13))) (3 : Int32).toNatClampNeg (some (c + 17))))) (hc6 : Φ (c + 5) = some (o_ 12 [.ref (c + 6), .int wa0, .int wb0, .int wd0])) (hc7 : Φ (c + 9) = some (o_ 12 [.ref (c + 10), .int wa1, .int wb1, .int wd1])) (hc8 : Φ (c + 13) = some (o_ 12 [.ref (c + 14), .int wa2, .int wb2, .int wd2])) (hc9 : Φ (c + 17) = some (o_ 12 [.ref (c + 18), .int wa3, .int wb3, .int wd3])) (hc10 : Φ (c + 6) = some (ai_ G 9 wg0)) (hne_h_t : h ≠ t) (hna_h : G.2.2.2 ≤ h) (hna_c : G.2.2.2 ≤ c) (hhc : h < c) (htc : t < c ∨ c + 21 ≤ t) : Ct G l yX6_readText wsX6_readText ({ frames := 2, cells := 0, slots := 0, locals := 44 }) 0 0 [.ref h] Φ sz (fun v Φ1 sz1 => v = some (.int 0) ∧ sz1 = sz ∧ (∀ b9 : Nat, b9 ≠ c → b9 ≠ c + 1 → b9 ≠ c + 13 → b9 ≠ c + 17 → b9 ≠ c + 2 → b9 ≠ c + 5 → b9 ≠ c + 6 → b9 ≠ c + 9 → b9 ≠ h → Φ1 b9 = Φ b9) ∧ Φ1 c = some (o_ 3 [.ref (c + 1), .ref (c + 2), .ref (c + 3), .ref (c + 4), .int 1, .int 511]) ∧ Φ1 (c + 1) = some (ai_ G 9 usT) ∧ Φ1 (c + 13) = some (o_ 12 [.ref (c + 14), .int 0, .int 0, .int 0]) ∧ Φ1 (c + 17) = some (o_ 12 [.ref (c + 18), .int 0, .int 0, .int 0]) ∧ Φ1 (c + 2) = some (ai_ G 256 (fun _ => 0)) ∧ Φ1 (c + 5) = some (o_ 12 [.ref (c + 6), .int 9, .int 511, .int 29]) ∧ Φ1 (c + 6) = some (ai_ G 9 (upd (upd (upd (upd (upd (upd (upd (upd (upd wg0 (0 : Int32).toNatClampNeg 0) (1 : Int32).toNatClampNeg 1) (2 : Int32).toNatClampNeg 2) (3 : Int32).toNatClampNeg 3) (4 : Int32).toNatClampNeg 4) (5 : Int32).toNatClampNeg 5) (6 : Int32).toNatClampNeg 6) (7 : Int32).toNatClampNeg 7) (8 : Int32).toNatClampNeg 8)) ∧ Φ1 (c + 9) = some (o_ 12 [.ref (c + 10), .int 0, .int 0, .int 0]) ∧ Φ1 h = some (o_ 8 [.ref c, .int 0, .int (-1), .ref t, .int 0, .int 0, .int 0, .int n0])) := by
  refine Ct.of (cc := cX6_readText) (maxL := 2) (ret := (some .int)) (by decide) rfl (Nat.le_of_ble_eq_true rfl) ?_
  intro p9 e9 s9 m9 w9 t9 k9 B
  show Z p9 l e9 _ s9 m9 _ w9 t9 k9 _ G 2 0 [(0, .ref h)] [] Φ (sz) 0 0
  refine z_aload_n B dX6_readText_0 rfl 0 rfl ?_
  refine z_get (ref := "FlowExporter$Parser") (C := RX6) (T := TX6) (N := 8) (ci := 8) (v := .ref c) B (by decide +kernel) rfl 0 (by decide) (by decide +kernel) rfl hc0 rfl dX6_readText_1 ?_
  refine z_callV (As := []) (rest := []) B (c_X1_clear G l Φ sz c s u m q wa0 wb0 wd0 wa1 wb1 wd1 wa2 wb2 wd2 wa3 wb3 wd3 hc2 hc3 hc4 hc5 hc6 hc7 hc8 hc9 hna_c) (cwV 0 B.1.2.2.2.2 gX6_readText_X1_clear rfl rfl rfl (by decide +kernel) ⟨Nat.le_of_ble_eq_true rfl, Nat.le_of_ble_eq_true rfl⟩) hc2 rfl rfl rfl rfl (Nat.le_of_ble_eq_true rfl) dX6_readText_4 ⟨Nat.le_of_ble_eq_true rfl, Nat.le_of_ble_eq_true rfl⟩ (fun v1 Φ1 sz1 st1 hp1 hs1 => ?_)
  obtain ⟨rfl, hq1, fr1, h_1, h_2, h_3, h_4, h_5, h_6, h_7⟩ := hp1
  replace hq1 : sz1 = sz := hq1
  subst sz1
  replace hs1 : st1 = [] := hs1
  subst st1
  have h_8 : Φ1 c = some (o_ 3 [.ref (c + 1), .ref (c + 2), .ref (c + 3), .ref (c + 4), .int 0, .int 511]) := h_1
  have h_9 : Φ1 (c + 1) = some (ai_ G 9 usT) := h_2
  have h_10 : Φ1 (c + 13) = some (o_ 12 [.ref (c + 14), .int 0, .int 0, .int 0]) := h_3
  have h_11 : Φ1 (c + 17) = some (o_ 12 [.ref (c + 18), .int 0, .int 0, .int 0]) := h_4
  have h_12 : Φ1 (c + 2) = some (ai_ G 256 (fun _ => 0)) := h_5
  have h_13 : Φ1 (c + 5) = some (o_ 12 [.ref (c + 6), .int 0, .int 0, .int 0]) := h_6
  have h_14 : Φ1 (c + 9) = some (o_ 12 [.ref (c + 10), .int 0, .int 0, .int 0]) := h_7
  refine z_aload_n B dX6_readText_7 rfl 0 rfl ?_
  refine z_iconst (v := 0) B dX6_readText_8 rfl ?_
  have h_15 : Φ1 h = some (o_ 8 [.ref c, .int a, .int b, .ref t, .int nx, .int k, .int s0, .int n0]) := ((fr1 h (hm_ne hc0 hc2 (fun h9 => by cases h9)) (by omega) (by omega) (by omega) (by omega) (by omega) (by omega)).trans hc0)
  refine z_put (ref := "FlowExporter$Parser") (C := RX6) (T := TX6) (N := 8) (ci := 8) (v := .int 0) B (by decide +kernel) tyX6 tyX6_ok nmX6 rfl 1 (by decide) (by decide +kernel) rfl (Or.inl rfl) h_15 hna_h rfl rfl (Nat.le_of_ble_eq_true rfl) dX6_readText_9 (fun Φ2 hΦ1 => ?_)
  have h_16 : Φ2 h = some (o_ 8 [.ref c, .int 0, .int b, .ref t, .int nx, .int k, .int s0, .int n0]) := fset_at hΦ1
  refine z_aload_n B dX6_readText_12 rfl 0 rfl ?_
  refine z_iconst (v := (-1)) B dX6_readText_13 rfl ?_
  refine z_put (ref := "FlowExporter$Parser") (C := RX6) (T := TX6) (N := 8) (ci := 8) (v := .int (-1)) B (by decide +kernel) tyX6 tyX6_ok nmX6 rfl 2 (by decide) (by decide +kernel) rfl (Or.inl rfl) h_16 hna_h rfl rfl (Nat.le_of_ble_eq_true rfl) dX6_readText_14 (fun Φ3 hΦ2 => ?_)
  have h_17 : Φ3 h = some (o_ 8 [.ref c, .int 0, .int (-1), .ref t, .int nx, .int k, .int s0, .int n0]) := fset_at hΦ2
  refine z_aload_n B dX6_readText_17 rfl 0 rfl ?_
  refine z_iconst (v := 0) B dX6_readText_18 rfl ?_
  refine z_put (ref := "FlowExporter$Parser") (C := RX6) (T := TX6) (N := 8) (ci := 8) (v := .int 0) B (by decide +kernel) tyX6 tyX6_ok nmX6 rfl 4 (by decide) (by decide +kernel) rfl (Or.inl rfl) h_17 hna_h rfl rfl (Nat.le_of_ble_eq_true rfl) dX6_readText_19 (fun Φ4 hΦ3 => ?_)
  have h_18 : Φ4 h = some (o_ 8 [.ref c, .int 0, .int (-1), .ref t, .int 0, .int k, .int s0, .int n0]) := fset_at hΦ3
  refine z_iconst (v := 0) B dX6_readText_22 rfl ?_
  refine z_istore_n (lv' := [(1, .int 0), (0, .ref h)]) B dX6_readText_23 rfl (Nat.le_of_ble_eq_true rfl) rfl ?_
  refine z_iload_n B dX6_readText_24 rfl 0 rfl ?_
  refine z_sipush (v := 700) B dX6_readText_25 rfl ?_
  refine z_icmp_gt (tgt := 77) B dX6_readText_28 rfl (fun h9 => absurd h9 (by decide)) (fun c_1 => ?_)
  refine z_aload_n B dX6_readText_31 rfl 1 rfl ?_
  have h_19 : Φ4 t = some (o_ 7 [.ref f, .int 0]) := ((fset_fr hΦ3 (Ne.symm hne_h_t)).trans ((fset_fr hΦ2 (Ne.symm hne_h_t)).trans ((fset_fr hΦ1 (Ne.symm hne_h_t)).trans ((fr1 t (hm_ne hc1 hc2 (fun h9 => by cases h9)) (by omega) (by omega) (by omega) (by omega) (by omega) (by omega)).trans hc1))))
  refine z_callV (As := []) (rest := []) B (c_X6_nextToken_end G l Φ4 sz h c t f 0 (-1) k s0 n0 h_18 h_19 hna_h) (cwV 0 B.1.2.2.2.2 gX6_readText_X6_nextToken rfl rfl rfl (by decide +kernel) ⟨Nat.le_of_ble_eq_true rfl, Nat.le_of_ble_eq_true rfl⟩) h_18 rfl rfl rfl rfl (Nat.le_of_ble_eq_true rfl) dX6_readText_32 ⟨Nat.le_of_ble_eq_true rfl, Nat.le_of_ble_eq_true rfl⟩ (fun v2 Φ5 sz2 st2 hp2 hs2 => ?_)
  obtain ⟨rfl, hq2, fr2, h_20⟩ := hp2
  replace hq2 : sz2 = sz := hq2
  subst sz2
  replace hs2 : st2 = [] := hs2
  subst st2
  have h_21 : Φ5 h = some (o_ 8 [.ref c, .int 0, .int (-1), .ref t, .int 0, .int 0, .int 0, .int n0]) := h_20
  refine z_aload_n B dX6_readText_35 rfl 1 rfl ?_
  refine z_get (ref := "FlowExporter$Parser") (C := RX6) (T := TX6) (N := 8) (ci := 8) (v := .int 0) B (by decide +kernel) rfl 5 (by decide) (by decide +kernel) rfl h_21 rfl dX6_readText_36 ?_
  refine z_if_ne (tgt := 61) B dX6_readText_39 rfl (fun h9 => absurd (by decide) h9) (fun c_2 => ?_)
  refine z_aload_n B dX6_readText_42 rfl 1 rfl ?_
  refine z_get (ref := "FlowExporter$Parser") (C := RX6) (T := TX6) (N := 8) (ci := 8) (v := .ref c) B (by decide +kernel) rfl 0 (by decide) (by decide +kernel) rfl h_21 rfl dX6_readText_43 ?_
  have h_22 : Φ5 c = some (o_ 3 [.ref (c + 1), .ref (c + 2), .ref (c + 3), .ref (c + 4), .int 0, .int 511]) := ((fr2 c (hm_ne hc2 hc0 (fun h9 => by cases h9))).trans ((fset_fr hΦ3 (hm_ne hc2 hc0 (fun h9 => by cases h9))).trans ((fset_fr hΦ2 (hm_ne hc2 hc0 (fun h9 => by cases h9))).trans ((fset_fr hΦ1 (hm_ne hc2 hc0 (fun h9 => by cases h9))).trans h_8))))
  refine z_get (ref := "FlowExporter$Config") (C := RX1) (T := TX1) (N := 6) (ci := 3) (v := .int 0) B (by decide +kernel) rfl 4 (by decide) (by decide +kernel) rfl h_22 rfl dX6_readText_46 ?_
  refine z_if_ne (tgt := 59) B dX6_readText_49 rfl (fun h9 => absurd (by decide) h9) (fun c_3 => ?_)
  refine z_aload_n B dX6_readText_52 rfl 1 rfl ?_
  refine z_get (ref := "FlowExporter$Parser") (C := RX6) (T := TX6) (N := 8) (ci := 8) (v := .ref c) B (by decide +kernel) rfl 0 (by decide) (by decide +kernel) rfl h_21 rfl dX6_readText_53 ?_
  have h_23 : Φ5 (c + 3) = some (aq_ G 4 4 (va_up (va_up (va_up (va_up (fun _ => none) (0 : Int32).toNatClampNeg (some (c + 5))) (1 : Int32).toNatClampNeg (some (c + 9))) (2 : Int32).toNatClampNeg (some (c + 13))) (3 : Int32).toNatClampNeg (some (c + 17)))) := ((fr2 (c + 3) (by omega)).trans ((fset_fr hΦ3 (by omega)).trans ((fset_fr hΦ2 (by omega)).trans ((fset_fr hΦ1 (by omega)).trans ((fr1 (c + 3) (ne_off (x := c) (i := 3) (j := 0) rfl) (ne_off (x := c) (i := 3) (j := 1) rfl) (ne_off (x := c) (i := 3) (j := 13) rfl) (ne_off (x := c) (i := 3) (j := 17) rfl) (ne_off (x := c) (i := 3) (j := 2) rfl) (ne_off (x := c) (i := 3) (j := 5) rfl) (ne_off (x := c) (i := 3) (j := 9) rfl)).trans hc5)))))
  have h_24 : Φ5 (c + 5) = some (o_ 12 [.ref (c + 6), .int 0, .int 0, .int 0]) := ((fr2 (c + 5) (by omega)).trans ((fset_fr hΦ3 (by omega)).trans ((fset_fr hΦ2 (by omega)).trans ((fset_fr hΦ1 (by omega)).trans h_13))))
  have h_25 : Φ5 (c + 6) = some (ai_ G 9 wg0) := ((fr2 (c + 6) (by omega)).trans ((fset_fr hΦ3 (by omega)).trans ((fset_fr hΦ2 (by omega)).trans ((fset_fr hΦ1 (by omega)).trans ((fr1 (c + 6) (ne_off (x := c) (i := 6) (j := 0) rfl) (ne_off (x := c) (i := 6) (j := 1) rfl) (ne_off (x := c) (i := 6) (j := 13) rfl) (ne_off (x := c) (i := 6) (j := 17) rfl) (ne_off (x := c) (i := 6) (j := 2) rfl) (ne_off (x := c) (i := 6) (j := 5) rfl) (ne_off (x := c) (i := 6) (j := 9) rfl)).trans hc10)))))
  refine z_callV (As := []) (rest := []) B (c_X1_addUsualTemplate G l Φ5 sz c 0 511 wg0 h_22 h_23 h_24 h_25 hna_c) (cwV 0 B.1.2.2.2.2 gX6_readText_X1_addUsualTemplate rfl rfl rfl (by decide +kernel) ⟨Nat.le_of_ble_eq_true rfl, Nat.le_of_ble_eq_true rfl⟩) h_22 rfl rfl rfl rfl (Nat.le_of_ble_eq_true rfl) dX6_readText_56 ⟨Nat.le_of_ble_eq_true rfl, Nat.le_of_ble_eq_true rfl⟩ (fun v3 Φ6 sz3 st3 hp3 hs3 => ?_)
  obtain ⟨rfl, hq3, fr3, h_26, h_27, h_28⟩ := hp3
  replace hq3 : sz3 = sz := hq3
  subst sz3
  replace hs3 : st3 = [] := hs3
  subst st3
  have h_29 : Φ6 c = some (o_ 3 [.ref (c + 1), .ref (c + 2), .ref (c + 3), .ref (c + 4), .int 1, .int 511]) := h_26
  have h_30 : Φ6 (c + 5) = some (o_ 12 [.ref (c + 6), .int 9, .int 511, .int 29]) := h_27
  have h_31 : Φ6 (c + 6) = some (ai_ G 9 (upd (upd (upd (upd (upd (upd (upd (upd (upd wg0 (0 : Int32).toNatClampNeg 0) (1 : Int32).toNatClampNeg 1) (2 : Int32).toNatClampNeg 2) (3 : Int32).toNatClampNeg 3) (4 : Int32).toNatClampNeg 4) (5 : Int32).toNatClampNeg 5) (6 : Int32).toNatClampNeg 6) (7 : Int32).toNatClampNeg 7) (8 : Int32).toNatClampNeg 8)) := h_28
  refine z_iload_n B dX6_readText_59 rfl 0 rfl ?_
  have h_32 : Φ6 (c + 1) = some (ai_ G 9 usT) := ((fr3 (c + 1) (ne_off (x := c) (i := 1) (j := 0) rfl) (ne_off (x := c) (i := 1) (j := 5) rfl) (ne_off (x := c) (i := 1) (j := 6) rfl)).trans ((fr2 (c + 1) (by omega)).trans ((fset_fr hΦ3 (by omega)).trans ((fset_fr hΦ2 (by omega)).trans ((fset_fr hΦ1 (by omega)).trans h_9)))))
  have h_33 : Φ6 (c + 13) = some (o_ 12 [.ref (c + 14), .int 0, .int 0, .int 0]) := ((fr3 (c + 13) (ne_off (x := c) (i := 13) (j := 0) rfl) (ne_off (x := c) (i := 13) (j := 5) rfl) (ne_off (x := c) (i := 13) (j := 6) rfl)).trans ((fr2 (c + 13) (by omega)).trans ((fset_fr hΦ3 (by omega)).trans ((fset_fr hΦ2 (by omega)).trans ((fset_fr hΦ1 (by omega)).trans h_10)))))
  have h_34 : Φ6 (c + 17) = some (o_ 12 [.ref (c + 18), .int 0, .int 0, .int 0]) := ((fr3 (c + 17) (ne_off (x := c) (i := 17) (j := 0) rfl) (ne_off (x := c) (i := 17) (j := 5) rfl) (ne_off (x := c) (i := 17) (j := 6) rfl)).trans ((fr2 (c + 17) (by omega)).trans ((fset_fr hΦ3 (by omega)).trans ((fset_fr hΦ2 (by omega)).trans ((fset_fr hΦ1 (by omega)).trans h_11)))))
  have h_35 : Φ6 (c + 2) = some (ai_ G 256 (fun _ => 0)) := ((fr3 (c + 2) (ne_off (x := c) (i := 2) (j := 0) rfl) (ne_off (x := c) (i := 2) (j := 5) rfl) (ne_off (x := c) (i := 2) (j := 6) rfl)).trans ((fr2 (c + 2) (by omega)).trans ((fset_fr hΦ3 (by omega)).trans ((fset_fr hΦ2 (by omega)).trans ((fset_fr hΦ1 (by omega)).trans h_12)))))
  have h_36 : Φ6 (c + 9) = some (o_ 12 [.ref (c + 10), .int 0, .int 0, .int 0]) := ((fr3 (c + 9) (ne_off (x := c) (i := 9) (j := 0) rfl) (ne_off (x := c) (i := 9) (j := 5) rfl) (ne_off (x := c) (i := 9) (j := 6) rfl)).trans ((fr2 (c + 9) (by omega)).trans ((fset_fr hΦ3 (by omega)).trans ((fset_fr hΦ2 (by omega)).trans ((fset_fr hΦ1 (by omega)).trans h_14)))))
  have h_37 : Φ6 h = some (o_ 8 [.ref c, .int 0, .int (-1), .ref t, .int 0, .int 0, .int 0, .int n0]) := ((fr3 h (hm_ne hc0 hc2 (fun h9 => by cases h9)) (by omega) (by omega)).trans h_21)
  exact z_ret_i B dX6_readText_60 ⟨rfl, rfl, (fun b9 h9a h9b h9c h9d h9e h9f h9g h9h h9i => ((fr3 b9 h9a h9f h9g).trans ((fr2 b9 h9i).trans ((fset_fr hΦ3 h9i).trans ((fset_fr hΦ2 h9i).trans ((fset_fr hΦ1 h9i).trans ((fr1 b9 h9a h9b h9c h9d h9e h9f h9h).trans rfl))))))), h_29, h_32, h_33, h_34, h_35, h_30, h_31, h_36, h_37⟩

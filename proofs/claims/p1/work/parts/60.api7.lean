set_option maxHeartbeats 4000000 in
set_option maxRecDepth 100000 in
theorem c_X10_copyFrom_s0 (G : EnvG) (l : Launch) (Φ : Hm) (sz : Nat) (h : Nat) (f : Nat) (a : Int32) (b : Int32) (d : Int32) (g : Nat → Int32) (h2 : Nat) (f2 : Nat) (b2 : Int32) (d2 : Int32) (g2 : Nat → Int32) (hc0 : Φ h = some (o_ 12 [.ref f, .int a, .int b, .int d])) (hc1 : Φ f = some (ai_ G 9 g)) (hc2 : Φ h2 = some (o_ 12 [.ref f2, .int 9, .int b2, .int d2])) (hc3 : Φ f2 = some (ai_ G 9 g2)) (hne_h_h2 : h ≠ h2) (hne_f_f2 : f ≠ f2) (hne_h_f : h ≠ f) (hne_h2_f : h2 ≠ f) (hne_h_f2 : h ≠ f2) (hne_h2_f2 : h2 ≠ f2) (hna_h : G.2.2.2 ≤ h) (hna_f : G.2.2.2 ≤ f) (hg0 : g2 0 = 0) (hg1 : g2 1 = 1) (hg2 : g2 2 = 2) (hg3 : g2 3 = 3) (hg4 : g2 4 = 4) (hg5 : g2 5 = 5) (hg6 : g2 6 = 6) (hg7 : g2 7 = 7) (hg8 : g2 8 = 8) : Ct G l yX10_copyFrom wsX10_copyFrom ({ frames := 1, cells := 0, slots := 0, locals := 21 }) 0 0 [.ref h, .ref h2, .int 510] Φ sz (fun v Φ1 sz1 => v = none ∧ sz1 = sz ∧ (∀ b9 : Nat, b9 ≠ f → b9 ≠ h → Φ1 b9 = Φ b9) ∧ Φ1 f = some (ai_ G 9 (upd (upd (upd (upd (upd (upd (upd (upd g (0 : Int32).toNatClampNeg 1) (1 : Int32).toNatClampNeg 2) (2 : Int32).toNatClampNeg 3) (3 : Int32).toNatClampNeg 4) (4 : Int32).toNatClampNeg 5) (5 : Int32).toNatClampNeg 6) (6 : Int32).toNatClampNeg 7) (7 : Int32).toNatClampNeg 8)) ∧ Φ1 h = some (o_ 12 [.ref f, .int 8, .int 510, .int 28])) := by
  refine Ct.of (cc := cX10_copyFrom) (maxL := 5) (ret := none) (by decide) rfl (Nat.le_of_ble_eq_true rfl) ?_
  intro p9 e9 s9 m9 w9 t9 k9 B
  show Z p9 l e9 _ s9 m9 _ w9 t9 k9 _ G 5 0 [(0, .ref h), (1, .ref h2), (2, .int 510)] [] Φ (sz) 0 0
  refine z_aload_n B dX10_copyFrom_0 rfl 0 rfl ?_
  refine z_callV (As := []) (rest := []) B (c_X10_clear G l Φ sz h f a b d hc0 hna_h) (cwV 0 B.1.2.2.2.2 gX10_copyFrom_X10_clear rfl rfl rfl (by decide +kernel) ⟨Nat.le_of_ble_eq_true rfl, Nat.le_of_ble_eq_true rfl⟩) hc0 rfl rfl rfl rfl (Nat.le_of_ble_eq_true rfl) dX10_copyFrom_1 ⟨Nat.le_of_ble_eq_true rfl, Nat.le_of_ble_eq_true rfl⟩ (fun v1 Φ1 sz1 st1 hp1 hs1 => ?_)
  obtain ⟨rfl, hq1, fr1, h_1⟩ := hp1
  replace hq1 : sz1 = sz := hq1
  subst sz1
  replace hs1 : st1 = [] := hs1
  subst st1
  have h_2 : Φ1 h = some (o_ 12 [.ref f, .int 0, .int 0, .int 0]) := h_1
  refine z_iconst (v := 0) B dX10_copyFrom_4 rfl ?_
  refine z_istore_n (lv' := [(3, .int 0), (0, .ref h), (1, .ref h2), (2, .int 510)]) B dX10_copyFrom_5 rfl (Nat.le_of_ble_eq_true rfl) rfl ?_
  refine z_iload_n B dX10_copyFrom_6 rfl 0 rfl ?_
  refine z_aload_n B dX10_copyFrom_7 rfl 2 rfl ?_
  have h_3 : Φ1 h2 = some (o_ 12 [.ref f2, .int 9, .int b2, .int d2]) := ((fr1 h2 (Ne.symm hne_h_h2)).trans hc2)
  refine z_get (ref := "FlowExporter$Template") (C := RX10) (T := TX10) (N := 4) (ci := 12) (v := .int 9) B (by decide +kernel) rfl 1 (by decide) (by decide +kernel) rfl h_3 rfl dX10_copyFrom_8 ?_
  refine z_icmp_ge (tgt := 43) B dX10_copyFrom_11 rfl (fun h9 => absurd h9 (by decide)) (fun c_1 => ?_)
  refine z_aload_n B dX10_copyFrom_14 rfl 2 rfl ?_
  refine z_iload_n B dX10_copyFrom_15 rfl 0 rfl ?_
  have h_4 : Φ1 f2 = some (ai_ G 9 g2) := ((fr1 f2 (Ne.symm hne_h_f2)).trans hc3)
  refine z_callV (As := [.int 0]) (rest := []) B (c_X10_field G l Φ1 sz h2 f2 9 b2 d2 g2 0 h_3 h_4 (by decide) (by decide) (vin rfl)) (cwV 1 B.1.2.2.2.2 gX10_copyFrom_X10_field rfl rfl rfl (by decide +kernel) ⟨Nat.le_of_ble_eq_true rfl, Nat.le_of_ble_eq_true rfl⟩) h_3 rfl rfl rfl rfl (Nat.le_of_ble_eq_true rfl) dX10_copyFrom_16 ⟨Nat.le_of_ble_eq_true rfl, Nat.le_of_ble_eq_true rfl⟩ (fun v2 Φ2 sz2 st2 hp2 hs2 => ?_)
  obtain ⟨rfl, hq2, fr2⟩ := hp2
  replace hq2 : sz2 = sz := hq2
  subst sz2
  replace hs2 : st2 = [.int (g2 (0 : Int32).toNatClampNeg)] := hs2
  subst st2
  refine z_top (st1 := [.int 0]) (by rw [show g2 ((0 : Int32).toNatClampNeg) = 0 from hg0]) ?_
  refine z_istore (lv' := [(4, .int 0), (3, .int 0), (0, .ref h), (1, .ref h2), (2, .int 510)]) B dX10_copyFrom_19 (Nat.le_of_ble_eq_true rfl) rfl ?_
  refine z_iload_n B dX10_copyFrom_21 rfl 4 rfl ?_
  refine z_iload B dX10_copyFrom_22 0 rfl ?_
  refine z_ishr B dX10_copyFrom_24 ?_
  refine z_top (st1 := [.int 510]) (congrArg (fun w9 : Int32 => ([.int w9] : List Value)) (show ((510 : Int32) >>> ((0 : Int32) &&& (31 : Int32)) : Int32) = 510 by decide +kernel)) ?_
  refine z_iconst (v := 1) B dX10_copyFrom_25 rfl ?_
  refine z_iand B dX10_copyFrom_26 ?_
  refine z_top (st1 := [.int 0]) (congrArg (fun w9 : Int32 => ([.int w9] : List Value)) (show (510 &&& 1 : Int32) = 0 by decide +kernel)) ?_
  refine z_iconst (v := 1) B dX10_copyFrom_27 rfl ?_
  refine z_icmp_ne (tgt := 37) B dX10_copyFrom_28 rfl (fun c_2 => ?_) (fun h9 => absurd h9 (by decide))
  refine z_iinc (k := 1) (v := 1) (lv' := [(3, .int 1), (4, .int 0), (0, .ref h), (1, .ref h2), (2, .int 510)]) B dX10_copyFrom_37 rfl rfl (Nat.le_of_ble_eq_true rfl) rfl ?_
  refine z_goto (tgt := 6) B dX10_copyFrom_40 rfl ?_
  refine z_iload_n B dX10_copyFrom_6 rfl 0 rfl ?_
  refine z_aload_n B dX10_copyFrom_7 rfl 3 rfl ?_
  have h_5 : Φ2 h2 = some (o_ 12 [.ref f2, .int 9, .int b2, .int d2]) := ((fr2 h2).trans h_3)
  refine z_get (ref := "FlowExporter$Template") (C := RX10) (T := TX10) (N := 4) (ci := 12) (v := .int 9) B (by decide +kernel) rfl 1 (by decide) (by decide +kernel) rfl h_5 rfl dX10_copyFrom_8 ?_
  refine z_icmp_ge (tgt := 43) B dX10_copyFrom_11 rfl (fun h9 => absurd h9 (by decide)) (fun c_3 => ?_)
  refine z_aload_n B dX10_copyFrom_14 rfl 3 rfl ?_
  refine z_iload_n B dX10_copyFrom_15 rfl 0 rfl ?_
  have h_6 : Φ2 f2 = some (ai_ G 9 g2) := ((fr2 f2).trans h_4)
  refine z_callV (As := [.int 1]) (rest := []) B (c_X10_field G l Φ2 sz h2 f2 9 b2 d2 g2 1 h_5 h_6 (by decide) (by decide) (vin rfl)) (cwV 1 B.1.2.2.2.2 gX10_copyFrom_X10_field rfl rfl rfl (by decide +kernel) ⟨Nat.le_of_ble_eq_true rfl, Nat.le_of_ble_eq_true rfl⟩) h_5 rfl rfl rfl rfl (Nat.le_of_ble_eq_true rfl) dX10_copyFrom_16 ⟨Nat.le_of_ble_eq_true rfl, Nat.le_of_ble_eq_true rfl⟩ (fun v3 Φ3 sz3 st3 hp3 hs3 => ?_)
  obtain ⟨rfl, hq3, fr3⟩ := hp3
  replace hq3 : sz3 = sz := hq3
  subst sz3
  replace hs3 : st3 = [.int (g2 (1 : Int32).toNatClampNeg)] := hs3
  subst st3
  refine z_top (st1 := [.int 1]) (by rw [show g2 ((1 : Int32).toNatClampNeg) = 1 from hg1]) ?_
  refine z_istore (lv' := [(4, .int 1), (3, .int 1), (0, .ref h), (1, .ref h2), (2, .int 510)]) B dX10_copyFrom_19 (Nat.le_of_ble_eq_true rfl) rfl ?_
  refine z_iload_n B dX10_copyFrom_21 rfl 4 rfl ?_
  refine z_iload B dX10_copyFrom_22 0 rfl ?_
  refine z_ishr B dX10_copyFrom_24 ?_
  refine z_top (st1 := [.int 255]) (congrArg (fun w9 : Int32 => ([.int w9] : List Value)) (show ((510 : Int32) >>> ((1 : Int32) &&& (31 : Int32)) : Int32) = 255 by decide +kernel)) ?_
  refine z_iconst (v := 1) B dX10_copyFrom_25 rfl ?_
  refine z_iand B dX10_copyFrom_26 ?_
  refine z_top (st1 := [.int 1]) (congrArg (fun w9 : Int32 => ([.int w9] : List Value)) (show (255 &&& 1 : Int32) = 1 by decide +kernel)) ?_
  refine z_iconst (v := 1) B dX10_copyFrom_27 rfl ?_
  refine z_icmp_ne (tgt := 37) B dX10_copyFrom_28 rfl (fun h9 => absurd (by decide) h9) (fun c_4 => ?_)
  refine z_aload_n B dX10_copyFrom_31 rfl 2 rfl ?_
  refine z_iload B dX10_copyFrom_32 0 rfl ?_
  have h_7 : Φ3 h = some (o_ 12 [.ref f, .int 0, .int 0, .int 0]) := ((fr3 h).trans ((fr2 h).trans h_2))
  have h_8 : Φ3 f = some (ai_ G 9 g) := ((fr3 f).trans ((fr2 f).trans ((fr1 f (Ne.symm hne_h_f)).trans hc1)))
  refine z_callV (As := [.int 1]) (rest := []) B (c_X10_addField G l Φ3 sz h f 0 0 0 g 1 h_7 h_8 hne_h_f hna_h hna_f (by decide) (by decide) (by decide) (by decide) (vin rfl) (vin rfl)) (cwV 1 B.1.2.2.2.2 gX10_copyFrom_X10_addField rfl rfl rfl (by decide +kernel) ⟨Nat.le_of_ble_eq_true rfl, Nat.le_of_ble_eq_true rfl⟩) h_7 rfl rfl rfl rfl (Nat.le_of_ble_eq_true rfl) dX10_copyFrom_34 ⟨Nat.le_of_ble_eq_true rfl, Nat.le_of_ble_eq_true rfl⟩ (fun v4 Φ4 sz4 st4 hp4 hs4 => ?_)
  obtain ⟨rfl, hq4, fr4, h_9, h_10⟩ := hp4
  replace hq4 : sz4 = sz := hq4
  subst sz4
  replace hs4 : st4 = [] := hs4
  subst st4
  have h_11 : Φ4 f = some (ai_ G 9 (upd g (0 : Int32).toNatClampNeg 1)) := h_9
  have h_12 : Φ4 h = some (o_ 12 [.ref f, .int 1, .int 2, .int 1]) := h_10
  refine z_iinc (k := 1) (v := 2) (lv' := [(3, .int 2), (4, .int 1), (0, .ref h), (1, .ref h2), (2, .int 510)]) B dX10_copyFrom_37 rfl rfl (Nat.le_of_ble_eq_true rfl) rfl ?_
  refine z_goto (tgt := 6) B dX10_copyFrom_40 rfl ?_
  refine z_iload_n B dX10_copyFrom_6 rfl 0 rfl ?_
  refine z_aload_n B dX10_copyFrom_7 rfl 3 rfl ?_
  have h_13 : Φ4 h2 = some (o_ 12 [.ref f2, .int 9, .int b2, .int d2]) := ((fr4 h2 hne_h2_f (Ne.symm hne_h_h2)).trans ((fr3 h2).trans h_5))
  refine z_get (ref := "FlowExporter$Template") (C := RX10) (T := TX10) (N := 4) (ci := 12) (v := .int 9) B (by decide +kernel) rfl 1 (by decide) (by decide +kernel) rfl h_13 rfl dX10_copyFrom_8 ?_
  refine z_icmp_ge (tgt := 43) B dX10_copyFrom_11 rfl (fun h9 => absurd h9 (by decide)) (fun c_5 => ?_)
  refine z_aload_n B dX10_copyFrom_14 rfl 3 rfl ?_
  refine z_iload_n B dX10_copyFrom_15 rfl 0 rfl ?_
  have h_14 : Φ4 f2 = some (ai_ G 9 g2) := ((fr4 f2 (Ne.symm hne_f_f2) (Ne.symm hne_h_f2)).trans ((fr3 f2).trans h_6))
  refine z_callV (As := [.int 2]) (rest := []) B (c_X10_field G l Φ4 sz h2 f2 9 b2 d2 g2 2 h_13 h_14 (by decide) (by decide) (vin rfl)) (cwV 1 B.1.2.2.2.2 gX10_copyFrom_X10_field rfl rfl rfl (by decide +kernel) ⟨Nat.le_of_ble_eq_true rfl, Nat.le_of_ble_eq_true rfl⟩) h_13 rfl rfl rfl rfl (Nat.le_of_ble_eq_true rfl) dX10_copyFrom_16 ⟨Nat.le_of_ble_eq_true rfl, Nat.le_of_ble_eq_true rfl⟩ (fun v5 Φ5 sz5 st5 hp5 hs5 => ?_)
  obtain ⟨rfl, hq5, fr5⟩ := hp5
  replace hq5 : sz5 = sz := hq5
  subst sz5
  replace hs5 : st5 = [.int (g2 (2 : Int32).toNatClampNeg)] := hs5
  subst st5
  refine z_top (st1 := [.int 2]) (by rw [show g2 ((2 : Int32).toNatClampNeg) = 2 from hg2]) ?_
  refine z_istore (lv' := [(4, .int 2), (3, .int 2), (0, .ref h), (1, .ref h2), (2, .int 510)]) B dX10_copyFrom_19 (Nat.le_of_ble_eq_true rfl) rfl ?_
  refine z_iload_n B dX10_copyFrom_21 rfl 4 rfl ?_
  refine z_iload B dX10_copyFrom_22 0 rfl ?_
  refine z_ishr B dX10_copyFrom_24 ?_
  refine z_top (st1 := [.int 127]) (congrArg (fun w9 : Int32 => ([.int w9] : List Value)) (show ((510 : Int32) >>> ((2 : Int32) &&& (31 : Int32)) : Int32) = 127 by decide +kernel)) ?_
  refine z_iconst (v := 1) B dX10_copyFrom_25 rfl ?_
  refine z_iand B dX10_copyFrom_26 ?_
  refine z_top (st1 := [.int 1]) (congrArg (fun w9 : Int32 => ([.int w9] : List Value)) (show (127 &&& 1 : Int32) = 1 by decide +kernel)) ?_
  refine z_iconst (v := 1) B dX10_copyFrom_27 rfl ?_
  refine z_icmp_ne (tgt := 37) B dX10_copyFrom_28 rfl (fun h9 => absurd (by decide) h9) (fun c_6 => ?_)
  refine z_aload_n B dX10_copyFrom_31 rfl 2 rfl ?_
  refine z_iload B dX10_copyFrom_32 0 rfl ?_
  have h_15 : Φ5 h = some (o_ 12 [.ref f, .int 1, .int 2, .int 1]) := ((fr5 h).trans h_12)
  have h_16 : Φ5 f = some (ai_ G 9 (upd g (0 : Int32).toNatClampNeg 1)) := ((fr5 f).trans h_11)
  refine z_callV (As := [.int 2]) (rest := []) B (c_X10_addField G l Φ5 sz h f 1 2 1 (upd g (0 : Int32).toNatClampNeg 1) 2 h_15 h_16 hne_h_f hna_h hna_f (by decide) (by decide) (by decide) (by decide) (vin rfl) (vin rfl)) (cwV 1 B.1.2.2.2.2 gX10_copyFrom_X10_addField rfl rfl rfl (by decide +kernel) ⟨Nat.le_of_ble_eq_true rfl, Nat.le_of_ble_eq_true rfl⟩) h_15 rfl rfl rfl rfl (Nat.le_of_ble_eq_true rfl) dX10_copyFrom_34 ⟨Nat.le_of_ble_eq_true rfl, Nat.le_of_ble_eq_true rfl⟩ (fun v6 Φ6 sz6 st6 hp6 hs6 => ?_)
  obtain ⟨rfl, hq6, fr6, h_17, h_18⟩ := hp6
  replace hq6 : sz6 = sz := hq6
  subst sz6
  replace hs6 : st6 = [] := hs6
  subst st6
  have h_19 : Φ6 f = some (ai_ G 9 (upd (upd g (0 : Int32).toNatClampNeg 1) (1 : Int32).toNatClampNeg 2)) := h_17
  have h_20 : Φ6 h = some (o_ 12 [.ref f, .int 2, .int 6, .int 3]) := h_18
  refine z_iinc (k := 1) (v := 3) (lv' := [(3, .int 3), (4, .int 2), (0, .ref h), (1, .ref h2), (2, .int 510)]) B dX10_copyFrom_37 rfl rfl (Nat.le_of_ble_eq_true rfl) rfl ?_
  refine z_goto (tgt := 6) B dX10_copyFrom_40 rfl ?_
  refine z_iload_n B dX10_copyFrom_6 rfl 0 rfl ?_
  refine z_aload_n B dX10_copyFrom_7 rfl 3 rfl ?_
  have h_21 : Φ6 h2 = some (o_ 12 [.ref f2, .int 9, .int b2, .int d2]) := ((fr6 h2 hne_h2_f (Ne.symm hne_h_h2)).trans ((fr5 h2).trans h_13))
  refine z_get (ref := "FlowExporter$Template") (C := RX10) (T := TX10) (N := 4) (ci := 12) (v := .int 9) B (by decide +kernel) rfl 1 (by decide) (by decide +kernel) rfl h_21 rfl dX10_copyFrom_8 ?_
  refine z_icmp_ge (tgt := 43) B dX10_copyFrom_11 rfl (fun h9 => absurd h9 (by decide)) (fun c_7 => ?_)
  refine z_aload_n B dX10_copyFrom_14 rfl 3 rfl ?_
  refine z_iload_n B dX10_copyFrom_15 rfl 0 rfl ?_
  have h_22 : Φ6 f2 = some (ai_ G 9 g2) := ((fr6 f2 (Ne.symm hne_f_f2) (Ne.symm hne_h_f2)).trans ((fr5 f2).trans h_14))
  refine z_callV (As := [.int 3]) (rest := []) B (c_X10_field G l Φ6 sz h2 f2 9 b2 d2 g2 3 h_21 h_22 (by decide) (by decide) (vin rfl)) (cwV 1 B.1.2.2.2.2 gX10_copyFrom_X10_field rfl rfl rfl (by decide +kernel) ⟨Nat.le_of_ble_eq_true rfl, Nat.le_of_ble_eq_true rfl⟩) h_21 rfl rfl rfl rfl (Nat.le_of_ble_eq_true rfl) dX10_copyFrom_16 ⟨Nat.le_of_ble_eq_true rfl, Nat.le_of_ble_eq_true rfl⟩ (fun v7 Φ7 sz7 st7 hp7 hs7 => ?_)
  obtain ⟨rfl, hq7, fr7⟩ := hp7
  replace hq7 : sz7 = sz := hq7
  subst sz7
  replace hs7 : st7 = [.int (g2 (3 : Int32).toNatClampNeg)] := hs7
  subst st7
  refine z_top (st1 := [.int 3]) (by rw [show g2 ((3 : Int32).toNatClampNeg) = 3 from hg3]) ?_
  refine z_istore (lv' := [(4, .int 3), (3, .int 3), (0, .ref h), (1, .ref h2), (2, .int 510)]) B dX10_copyFrom_19 (Nat.le_of_ble_eq_true rfl) rfl ?_
  refine z_iload_n B dX10_copyFrom_21 rfl 4 rfl ?_
  refine z_iload B dX10_copyFrom_22 0 rfl ?_
  refine z_ishr B dX10_copyFrom_24 ?_
  refine z_top (st1 := [.int 63]) (congrArg (fun w9 : Int32 => ([.int w9] : List Value)) (show ((510 : Int32) >>> ((3 : Int32) &&& (31 : Int32)) : Int32) = 63 by decide +kernel)) ?_
  refine z_iconst (v := 1) B dX10_copyFrom_25 rfl ?_
  refine z_iand B dX10_copyFrom_26 ?_
  refine z_top (st1 := [.int 1]) (congrArg (fun w9 : Int32 => ([.int w9] : List Value)) (show (63 &&& 1 : Int32) = 1 by decide +kernel)) ?_
  refine z_iconst (v := 1) B dX10_copyFrom_27 rfl ?_
  refine z_icmp_ne (tgt := 37) B dX10_copyFrom_28 rfl (fun h9 => absurd (by decide) h9) (fun c_8 => ?_)
  refine z_aload_n B dX10_copyFrom_31 rfl 2 rfl ?_
  refine z_iload B dX10_copyFrom_32 0 rfl ?_
  have h_23 : Φ7 h = some (o_ 12 [.ref f, .int 2, .int 6, .int 3]) := ((fr7 h).trans h_20)
  have h_24 : Φ7 f = some (ai_ G 9 (upd (upd g (0 : Int32).toNatClampNeg 1) (1 : Int32).toNatClampNeg 2)) := ((fr7 f).trans h_19)
  refine z_callV (As := [.int 3]) (rest := []) B (c_X10_addField G l Φ7 sz h f 2 6 3 (upd (upd g (0 : Int32).toNatClampNeg 1) (1 : Int32).toNatClampNeg 2) 3 h_23 h_24 hne_h_f hna_h hna_f (by decide) (by decide) (by decide) (by decide) (vin rfl) (vin rfl)) (cwV 1 B.1.2.2.2.2 gX10_copyFrom_X10_addField rfl rfl rfl (by decide +kernel) ⟨Nat.le_of_ble_eq_true rfl, Nat.le_of_ble_eq_true rfl⟩) h_23 rfl rfl rfl rfl (Nat.le_of_ble_eq_true rfl) dX10_copyFrom_34 ⟨Nat.le_of_ble_eq_true rfl, Nat.le_of_ble_eq_true rfl⟩ (fun v8 Φ8 sz8 st8 hp8 hs8 => ?_)
  obtain ⟨rfl, hq8, fr8, h_25, h_26⟩ := hp8
  replace hq8 : sz8 = sz := hq8
  subst sz8
  replace hs8 : st8 = [] := hs8
  subst st8
  have h_27 : Φ8 f = some (ai_ G 9 (upd (upd (upd g (0 : Int32).toNatClampNeg 1) (1 : Int32).toNatClampNeg 2) (2 : Int32).toNatClampNeg 3)) := h_25
  have h_28 : Φ8 h = some (o_ 12 [.ref f, .int 3, .int 14, .int 4]) := h_26
  refine z_iinc (k := 1) (v := 4) (lv' := [(3, .int 4), (4, .int 3), (0, .ref h), (1, .ref h2), (2, .int 510)]) B dX10_copyFrom_37 rfl rfl (Nat.le_of_ble_eq_true rfl) rfl ?_
  refine z_goto (tgt := 6) B dX10_copyFrom_40 rfl ?_
  refine z_iload_n B dX10_copyFrom_6 rfl 0 rfl ?_
  refine z_aload_n B dX10_copyFrom_7 rfl 3 rfl ?_
  have h_29 : Φ8 h2 = some (o_ 12 [.ref f2, .int 9, .int b2, .int d2]) := ((fr8 h2 hne_h2_f (Ne.symm hne_h_h2)).trans ((fr7 h2).trans h_21))
  refine z_get (ref := "FlowExporter$Template") (C := RX10) (T := TX10) (N := 4) (ci := 12) (v := .int 9) B (by decide +kernel) rfl 1 (by decide) (by decide +kernel) rfl h_29 rfl dX10_copyFrom_8 ?_
  refine z_icmp_ge (tgt := 43) B dX10_copyFrom_11 rfl (fun h9 => absurd h9 (by decide)) (fun c_9 => ?_)
  refine z_aload_n B dX10_copyFrom_14 rfl 3 rfl ?_
  refine z_iload_n B dX10_copyFrom_15 rfl 0 rfl ?_
  have h_30 : Φ8 f2 = some (ai_ G 9 g2) := ((fr8 f2 (Ne.symm hne_f_f2) (Ne.symm hne_h_f2)).trans ((fr7 f2).trans h_22))
  refine z_callV (As := [.int 4]) (rest := []) B (c_X10_field G l Φ8 sz h2 f2 9 b2 d2 g2 4 h_29 h_30 (by decide) (by decide) (vin rfl)) (cwV 1 B.1.2.2.2.2 gX10_copyFrom_X10_field rfl rfl rfl (by decide +kernel) ⟨Nat.le_of_ble_eq_true rfl, Nat.le_of_ble_eq_true rfl⟩) h_29 rfl rfl rfl rfl (Nat.le_of_ble_eq_true rfl) dX10_copyFrom_16 ⟨Nat.le_of_ble_eq_true rfl, Nat.le_of_ble_eq_true rfl⟩ (fun v9 Φ9 sz9 st9 hp9 hs9 => ?_)
  obtain ⟨rfl, hq9, fr9⟩ := hp9
  replace hq9 : sz9 = sz := hq9
  subst sz9
  replace hs9 : st9 = [.int (g2 (4 : Int32).toNatClampNeg)] := hs9
  subst st9
  refine z_top (st1 := [.int 4]) (by rw [show g2 ((4 : Int32).toNatClampNeg) = 4 from hg4]) ?_
  refine z_istore (lv' := [(4, .int 4), (3, .int 4), (0, .ref h), (1, .ref h2), (2, .int 510)]) B dX10_copyFrom_19 (Nat.le_of_ble_eq_true rfl) rfl ?_
  refine z_iload_n B dX10_copyFrom_21 rfl 4 rfl ?_
  refine z_iload B dX10_copyFrom_22 0 rfl ?_
  refine z_ishr B dX10_copyFrom_24 ?_
  refine z_top (st1 := [.int 31]) (congrArg (fun w9 : Int32 => ([.int w9] : List Value)) (show ((510 : Int32) >>> ((4 : Int32) &&& (31 : Int32)) : Int32) = 31 by decide +kernel)) ?_
  refine z_iconst (v := 1) B dX10_copyFrom_25 rfl ?_
  refine z_iand B dX10_copyFrom_26 ?_
  refine z_top (st1 := [.int 1]) (congrArg (fun w9 : Int32 => ([.int w9] : List Value)) (show (31 &&& 1 : Int32) = 1 by decide +kernel)) ?_
  refine z_iconst (v := 1) B dX10_copyFrom_27 rfl ?_
  refine z_icmp_ne (tgt := 37) B dX10_copyFrom_28 rfl (fun h9 => absurd (by decide) h9) (fun c_10 => ?_)
  refine z_aload_n B dX10_copyFrom_31 rfl 2 rfl ?_
  refine z_iload B dX10_copyFrom_32 0 rfl ?_
  have h_31 : Φ9 h = some (o_ 12 [.ref f, .int 3, .int 14, .int 4]) := ((fr9 h).trans h_28)
  have h_32 : Φ9 f = some (ai_ G 9 (upd (upd (upd g (0 : Int32).toNatClampNeg 1) (1 : Int32).toNatClampNeg 2) (2 : Int32).toNatClampNeg 3)) := ((fr9 f).trans h_27)
  refine z_callV (As := [.int 4]) (rest := []) B (c_X10_addField G l Φ9 sz h f 3 14 4 (upd (upd (upd g (0 : Int32).toNatClampNeg 1) (1 : Int32).toNatClampNeg 2) (2 : Int32).toNatClampNeg 3) 4 h_31 h_32 hne_h_f hna_h hna_f (by decide) (by decide) (by decide) (by decide) (vin rfl) (vin rfl)) (cwV 1 B.1.2.2.2.2 gX10_copyFrom_X10_addField rfl rfl rfl (by decide +kernel) ⟨Nat.le_of_ble_eq_true rfl, Nat.le_of_ble_eq_true rfl⟩) h_31 rfl rfl rfl rfl (Nat.le_of_ble_eq_true rfl) dX10_copyFrom_34 ⟨Nat.le_of_ble_eq_true rfl, Nat.le_of_ble_eq_true rfl⟩ (fun v10 Φ10 sz10 st10 hp10 hs10 => ?_)
  obtain ⟨rfl, hq10, fr10, h_33, h_34⟩ := hp10
  replace hq10 : sz10 = sz := hq10
  subst sz10
  replace hs10 : st10 = [] := hs10
  subst st10
  have h_35 : Φ10 f = some (ai_ G 9 (upd (upd (upd (upd g (0 : Int32).toNatClampNeg 1) (1 : Int32).toNatClampNeg 2) (2 : Int32).toNatClampNeg 3) (3 : Int32).toNatClampNeg 4)) := h_33
  have h_36 : Φ10 h = some (o_ 12 [.ref f, .int 4, .int 30, .int 8]) := h_34
  refine z_iinc (k := 1) (v := 5) (lv' := [(3, .int 5), (4, .int 4), (0, .ref h), (1, .ref h2), (2, .int 510)]) B dX10_copyFrom_37 rfl rfl (Nat.le_of_ble_eq_true rfl) rfl ?_
  refine z_goto (tgt := 6) B dX10_copyFrom_40 rfl ?_
  refine z_iload_n B dX10_copyFrom_6 rfl 0 rfl ?_
  refine z_aload_n B dX10_copyFrom_7 rfl 3 rfl ?_
  have h_37 : Φ10 h2 = some (o_ 12 [.ref f2, .int 9, .int b2, .int d2]) := ((fr10 h2 hne_h2_f (Ne.symm hne_h_h2)).trans ((fr9 h2).trans h_29))
  refine z_get (ref := "FlowExporter$Template") (C := RX10) (T := TX10) (N := 4) (ci := 12) (v := .int 9) B (by decide +kernel) rfl 1 (by decide) (by decide +kernel) rfl h_37 rfl dX10_copyFrom_8 ?_
  refine z_icmp_ge (tgt := 43) B dX10_copyFrom_11 rfl (fun h9 => absurd h9 (by decide)) (fun c_11 => ?_)
  refine z_aload_n B dX10_copyFrom_14 rfl 3 rfl ?_
  refine z_iload_n B dX10_copyFrom_15 rfl 0 rfl ?_
  have h_38 : Φ10 f2 = some (ai_ G 9 g2) := ((fr10 f2 (Ne.symm hne_f_f2) (Ne.symm hne_h_f2)).trans ((fr9 f2).trans h_30))
  refine z_callV (As := [.int 5]) (rest := []) B (c_X10_field G l Φ10 sz h2 f2 9 b2 d2 g2 5 h_37 h_38 (by decide) (by decide) (vin rfl)) (cwV 1 B.1.2.2.2.2 gX10_copyFrom_X10_field rfl rfl rfl (by decide +kernel) ⟨Nat.le_of_ble_eq_true rfl, Nat.le_of_ble_eq_true rfl⟩) h_37 rfl rfl rfl rfl (Nat.le_of_ble_eq_true rfl) dX10_copyFrom_16 ⟨Nat.le_of_ble_eq_true rfl, Nat.le_of_ble_eq_true rfl⟩ (fun v11 Φ11 sz11 st11 hp11 hs11 => ?_)
  obtain ⟨rfl, hq11, fr11⟩ := hp11
  replace hq11 : sz11 = sz := hq11
  subst sz11
  replace hs11 : st11 = [.int (g2 (5 : Int32).toNatClampNeg)] := hs11
  subst st11
  refine z_top (st1 := [.int 5]) (by rw [show g2 ((5 : Int32).toNatClampNeg) = 5 from hg5]) ?_
  refine z_istore (lv' := [(4, .int 5), (3, .int 5), (0, .ref h), (1, .ref h2), (2, .int 510)]) B dX10_copyFrom_19 (Nat.le_of_ble_eq_true rfl) rfl ?_
  refine z_iload_n B dX10_copyFrom_21 rfl 4 rfl ?_
  refine z_iload B dX10_copyFrom_22 0 rfl ?_
  refine z_ishr B dX10_copyFrom_24 ?_
  refine z_top (st1 := [.int 15]) (congrArg (fun w9 : Int32 => ([.int w9] : List Value)) (show ((510 : Int32) >>> ((5 : Int32) &&& (31 : Int32)) : Int32) = 15 by decide +kernel)) ?_
  refine z_iconst (v := 1) B dX10_copyFrom_25 rfl ?_
  refine z_iand B dX10_copyFrom_26 ?_
  refine z_top (st1 := [.int 1]) (congrArg (fun w9 : Int32 => ([.int w9] : List Value)) (show (15 &&& 1 : Int32) = 1 by decide +kernel)) ?_
  refine z_iconst (v := 1) B dX10_copyFrom_27 rfl ?_
  refine z_icmp_ne (tgt := 37) B dX10_copyFrom_28 rfl (fun h9 => absurd (by decide) h9) (fun c_12 => ?_)
  refine z_aload_n B dX10_copyFrom_31 rfl 2 rfl ?_
  refine z_iload B dX10_copyFrom_32 0 rfl ?_
  have h_39 : Φ11 h = some (o_ 12 [.ref f, .int 4, .int 30, .int 8]) := ((fr11 h).trans h_36)
  have h_40 : Φ11 f = some (ai_ G 9 (upd (upd (upd (upd g (0 : Int32).toNatClampNeg 1) (1 : Int32).toNatClampNeg 2) (2 : Int32).toNatClampNeg 3) (3 : Int32).toNatClampNeg 4)) := ((fr11 f).trans h_35)
  refine z_callV (As := [.int 5]) (rest := []) B (c_X10_addField G l Φ11 sz h f 4 30 8 (upd (upd (upd (upd g (0 : Int32).toNatClampNeg 1) (1 : Int32).toNatClampNeg 2) (2 : Int32).toNatClampNeg 3) (3 : Int32).toNatClampNeg 4) 5 h_39 h_40 hne_h_f hna_h hna_f (by decide) (by decide) (by decide) (by decide) (vin rfl) (vin rfl)) (cwV 1 B.1.2.2.2.2 gX10_copyFrom_X10_addField rfl rfl rfl (by decide +kernel) ⟨Nat.le_of_ble_eq_true rfl, Nat.le_of_ble_eq_true rfl⟩) h_39 rfl rfl rfl rfl (Nat.le_of_ble_eq_true rfl) dX10_copyFrom_34 ⟨Nat.le_of_ble_eq_true rfl, Nat.le_of_ble_eq_true rfl⟩ (fun v12 Φ12 sz12 st12 hp12 hs12 => ?_)
  obtain ⟨rfl, hq12, fr12, h_41, h_42⟩ := hp12
  replace hq12 : sz12 = sz := hq12
  subst sz12
  replace hs12 : st12 = [] := hs12
  subst st12
  have h_43 : Φ12 f = some (ai_ G 9 (upd (upd (upd (upd (upd g (0 : Int32).toNatClampNeg 1) (1 : Int32).toNatClampNeg 2) (2 : Int32).toNatClampNeg 3) (3 : Int32).toNatClampNeg 4) (4 : Int32).toNatClampNeg 5)) := h_41
  have h_44 : Φ12 h = some (o_ 12 [.ref f, .int 5, .int 62, .int 16]) := h_42
  refine z_iinc (k := 1) (v := 6) (lv' := [(3, .int 6), (4, .int 5), (0, .ref h), (1, .ref h2), (2, .int 510)]) B dX10_copyFrom_37 rfl rfl (Nat.le_of_ble_eq_true rfl) rfl ?_
  refine z_goto (tgt := 6) B dX10_copyFrom_40 rfl ?_
  refine z_iload_n B dX10_copyFrom_6 rfl 0 rfl ?_
  refine z_aload_n B dX10_copyFrom_7 rfl 3 rfl ?_
  have h_45 : Φ12 h2 = some (o_ 12 [.ref f2, .int 9, .int b2, .int d2]) := ((fr12 h2 hne_h2_f (Ne.symm hne_h_h2)).trans ((fr11 h2).trans h_37))
  refine z_get (ref := "FlowExporter$Template") (C := RX10) (T := TX10) (N := 4) (ci := 12) (v := .int 9) B (by decide +kernel) rfl 1 (by decide) (by decide +kernel) rfl h_45 rfl dX10_copyFrom_8 ?_
  refine z_icmp_ge (tgt := 43) B dX10_copyFrom_11 rfl (fun h9 => absurd h9 (by decide)) (fun c_13 => ?_)
  refine z_aload_n B dX10_copyFrom_14 rfl 3 rfl ?_
  refine z_iload_n B dX10_copyFrom_15 rfl 0 rfl ?_
  have h_46 : Φ12 f2 = some (ai_ G 9 g2) := ((fr12 f2 (Ne.symm hne_f_f2) (Ne.symm hne_h_f2)).trans ((fr11 f2).trans h_38))
  refine z_callV (As := [.int 6]) (rest := []) B (c_X10_field G l Φ12 sz h2 f2 9 b2 d2 g2 6 h_45 h_46 (by decide) (by decide) (vin rfl)) (cwV 1 B.1.2.2.2.2 gX10_copyFrom_X10_field rfl rfl rfl (by decide +kernel) ⟨Nat.le_of_ble_eq_true rfl, Nat.le_of_ble_eq_true rfl⟩) h_45 rfl rfl rfl rfl (Nat.le_of_ble_eq_true rfl) dX10_copyFrom_16 ⟨Nat.le_of_ble_eq_true rfl, Nat.le_of_ble_eq_true rfl⟩ (fun v13 Φ13 sz13 st13 hp13 hs13 => ?_)
  obtain ⟨rfl, hq13, fr13⟩ := hp13
  replace hq13 : sz13 = sz := hq13
  subst sz13
  replace hs13 : st13 = [.int (g2 (6 : Int32).toNatClampNeg)] := hs13
  subst st13
  refine z_top (st1 := [.int 6]) (by rw [show g2 ((6 : Int32).toNatClampNeg) = 6 from hg6]) ?_
  refine z_istore (lv' := [(4, .int 6), (3, .int 6), (0, .ref h), (1, .ref h2), (2, .int 510)]) B dX10_copyFrom_19 (Nat.le_of_ble_eq_true rfl) rfl ?_
  refine z_iload_n B dX10_copyFrom_21 rfl 4 rfl ?_
  refine z_iload B dX10_copyFrom_22 0 rfl ?_
  refine z_ishr B dX10_copyFrom_24 ?_
  refine z_top (st1 := [.int 7]) (congrArg (fun w9 : Int32 => ([.int w9] : List Value)) (show ((510 : Int32) >>> ((6 : Int32) &&& (31 : Int32)) : Int32) = 7 by decide +kernel)) ?_
  refine z_iconst (v := 1) B dX10_copyFrom_25 rfl ?_
  refine z_iand B dX10_copyFrom_26 ?_
  refine z_top (st1 := [.int 1]) (congrArg (fun w9 : Int32 => ([.int w9] : List Value)) (show (7 &&& 1 : Int32) = 1 by decide +kernel)) ?_
  refine z_iconst (v := 1) B dX10_copyFrom_27 rfl ?_
  refine z_icmp_ne (tgt := 37) B dX10_copyFrom_28 rfl (fun h9 => absurd (by decide) h9) (fun c_14 => ?_)
  refine z_aload_n B dX10_copyFrom_31 rfl 2 rfl ?_
  refine z_iload B dX10_copyFrom_32 0 rfl ?_
  have h_47 : Φ13 h = some (o_ 12 [.ref f, .int 5, .int 62, .int 16]) := ((fr13 h).trans h_44)
  have h_48 : Φ13 f = some (ai_ G 9 (upd (upd (upd (upd (upd g (0 : Int32).toNatClampNeg 1) (1 : Int32).toNatClampNeg 2) (2 : Int32).toNatClampNeg 3) (3 : Int32).toNatClampNeg 4) (4 : Int32).toNatClampNeg 5)) := ((fr13 f).trans h_43)
  refine z_callV (As := [.int 6]) (rest := []) B (c_X10_addField G l Φ13 sz h f 5 62 16 (upd (upd (upd (upd (upd g (0 : Int32).toNatClampNeg 1) (1 : Int32).toNatClampNeg 2) (2 : Int32).toNatClampNeg 3) (3 : Int32).toNatClampNeg 4) (4 : Int32).toNatClampNeg 5) 6 h_47 h_48 hne_h_f hna_h hna_f (by decide) (by decide) (by decide) (by decide) (vin rfl) (vin rfl)) (cwV 1 B.1.2.2.2.2 gX10_copyFrom_X10_addField rfl rfl rfl (by decide +kernel) ⟨Nat.le_of_ble_eq_true rfl, Nat.le_of_ble_eq_true rfl⟩) h_47 rfl rfl rfl rfl (Nat.le_of_ble_eq_true rfl) dX10_copyFrom_34 ⟨Nat.le_of_ble_eq_true rfl, Nat.le_of_ble_eq_true rfl⟩ (fun v14 Φ14 sz14 st14 hp14 hs14 => ?_)
  obtain ⟨rfl, hq14, fr14, h_49, h_50⟩ := hp14
  replace hq14 : sz14 = sz := hq14
  subst sz14
  replace hs14 : st14 = [] := hs14
  subst st14
  have h_51 : Φ14 f = some (ai_ G 9 (upd (upd (upd (upd (upd (upd g (0 : Int32).toNatClampNeg 1) (1 : Int32).toNatClampNeg 2) (2 : Int32).toNatClampNeg 3) (3 : Int32).toNatClampNeg 4) (4 : Int32).toNatClampNeg 5) (5 : Int32).toNatClampNeg 6)) := h_49
  have h_52 : Φ14 h = some (o_ 12 [.ref f, .int 6, .int 126, .int 20]) := h_50
  refine z_iinc (k := 1) (v := 7) (lv' := [(3, .int 7), (4, .int 6), (0, .ref h), (1, .ref h2), (2, .int 510)]) B dX10_copyFrom_37 rfl rfl (Nat.le_of_ble_eq_true rfl) rfl ?_
  refine z_goto (tgt := 6) B dX10_copyFrom_40 rfl ?_
  refine z_iload_n B dX10_copyFrom_6 rfl 0 rfl ?_
  refine z_aload_n B dX10_copyFrom_7 rfl 3 rfl ?_
  have h_53 : Φ14 h2 = some (o_ 12 [.ref f2, .int 9, .int b2, .int d2]) := ((fr14 h2 hne_h2_f (Ne.symm hne_h_h2)).trans ((fr13 h2).trans h_45))
  refine z_get (ref := "FlowExporter$Template") (C := RX10) (T := TX10) (N := 4) (ci := 12) (v := .int 9) B (by decide +kernel) rfl 1 (by decide) (by decide +kernel) rfl h_53 rfl dX10_copyFrom_8 ?_
  refine z_icmp_ge (tgt := 43) B dX10_copyFrom_11 rfl (fun h9 => absurd h9 (by decide)) (fun c_15 => ?_)
  refine z_aload_n B dX10_copyFrom_14 rfl 3 rfl ?_
  refine z_iload_n B dX10_copyFrom_15 rfl 0 rfl ?_
  have h_54 : Φ14 f2 = some (ai_ G 9 g2) := ((fr14 f2 (Ne.symm hne_f_f2) (Ne.symm hne_h_f2)).trans ((fr13 f2).trans h_46))
  refine z_callV (As := [.int 7]) (rest := []) B (c_X10_field G l Φ14 sz h2 f2 9 b2 d2 g2 7 h_53 h_54 (by decide) (by decide) (vin rfl)) (cwV 1 B.1.2.2.2.2 gX10_copyFrom_X10_field rfl rfl rfl (by decide +kernel) ⟨Nat.le_of_ble_eq_true rfl, Nat.le_of_ble_eq_true rfl⟩) h_53 rfl rfl rfl rfl (Nat.le_of_ble_eq_true rfl) dX10_copyFrom_16 ⟨Nat.le_of_ble_eq_true rfl, Nat.le_of_ble_eq_true rfl⟩ (fun v15 Φ15 sz15 st15 hp15 hs15 => ?_)
  obtain ⟨rfl, hq15, fr15⟩ := hp15
  replace hq15 : sz15 = sz := hq15
  subst sz15
  replace hs15 : st15 = [.int (g2 (7 : Int32).toNatClampNeg)] := hs15
  subst st15
  refine z_top (st1 := [.int 7]) (by rw [show g2 ((7 : Int32).toNatClampNeg) = 7 from hg7]) ?_
  refine z_istore (lv' := [(4, .int 7), (3, .int 7), (0, .ref h), (1, .ref h2), (2, .int 510)]) B dX10_copyFrom_19 (Nat.le_of_ble_eq_true rfl) rfl ?_
  refine z_iload_n B dX10_copyFrom_21 rfl 4 rfl ?_
  refine z_iload B dX10_copyFrom_22 0 rfl ?_
  refine z_ishr B dX10_copyFrom_24 ?_
  refine z_top (st1 := [.int 3]) (congrArg (fun w9 : Int32 => ([.int w9] : List Value)) (show ((510 : Int32) >>> ((7 : Int32) &&& (31 : Int32)) : Int32) = 3 by decide +kernel)) ?_
  refine z_iconst (v := 1) B dX10_copyFrom_25 rfl ?_
  refine z_iand B dX10_copyFrom_26 ?_
  refine z_top (st1 := [.int 1]) (congrArg (fun w9 : Int32 => ([.int w9] : List Value)) (show (3 &&& 1 : Int32) = 1 by decide +kernel)) ?_
  refine z_iconst (v := 1) B dX10_copyFrom_27 rfl ?_
  refine z_icmp_ne (tgt := 37) B dX10_copyFrom_28 rfl (fun h9 => absurd (by decide) h9) (fun c_16 => ?_)
  refine z_aload_n B dX10_copyFrom_31 rfl 2 rfl ?_
  refine z_iload B dX10_copyFrom_32 0 rfl ?_
  have h_55 : Φ15 h = some (o_ 12 [.ref f, .int 6, .int 126, .int 20]) := ((fr15 h).trans h_52)
  have h_56 : Φ15 f = some (ai_ G 9 (upd (upd (upd (upd (upd (upd g (0 : Int32).toNatClampNeg 1) (1 : Int32).toNatClampNeg 2) (2 : Int32).toNatClampNeg 3) (3 : Int32).toNatClampNeg 4) (4 : Int32).toNatClampNeg 5) (5 : Int32).toNatClampNeg 6)) := ((fr15 f).trans h_51)
  refine z_callV (As := [.int 7]) (rest := []) B (c_X10_addField G l Φ15 sz h f 6 126 20 (upd (upd (upd (upd (upd (upd g (0 : Int32).toNatClampNeg 1) (1 : Int32).toNatClampNeg 2) (2 : Int32).toNatClampNeg 3) (3 : Int32).toNatClampNeg 4) (4 : Int32).toNatClampNeg 5) (5 : Int32).toNatClampNeg 6) 7 h_55 h_56 hne_h_f hna_h hna_f (by decide) (by decide) (by decide) (by decide) (vin rfl) (vin rfl)) (cwV 1 B.1.2.2.2.2 gX10_copyFrom_X10_addField rfl rfl rfl (by decide +kernel) ⟨Nat.le_of_ble_eq_true rfl, Nat.le_of_ble_eq_true rfl⟩) h_55 rfl rfl rfl rfl (Nat.le_of_ble_eq_true rfl) dX10_copyFrom_34 ⟨Nat.le_of_ble_eq_true rfl, Nat.le_of_ble_eq_true rfl⟩ (fun v16 Φ16 sz16 st16 hp16 hs16 => ?_)
  obtain ⟨rfl, hq16, fr16, h_57, h_58⟩ := hp16
  replace hq16 : sz16 = sz := hq16
  subst sz16
  replace hs16 : st16 = [] := hs16
  subst st16
  have h_59 : Φ16 f = some (ai_ G 9 (upd (upd (upd (upd (upd (upd (upd g (0 : Int32).toNatClampNeg 1) (1 : Int32).toNatClampNeg 2) (2 : Int32).toNatClampNeg 3) (3 : Int32).toNatClampNeg 4) (4 : Int32).toNatClampNeg 5) (5 : Int32).toNatClampNeg 6) (6 : Int32).toNatClampNeg 7)) := h_57
  have h_60 : Φ16 h = some (o_ 12 [.ref f, .int 7, .int 254, .int 24]) := h_58
  refine z_iinc (k := 1) (v := 8) (lv' := [(3, .int 8), (4, .int 7), (0, .ref h), (1, .ref h2), (2, .int 510)]) B dX10_copyFrom_37 rfl rfl (Nat.le_of_ble_eq_true rfl) rfl ?_
  refine z_goto (tgt := 6) B dX10_copyFrom_40 rfl ?_
  refine z_iload_n B dX10_copyFrom_6 rfl 0 rfl ?_
  refine z_aload_n B dX10_copyFrom_7 rfl 3 rfl ?_
  have h_61 : Φ16 h2 = some (o_ 12 [.ref f2, .int 9, .int b2, .int d2]) := ((fr16 h2 hne_h2_f (Ne.symm hne_h_h2)).trans ((fr15 h2).trans h_53))
  refine z_get (ref := "FlowExporter$Template") (C := RX10) (T := TX10) (N := 4) (ci := 12) (v := .int 9) B (by decide +kernel) rfl 1 (by decide) (by decide +kernel) rfl h_61 rfl dX10_copyFrom_8 ?_
  refine z_icmp_ge (tgt := 43) B dX10_copyFrom_11 rfl (fun h9 => absurd h9 (by decide)) (fun c_17 => ?_)
  refine z_aload_n B dX10_copyFrom_14 rfl 3 rfl ?_
  refine z_iload_n B dX10_copyFrom_15 rfl 0 rfl ?_
  have h_62 : Φ16 f2 = some (ai_ G 9 g2) := ((fr16 f2 (Ne.symm hne_f_f2) (Ne.symm hne_h_f2)).trans ((fr15 f2).trans h_54))
  refine z_callV (As := [.int 8]) (rest := []) B (c_X10_field G l Φ16 sz h2 f2 9 b2 d2 g2 8 h_61 h_62 (by decide) (by decide) (vin rfl)) (cwV 1 B.1.2.2.2.2 gX10_copyFrom_X10_field rfl rfl rfl (by decide +kernel) ⟨Nat.le_of_ble_eq_true rfl, Nat.le_of_ble_eq_true rfl⟩) h_61 rfl rfl rfl rfl (Nat.le_of_ble_eq_true rfl) dX10_copyFrom_16 ⟨Nat.le_of_ble_eq_true rfl, Nat.le_of_ble_eq_true rfl⟩ (fun v17 Φ17 sz17 st17 hp17 hs17 => ?_)
  obtain ⟨rfl, hq17, fr17⟩ := hp17
  replace hq17 : sz17 = sz := hq17
  subst sz17
  replace hs17 : st17 = [.int (g2 (8 : Int32).toNatClampNeg)] := hs17
  subst st17
  refine z_top (st1 := [.int 8]) (by rw [show g2 ((8 : Int32).toNatClampNeg) = 8 from hg8]) ?_
  refine z_istore (lv' := [(4, .int 8), (3, .int 8), (0, .ref h), (1, .ref h2), (2, .int 510)]) B dX10_copyFrom_19 (Nat.le_of_ble_eq_true rfl) rfl ?_
  refine z_iload_n B dX10_copyFrom_21 rfl 4 rfl ?_
  refine z_iload B dX10_copyFrom_22 0 rfl ?_
  refine z_ishr B dX10_copyFrom_24 ?_
  refine z_top (st1 := [.int 1]) (congrArg (fun w9 : Int32 => ([.int w9] : List Value)) (show ((510 : Int32) >>> ((8 : Int32) &&& (31 : Int32)) : Int32) = 1 by decide +kernel)) ?_
  refine z_iconst (v := 1) B dX10_copyFrom_25 rfl ?_
  refine z_iand B dX10_copyFrom_26 ?_
  refine z_top (st1 := [.int 1]) (congrArg (fun w9 : Int32 => ([.int w9] : List Value)) (show (1 &&& 1 : Int32) = 1 by decide +kernel)) ?_
  refine z_iconst (v := 1) B dX10_copyFrom_27 rfl ?_
  refine z_icmp_ne (tgt := 37) B dX10_copyFrom_28 rfl (fun h9 => absurd (by decide) h9) (fun c_18 => ?_)
  refine z_aload_n B dX10_copyFrom_31 rfl 2 rfl ?_
  refine z_iload B dX10_copyFrom_32 0 rfl ?_
  have h_63 : Φ17 h = some (o_ 12 [.ref f, .int 7, .int 254, .int 24]) := ((fr17 h).trans h_60)
  have h_64 : Φ17 f = some (ai_ G 9 (upd (upd (upd (upd (upd (upd (upd g (0 : Int32).toNatClampNeg 1) (1 : Int32).toNatClampNeg 2) (2 : Int32).toNatClampNeg 3) (3 : Int32).toNatClampNeg 4) (4 : Int32).toNatClampNeg 5) (5 : Int32).toNatClampNeg 6) (6 : Int32).toNatClampNeg 7)) := ((fr17 f).trans h_59)
  refine z_callV (As := [.int 8]) (rest := []) B (c_X10_addField G l Φ17 sz h f 7 254 24 (upd (upd (upd (upd (upd (upd (upd g (0 : Int32).toNatClampNeg 1) (1 : Int32).toNatClampNeg 2) (2 : Int32).toNatClampNeg 3) (3 : Int32).toNatClampNeg 4) (4 : Int32).toNatClampNeg 5) (5 : Int32).toNatClampNeg 6) (6 : Int32).toNatClampNeg 7) 8 h_63 h_64 hne_h_f hna_h hna_f (by decide) (by decide) (by decide) (by decide) (vin rfl) (vin rfl)) (cwV 1 B.1.2.2.2.2 gX10_copyFrom_X10_addField rfl rfl rfl (by decide +kernel) ⟨Nat.le_of_ble_eq_true rfl, Nat.le_of_ble_eq_true rfl⟩) h_63 rfl rfl rfl rfl (Nat.le_of_ble_eq_true rfl) dX10_copyFrom_34 ⟨Nat.le_of_ble_eq_true rfl, Nat.le_of_ble_eq_true rfl⟩ (fun v18 Φ18 sz18 st18 hp18 hs18 => ?_)
  obtain ⟨rfl, hq18, fr18, h_65, h_66⟩ := hp18
  replace hq18 : sz18 = sz := hq18
  subst sz18
  replace hs18 : st18 = [] := hs18
  subst st18
  have h_67 : Φ18 f = some (ai_ G 9 (upd (upd (upd (upd (upd (upd (upd (upd g (0 : Int32).toNatClampNeg 1) (1 : Int32).toNatClampNeg 2) (2 : Int32).toNatClampNeg 3) (3 : Int32).toNatClampNeg 4) (4 : Int32).toNatClampNeg 5) (5 : Int32).toNatClampNeg 6) (6 : Int32).toNatClampNeg 7) (7 : Int32).toNatClampNeg 8)) := h_65
  have h_68 : Φ18 h = some (o_ 12 [.ref f, .int 8, .int 510, .int 28]) := h_66
  refine z_iinc (k := 1) (v := 9) (lv' := [(3, .int 9), (4, .int 8), (0, .ref h), (1, .ref h2), (2, .int 510)]) B dX10_copyFrom_37 rfl rfl (Nat.le_of_ble_eq_true rfl) rfl ?_
  refine z_goto (tgt := 6) B dX10_copyFrom_40 rfl ?_
  refine z_iload_n B dX10_copyFrom_6 rfl 0 rfl ?_
  refine z_aload_n B dX10_copyFrom_7 rfl 3 rfl ?_
  have h_69 : Φ18 h2 = some (o_ 12 [.ref f2, .int 9, .int b2, .int d2]) := ((fr18 h2 hne_h2_f (Ne.symm hne_h_h2)).trans ((fr17 h2).trans h_61))
  refine z_get (ref := "FlowExporter$Template") (C := RX10) (T := TX10) (N := 4) (ci := 12) (v := .int 9) B (by decide +kernel) rfl 1 (by decide) (by decide +kernel) rfl h_69 rfl dX10_copyFrom_8 ?_
  refine z_icmp_ge (tgt := 43) B dX10_copyFrom_11 rfl (fun c_19 => ?_) (fun h9 => absurd (by decide) h9)
  exact z_ret_v B dX10_copyFrom_43 ⟨rfl, rfl, (fun b9 h9a h9b => ((fr18 b9 h9a h9b).trans ((fr17 b9).trans ((fr16 b9 h9a h9b).trans ((fr15 b9).trans ((fr14 b9 h9a h9b).trans ((fr13 b9).trans ((fr12 b9 h9a h9b).trans ((fr11 b9).trans ((fr10 b9 h9a h9b).trans ((fr9 b9).trans ((fr8 b9 h9a h9b).trans ((fr7 b9).trans ((fr6 b9 h9a h9b).trans ((fr5 b9).trans ((fr4 b9 h9a h9b).trans ((fr3 b9).trans ((fr2 b9).trans ((fr1 b9 h9b).trans rfl))))))))))))))))))), h_67, h_68⟩

set_option maxHeartbeats 4000000 in
set_option maxRecDepth 100000 in
theorem c_X10_copyFrom_z0 (G : EnvG) (l : Launch) (Φ : Hm) (sz : Nat) (h : Nat) (f : Nat) (a : Int32) (b : Int32) (d : Int32) (h2 : Nat) (f2 : Nat) (b2 : Int32) (d2 : Int32) (hc0 : Φ h = some (o_ 12 [.ref f, .int a, .int b, .int d])) (hc1 : Φ h2 = some (o_ 12 [.ref f2, .int 0, .int b2, .int d2])) (hne_h_h2 : h ≠ h2) (hna_h : G.2.2.2 ≤ h) : Ct G l yX10_copyFrom wsX10_copyFrom ({ frames := 1, cells := 0, slots := 0, locals := 20 }) 0 0 [.ref h, .ref h2, .int 510] Φ sz (fun v Φ1 sz1 => v = none ∧ sz1 = sz ∧ (∀ b9 : Nat, b9 ≠ h → Φ1 b9 = Φ b9) ∧ Φ1 h = some (o_ 12 [.ref f, .int 0, .int 0, .int 0])) := by
  refine Ct.of (cc := cX10_copyFrom) (maxL := 5) (ret := none) (by decide) rfl (Nat.le_of_ble_eq_true rfl) ?_
  intro p9 e9 s9 m9 w9 t9 k9 B
  show Z p9 l e9 _ s9 m9 _ w9 t9 k9 _ G 5 0 [(0, .ref h), (1, .ref h2), (2, .int 510)] [] Φ (sz) 0 0
  refine z_aload_n B dX10_copyFrom_0 rfl 0 rfl ?_
  refine z_callV (As := []) (rest := []) B (c_X10_clear G l Φ sz h f a b d hc0 hna_h) (cwV 0 B.1.2.2.2.2 gX10_copyFrom_X10_clear rfl rfl rfl (by decide +kernel) ⟨Nat.le_of_ble_eq_true rfl, Nat.le_of_ble_eq_true rfl⟩) hc0 rfl rfl rfl rfl (Nat.le_of_ble_eq_true rfl) dX10_copyFrom_1 ⟨Nat.le_of_ble_eq_true rfl, Nat.le_of_ble_eq_true rfl⟩ (fun v1 Φ1 sz1 st1 hp1 hs1 => ?_)
  obtain ⟨rfl, hq1, fr1, h_1⟩ := hp1
  replace hq1 : sz1 = sz := hq1
  subst sz1
  replace hs1 : st1 = [] := hs1
  subst st1
  have h_2 : Φ1 h = some (o_ 12 [.ref f, .int 0, .int 0, .int 0]) := h_1
  refine z_iconst (v := 0) B dX10_copyFrom_4 rfl ?_
  refine z_istore_n (lv' := [(3, .int 0), (0, .ref h), (1, .ref h2), (2, .int 510)]) B dX10_copyFrom_5 rfl (Nat.le_of_ble_eq_true rfl) rfl ?_
  refine z_iload_n B dX10_copyFrom_6 rfl 0 rfl ?_
  refine z_aload_n B dX10_copyFrom_7 rfl 2 rfl ?_
  have h_3 : Φ1 h2 = some (o_ 12 [.ref f2, .int 0, .int b2, .int d2]) := ((fr1 h2 (Ne.symm hne_h_h2)).trans hc1)
  refine z_get (ref := "FlowExporter$Template") (C := RX10) (T := TX10) (N := 4) (ci := 12) (v := .int 0) B (by decide +kernel) rfl 1 (by decide) (by decide +kernel) rfl h_3 rfl dX10_copyFrom_8 ?_
  refine z_icmp_ge (tgt := 43) B dX10_copyFrom_11 rfl (fun c_1 => ?_) (fun h9 => absurd (by decide) h9)
  exact z_ret_v B dX10_copyFrom_43 ⟨rfl, rfl, (fun b9 h9a => ((fr1 b9 h9a).trans rfl)), h_2⟩

set_option maxHeartbeats 4000000 in
set_option maxRecDepth 100000 in
theorem f_X1_support_s0 (G : EnvG) (l : Launch) (Φ : Hm) (sz : Nat) (x : Nat) (hc3_ : Φ (x + 3) = some (o_ 3 [.ref (x + 4), .ref (x + 5), .ref (x + 6), .ref (x + 7), .int 1, .int 511])) (hc6_ : Φ (x + 6) = some (aq_ G 4 4 (va_up (va_up (va_up (va_up (fun _ => none) (0 : Int32).toNatClampNeg (some (x + 8))) (1 : Int32).toNatClampNeg (some (x + 12))) (2 : Int32).toNatClampNeg (some (x + 16))) (3 : Int32).toNatClampNeg (some (x + 20))))) (hc7_ : Φ (x + 7) = some (aq_ G 4 4 (va_up (va_up (va_up (va_up (fun _ => none) (0 : Int32).toNatClampNeg (some (x + 10))) (1 : Int32).toNatClampNeg (some (x + 14))) (2 : Int32).toNatClampNeg (some (x + 18))) (3 : Int32).toNatClampNeg (some (x + 22))))) (hc8_ : Φ (x + 8) = some (o_ 12 [.ref (x + 9), .int 9, .int 511, .int 29])) (hc9_ : Φ (x + 9) = some (ai_ G 9 (upd (upd (upd (upd (upd (upd (upd (upd (upd (fun _ => 0) (0 : Int32).toNatClampNeg 0) (1 : Int32).toNatClampNeg 1) (2 : Int32).toNatClampNeg 2) (3 : Int32).toNatClampNeg 3) (4 : Int32).toNatClampNeg 4) (5 : Int32).toNatClampNeg 5) (6 : Int32).toNatClampNeg 6) (7 : Int32).toNatClampNeg 7) (8 : Int32).toNatClampNeg 8))) (hc10_ : Φ (x + 10) = some (o_ 12 [.ref (x + 11), .int 9, .int 511, .int 29])) (hc11_ : Φ (x + 11) = some (ai_ G 9 (upd (upd (upd (upd (upd (upd (upd (upd (upd (fun _ => 0) (0 : Int32).toNatClampNeg 0) (1 : Int32).toNatClampNeg 1) (2 : Int32).toNatClampNeg 2) (3 : Int32).toNatClampNeg 3) (4 : Int32).toNatClampNeg 4) (5 : Int32).toNatClampNeg 5) (6 : Int32).toNatClampNeg 6) (7 : Int32).toNatClampNeg 7) (8 : Int32).toNatClampNeg 8))) (hc12_ : Φ (x + 12) = some (o_ 12 [.ref (x + 13), .int 0, .int 0, .int 0])) (hc14_ : Φ (x + 14) = some (o_ 12 [.ref (x + 15), .int 0, .int 0, .int 0])) (hc16_ : Φ (x + 16) = some (o_ 12 [.ref (x + 17), .int 0, .int 0, .int 0])) (hc18_ : Φ (x + 18) = some (o_ 12 [.ref (x + 19), .int 0, .int 0, .int 0])) (hc20_ : Φ (x + 20) = some (o_ 12 [.ref (x + 21), .int 0, .int 0, .int 0])) (hc22_ : Φ (x + 22) = some (o_ 12 [.ref (x + 23), .int 0, .int 0, .int 0])) (hna : G.2.2.2 ≤ x) : Ct G l yX1_support wsX1_support ({ frames := 2, cells := 0, slots := 0, locals := 45 }) 0 0 [.ref (x + 3), .int 510] Φ sz (fun v Φ1 sz1 => v = none ∧ sz1 = sz ∧ (∀ b9 : Nat, b9 ≠ x + 10 → b9 ≠ x + 11 → b9 ≠ x + 14 → b9 ≠ x + 18 → b9 ≠ x + 22 → b9 ≠ x + 3 → Φ1 b9 = Φ b9) ∧ Φ1 (x + 10) = some (o_ 12 [.ref (x + 11), .int 8, .int 510, .int 28]) ∧ Φ1 (x + 11) = some (ai_ G 9 (upd (upd (upd (upd (upd (upd (upd (upd (upd (upd (upd (upd (upd (upd (upd (upd (upd (fun _ => 0) (0 : Int32).toNatClampNeg 0) (1 : Int32).toNatClampNeg 1) (2 : Int32).toNatClampNeg 2) (3 : Int32).toNatClampNeg 3) (4 : Int32).toNatClampNeg 4) (5 : Int32).toNatClampNeg 5) (6 : Int32).toNatClampNeg 6) (7 : Int32).toNatClampNeg 7) (8 : Int32).toNatClampNeg 8) (0 : Int32).toNatClampNeg 1) (1 : Int32).toNatClampNeg 2) (2 : Int32).toNatClampNeg 3) (3 : Int32).toNatClampNeg 4) (4 : Int32).toNatClampNeg 5) (5 : Int32).toNatClampNeg 6) (6 : Int32).toNatClampNeg 7) (7 : Int32).toNatClampNeg 8)) ∧ Φ1 (x + 14) = some (o_ 12 [.ref (x + 15), .int 0, .int 0, .int 0]) ∧ Φ1 (x + 18) = some (o_ 12 [.ref (x + 19), .int 0, .int 0, .int 0]) ∧ Φ1 (x + 22) = some (o_ 12 [.ref (x + 23), .int 0, .int 0, .int 0]) ∧ Φ1 (x + 3) = some (o_ 3 [.ref (x + 4), .ref (x + 5), .ref (x + 6), .ref (x + 7), .int 1, .int 510])) := by
  refine Ct.of (cc := cX1_support) (maxL := 3) (ret := none) (by decide) rfl (Nat.le_of_ble_eq_true rfl) ?_
  intro p9 e9 s9 m9 w9 t9 k9 B
  show Z p9 l e9 _ s9 m9 _ w9 t9 k9 _ G 3 0 [(0, .ref (x + 3)), (1, .int 510)] [] Φ sz 0 0
  refine z_aload_n B dX1_support_0 rfl 0 rfl ?_
  refine z_iload_n B dX1_support_1 rfl 1 rfl ?_
  refine z_put (ref := "FlowExporter$Config") (C := RX1) (T := TX1) (N := 6) (ci := 3) (v := .int 510) B (by decide +kernel) tyX1 tyX1_ok nmX1 rfl 5 (by decide) (by decide +kernel) rfl (Or.inl rfl) hc3_ (Nat.le_trans hna (Nat.le_add_right x 3)) rfl rfl (Nat.le_of_ble_eq_true rfl) dX1_support_2 (fun Φ1 hΦ1 => ?_)
  have h_1 : Φ1 (x + 3) = some (o_ 3 [.ref (x + 4), .ref (x + 5), .ref (x + 6), .ref (x + 7), .int 1, .int 510]) := fset_at hΦ1
  refine z_iconst (v := 0) B dX1_support_5 rfl ?_
  refine z_istore_n (lv' := [(2, .int 0), (0, .ref (x + 3)), (1, .int 510)]) B dX1_support_6 rfl (Nat.le_of_ble_eq_true rfl) rfl ?_
  refine z_iload_n B dX1_support_7 rfl 0 rfl ?_
  refine z_iconst (v := 4) B dX1_support_8 rfl ?_
  refine z_icmp_ge (tgt := 34) B dX1_support_9 rfl (fun h9 => absurd h9 (by decide)) (fun c_1 => ?_)
  refine z_aload_n B dX1_support_12 rfl 1 rfl ?_
  refine z_get (ref := "FlowExporter$Config") (C := RX1) (T := TX1) (N := 6) (ci := 3) (v := .ref (x + 7)) B (by decide +kernel) rfl 3 (by decide) (by decide +kernel) rfl h_1 rfl dX1_support_13 ?_
  refine z_iload_n B dX1_support_16 rfl 0 rfl ?_
  have h_2 : Φ1 (x + 7) = some (aq_ G 4 4 (va_up (va_up (va_up (va_up (fun _ => none) (0 : Int32).toNatClampNeg (some (x + 10))) (1 : Int32).toNatClampNeg (some (x + 14))) (2 : Int32).toNatClampNeg (some (x + 18))) (3 : Int32).toNatClampNeg (some (x + 22)))) := ((fset_fr hΦ1 (ne_off (x := x) (i := 7) (j := 3) rfl)).trans hc7_)
  refine z_aald (b := x + 10) B rfl h_2 (vin rfl) rfl dX1_support_17 ?_
  refine z_aload_n B dX1_support_18 rfl 1 rfl ?_
  refine z_get (ref := "FlowExporter$Config") (C := RX1) (T := TX1) (N := 6) (ci := 3) (v := .ref (x + 6)) B (by decide +kernel) rfl 2 (by decide) (by decide +kernel) rfl h_1 rfl dX1_support_19 ?_
  refine z_iload_n B dX1_support_22 rfl 0 rfl ?_
  have h_3 : Φ1 (x + 6) = some (aq_ G 4 4 (va_up (va_up (va_up (va_up (fun _ => none) (0 : Int32).toNatClampNeg (some (x + 8))) (1 : Int32).toNatClampNeg (some (x + 12))) (2 : Int32).toNatClampNeg (some (x + 16))) (3 : Int32).toNatClampNeg (some (x + 20)))) := ((fset_fr hΦ1 (ne_off (x := x) (i := 6) (j := 3) rfl)).trans hc6_)
  refine z_aald (b := x + 8) B rfl h_3 (vin rfl) rfl dX1_support_23 ?_
  refine z_iload_n B dX1_support_24 rfl 2 rfl ?_
  have h_4 : Φ1 (x + 10) = some (o_ 12 [.ref (x + 11), .int 9, .int 511, .int 29]) := ((fset_fr hΦ1 (ne_off (x := x) (i := 10) (j := 3) rfl)).trans hc10_)
  have h_5 : Φ1 (x + 11) = some (ai_ G 9 (upd (upd (upd (upd (upd (upd (upd (upd (upd (fun _ => 0) (0 : Int32).toNatClampNeg 0) (1 : Int32).toNatClampNeg 1) (2 : Int32).toNatClampNeg 2) (3 : Int32).toNatClampNeg 3) (4 : Int32).toNatClampNeg 4) (5 : Int32).toNatClampNeg 5) (6 : Int32).toNatClampNeg 6) (7 : Int32).toNatClampNeg 7) (8 : Int32).toNatClampNeg 8)) := ((fset_fr hΦ1 (ne_off (x := x) (i := 11) (j := 3) rfl)).trans hc11_)
  have h_6 : Φ1 (x + 8) = some (o_ 12 [.ref (x + 9), .int 9, .int 511, .int 29]) := ((fset_fr hΦ1 (ne_off (x := x) (i := 8) (j := 3) rfl)).trans hc8_)
  have h_7 : Φ1 (x + 9) = some (ai_ G 9 (upd (upd (upd (upd (upd (upd (upd (upd (upd (fun _ => 0) (0 : Int32).toNatClampNeg 0) (1 : Int32).toNatClampNeg 1) (2 : Int32).toNatClampNeg 2) (3 : Int32).toNatClampNeg 3) (4 : Int32).toNatClampNeg 4) (5 : Int32).toNatClampNeg 5) (6 : Int32).toNatClampNeg 6) (7 : Int32).toNatClampNeg 7) (8 : Int32).toNatClampNeg 8)) := ((fset_fr hΦ1 (ne_off (x := x) (i := 9) (j := 3) rfl)).trans hc9_)
  refine z_callV (As := [.ref (x + 8), .int 510]) (rest := []) B (c_X10_copyFrom_s0 G l Φ1 sz (x + 10) (x + 11) 9 511 29 (upd (upd (upd (upd (upd (upd (upd (upd (upd (fun _ => 0) (0 : Int32).toNatClampNeg 0) (1 : Int32).toNatClampNeg 1) (2 : Int32).toNatClampNeg 2) (3 : Int32).toNatClampNeg 3) (4 : Int32).toNatClampNeg 4) (5 : Int32).toNatClampNeg 5) (6 : Int32).toNatClampNeg 6) (7 : Int32).toNatClampNeg 7) (8 : Int32).toNatClampNeg 8) (x + 8) (x + 9) 511 29 (upd (upd (upd (upd (upd (upd (upd (upd (upd (fun _ => 0) (0 : Int32).toNatClampNeg 0) (1 : Int32).toNatClampNeg 1) (2 : Int32).toNatClampNeg 2) (3 : Int32).toNatClampNeg 3) (4 : Int32).toNatClampNeg 4) (5 : Int32).toNatClampNeg 5) (6 : Int32).toNatClampNeg 6) (7 : Int32).toNatClampNeg 7) (8 : Int32).toNatClampNeg 8) h_4 h_5 h_6 h_7 (ne_off (x := x) (i := 10) (j := 8) rfl) (ne_off (x := x) (i := 11) (j := 9) rfl) (ne_off (x := x) (i := 10) (j := 11) rfl) (ne_off (x := x) (i := 8) (j := 11) rfl) (ne_off (x := x) (i := 10) (j := 9) rfl) (ne_off (x := x) (i := 8) (j := 9) rfl) (Nat.le_trans hna (Nat.le_add_right x 10)) (Nat.le_trans hna (Nat.le_add_right x 11)) rfl rfl rfl rfl rfl rfl rfl rfl rfl) (cwV 2 B.1.2.2.2.2 gX1_support_X10_copyFrom rfl rfl rfl (by decide +kernel) ⟨Nat.le_of_ble_eq_true rfl, Nat.le_of_ble_eq_true rfl⟩) h_4 rfl rfl rfl rfl (Nat.le_of_ble_eq_true rfl) dX1_support_25 ⟨Nat.le_of_ble_eq_true rfl, Nat.le_of_ble_eq_true rfl⟩ (fun v1 Φ2 sz1 st1 hp1 hs1 => ?_)
  obtain ⟨rfl, hq1, fr1, h_8, h_9⟩ := hp1
  replace hq1 : sz1 = sz := hq1
  subst sz1
  replace hs1 : st1 = [] := hs1
  subst st1
  have h_10 : Φ2 (x + 11) = some (ai_ G 9 (upd (upd (upd (upd (upd (upd (upd (upd (upd (upd (upd (upd (upd (upd (upd (upd (upd (fun _ => 0) (0 : Int32).toNatClampNeg 0) (1 : Int32).toNatClampNeg 1) (2 : Int32).toNatClampNeg 2) (3 : Int32).toNatClampNeg 3) (4 : Int32).toNatClampNeg 4) (5 : Int32).toNatClampNeg 5) (6 : Int32).toNatClampNeg 6) (7 : Int32).toNatClampNeg 7) (8 : Int32).toNatClampNeg 8) (0 : Int32).toNatClampNeg 1) (1 : Int32).toNatClampNeg 2) (2 : Int32).toNatClampNeg 3) (3 : Int32).toNatClampNeg 4) (4 : Int32).toNatClampNeg 5) (5 : Int32).toNatClampNeg 6) (6 : Int32).toNatClampNeg 7) (7 : Int32).toNatClampNeg 8)) := h_8
  have h_11 : Φ2 (x + 10) = some (o_ 12 [.ref (x + 11), .int 8, .int 510, .int 28]) := h_9
  refine z_iinc (k := 0) (v := 1) (lv' := [(2, .int 1), (0, .ref (x + 3)), (1, .int 510)]) B dX1_support_28 rfl rfl (Nat.le_of_ble_eq_true rfl) rfl ?_
  refine z_goto (tgt := 7) B dX1_support_31 rfl ?_
  refine z_iload_n B dX1_support_7 rfl 0 rfl ?_
  refine z_iconst (v := 4) B dX1_support_8 rfl ?_
  refine z_icmp_ge (tgt := 34) B dX1_support_9 rfl (fun h9 => absurd h9 (by decide)) (fun c_2 => ?_)
  refine z_aload_n B dX1_support_12 rfl 1 rfl ?_
  have h_12 : Φ2 (x + 3) = some (o_ 3 [.ref (x + 4), .ref (x + 5), .ref (x + 6), .ref (x + 7), .int 1, .int 510]) := ((fr1 (x + 3) (ne_off (x := x) (i := 3) (j := 11) rfl) (ne_off (x := x) (i := 3) (j := 10) rfl)).trans h_1)
  refine z_get (ref := "FlowExporter$Config") (C := RX1) (T := TX1) (N := 6) (ci := 3) (v := .ref (x + 7)) B (by decide +kernel) rfl 3 (by decide) (by decide +kernel) rfl h_12 rfl dX1_support_13 ?_
  refine z_iload_n B dX1_support_16 rfl 0 rfl ?_
  have h_13 : Φ2 (x + 7) = some (aq_ G 4 4 (va_up (va_up (va_up (va_up (fun _ => none) (0 : Int32).toNatClampNeg (some (x + 10))) (1 : Int32).toNatClampNeg (some (x + 14))) (2 : Int32).toNatClampNeg (some (x + 18))) (3 : Int32).toNatClampNeg (some (x + 22)))) := ((fr1 (x + 7) (ne_off (x := x) (i := 7) (j := 11) rfl) (ne_off (x := x) (i := 7) (j := 10) rfl)).trans h_2)
  refine z_aald (b := x + 14) B rfl h_13 (vin rfl) rfl dX1_support_17 ?_
  refine z_aload_n B dX1_support_18 rfl 1 rfl ?_
  refine z_get (ref := "FlowExporter$Config") (C := RX1) (T := TX1) (N := 6) (ci := 3) (v := .ref (x + 6)) B (by decide +kernel) rfl 2 (by decide) (by decide +kernel) rfl h_12 rfl dX1_support_19 ?_
  refine z_iload_n B dX1_support_22 rfl 0 rfl ?_
  have h_14 : Φ2 (x + 6) = some (aq_ G 4 4 (va_up (va_up (va_up (va_up (fun _ => none) (0 : Int32).toNatClampNeg (some (x + 8))) (1 : Int32).toNatClampNeg (some (x + 12))) (2 : Int32).toNatClampNeg (some (x + 16))) (3 : Int32).toNatClampNeg (some (x + 20)))) := ((fr1 (x + 6) (ne_off (x := x) (i := 6) (j := 11) rfl) (ne_off (x := x) (i := 6) (j := 10) rfl)).trans h_3)
  refine z_aald (b := x + 12) B rfl h_14 (vin rfl) rfl dX1_support_23 ?_
  refine z_iload_n B dX1_support_24 rfl 2 rfl ?_
  have h_15 : Φ2 (x + 14) = some (o_ 12 [.ref (x + 15), .int 0, .int 0, .int 0]) := ((fr1 (x + 14) (ne_off (x := x) (i := 14) (j := 11) rfl) (ne_off (x := x) (i := 14) (j := 10) rfl)).trans ((fset_fr hΦ1 (ne_off (x := x) (i := 14) (j := 3) rfl)).trans hc14_))
  have h_16 : Φ2 (x + 12) = some (o_ 12 [.ref (x + 13), .int 0, .int 0, .int 0]) := ((fr1 (x + 12) (ne_off (x := x) (i := 12) (j := 11) rfl) (ne_off (x := x) (i := 12) (j := 10) rfl)).trans ((fset_fr hΦ1 (ne_off (x := x) (i := 12) (j := 3) rfl)).trans hc12_))
  refine z_callV (As := [.ref (x + 12), .int 510]) (rest := []) B (c_X10_copyFrom_z0 G l Φ2 sz (x + 14) (x + 15) 0 0 0 (x + 12) (x + 13) 0 0 h_15 h_16 (ne_off (x := x) (i := 14) (j := 12) rfl) (Nat.le_trans hna (Nat.le_add_right x 14))) (cwV 2 B.1.2.2.2.2 gX1_support_X10_copyFrom rfl rfl rfl (by decide +kernel) ⟨Nat.le_of_ble_eq_true rfl, Nat.le_of_ble_eq_true rfl⟩) h_15 rfl rfl rfl rfl (Nat.le_of_ble_eq_true rfl) dX1_support_25 ⟨Nat.le_of_ble_eq_true rfl, Nat.le_of_ble_eq_true rfl⟩ (fun v2 Φ3 sz2 st2 hp2 hs2 => ?_)
  obtain ⟨rfl, hq2, fr2, h_17⟩ := hp2
  replace hq2 : sz2 = sz := hq2
  subst sz2
  replace hs2 : st2 = [] := hs2
  subst st2
  have h_18 : Φ3 (x + 14) = some (o_ 12 [.ref (x + 15), .int 0, .int 0, .int 0]) := h_17
  refine z_iinc (k := 0) (v := 2) (lv' := [(2, .int 2), (0, .ref (x + 3)), (1, .int 510)]) B dX1_support_28 rfl rfl (Nat.le_of_ble_eq_true rfl) rfl ?_
  refine z_goto (tgt := 7) B dX1_support_31 rfl ?_
  refine z_iload_n B dX1_support_7 rfl 0 rfl ?_
  refine z_iconst (v := 4) B dX1_support_8 rfl ?_
  refine z_icmp_ge (tgt := 34) B dX1_support_9 rfl (fun h9 => absurd h9 (by decide)) (fun c_3 => ?_)
  refine z_aload_n B dX1_support_12 rfl 1 rfl ?_
  have h_19 : Φ3 (x + 3) = some (o_ 3 [.ref (x + 4), .ref (x + 5), .ref (x + 6), .ref (x + 7), .int 1, .int 510]) := ((fr2 (x + 3) (ne_off (x := x) (i := 3) (j := 14) rfl)).trans h_12)
  refine z_get (ref := "FlowExporter$Config") (C := RX1) (T := TX1) (N := 6) (ci := 3) (v := .ref (x + 7)) B (by decide +kernel) rfl 3 (by decide) (by decide +kernel) rfl h_19 rfl dX1_support_13 ?_
  refine z_iload_n B dX1_support_16 rfl 0 rfl ?_
  have h_20 : Φ3 (x + 7) = some (aq_ G 4 4 (va_up (va_up (va_up (va_up (fun _ => none) (0 : Int32).toNatClampNeg (some (x + 10))) (1 : Int32).toNatClampNeg (some (x + 14))) (2 : Int32).toNatClampNeg (some (x + 18))) (3 : Int32).toNatClampNeg (some (x + 22)))) := ((fr2 (x + 7) (ne_off (x := x) (i := 7) (j := 14) rfl)).trans h_13)
  refine z_aald (b := x + 18) B rfl h_20 (vin rfl) rfl dX1_support_17 ?_
  refine z_aload_n B dX1_support_18 rfl 1 rfl ?_
  refine z_get (ref := "FlowExporter$Config") (C := RX1) (T := TX1) (N := 6) (ci := 3) (v := .ref (x + 6)) B (by decide +kernel) rfl 2 (by decide) (by decide +kernel) rfl h_19 rfl dX1_support_19 ?_
  refine z_iload_n B dX1_support_22 rfl 0 rfl ?_
  have h_21 : Φ3 (x + 6) = some (aq_ G 4 4 (va_up (va_up (va_up (va_up (fun _ => none) (0 : Int32).toNatClampNeg (some (x + 8))) (1 : Int32).toNatClampNeg (some (x + 12))) (2 : Int32).toNatClampNeg (some (x + 16))) (3 : Int32).toNatClampNeg (some (x + 20)))) := ((fr2 (x + 6) (ne_off (x := x) (i := 6) (j := 14) rfl)).trans h_14)
  refine z_aald (b := x + 16) B rfl h_21 (vin rfl) rfl dX1_support_23 ?_
  refine z_iload_n B dX1_support_24 rfl 2 rfl ?_
  have h_22 : Φ3 (x + 18) = some (o_ 12 [.ref (x + 19), .int 0, .int 0, .int 0]) := ((fr2 (x + 18) (ne_off (x := x) (i := 18) (j := 14) rfl)).trans ((fr1 (x + 18) (ne_off (x := x) (i := 18) (j := 11) rfl) (ne_off (x := x) (i := 18) (j := 10) rfl)).trans ((fset_fr hΦ1 (ne_off (x := x) (i := 18) (j := 3) rfl)).trans hc18_)))
  have h_23 : Φ3 (x + 16) = some (o_ 12 [.ref (x + 17), .int 0, .int 0, .int 0]) := ((fr2 (x + 16) (ne_off (x := x) (i := 16) (j := 14) rfl)).trans ((fr1 (x + 16) (ne_off (x := x) (i := 16) (j := 11) rfl) (ne_off (x := x) (i := 16) (j := 10) rfl)).trans ((fset_fr hΦ1 (ne_off (x := x) (i := 16) (j := 3) rfl)).trans hc16_)))
  refine z_callV (As := [.ref (x + 16), .int 510]) (rest := []) B (c_X10_copyFrom_z0 G l Φ3 sz (x + 18) (x + 19) 0 0 0 (x + 16) (x + 17) 0 0 h_22 h_23 (ne_off (x := x) (i := 18) (j := 16) rfl) (Nat.le_trans hna (Nat.le_add_right x 18))) (cwV 2 B.1.2.2.2.2 gX1_support_X10_copyFrom rfl rfl rfl (by decide +kernel) ⟨Nat.le_of_ble_eq_true rfl, Nat.le_of_ble_eq_true rfl⟩) h_22 rfl rfl rfl rfl (Nat.le_of_ble_eq_true rfl) dX1_support_25 ⟨Nat.le_of_ble_eq_true rfl, Nat.le_of_ble_eq_true rfl⟩ (fun v3 Φ4 sz3 st3 hp3 hs3 => ?_)
  obtain ⟨rfl, hq3, fr3, h_24⟩ := hp3
  replace hq3 : sz3 = sz := hq3
  subst sz3
  replace hs3 : st3 = [] := hs3
  subst st3
  have h_25 : Φ4 (x + 18) = some (o_ 12 [.ref (x + 19), .int 0, .int 0, .int 0]) := h_24
  refine z_iinc (k := 0) (v := 3) (lv' := [(2, .int 3), (0, .ref (x + 3)), (1, .int 510)]) B dX1_support_28 rfl rfl (Nat.le_of_ble_eq_true rfl) rfl ?_
  refine z_goto (tgt := 7) B dX1_support_31 rfl ?_
  refine z_iload_n B dX1_support_7 rfl 0 rfl ?_
  refine z_iconst (v := 4) B dX1_support_8 rfl ?_
  refine z_icmp_ge (tgt := 34) B dX1_support_9 rfl (fun h9 => absurd h9 (by decide)) (fun c_4 => ?_)
  refine z_aload_n B dX1_support_12 rfl 1 rfl ?_
  have h_26 : Φ4 (x + 3) = some (o_ 3 [.ref (x + 4), .ref (x + 5), .ref (x + 6), .ref (x + 7), .int 1, .int 510]) := ((fr3 (x + 3) (ne_off (x := x) (i := 3) (j := 18) rfl)).trans h_19)
  refine z_get (ref := "FlowExporter$Config") (C := RX1) (T := TX1) (N := 6) (ci := 3) (v := .ref (x + 7)) B (by decide +kernel) rfl 3 (by decide) (by decide +kernel) rfl h_26 rfl dX1_support_13 ?_
  refine z_iload_n B dX1_support_16 rfl 0 rfl ?_
  have h_27 : Φ4 (x + 7) = some (aq_ G 4 4 (va_up (va_up (va_up (va_up (fun _ => none) (0 : Int32).toNatClampNeg (some (x + 10))) (1 : Int32).toNatClampNeg (some (x + 14))) (2 : Int32).toNatClampNeg (some (x + 18))) (3 : Int32).toNatClampNeg (some (x + 22)))) := ((fr3 (x + 7) (ne_off (x := x) (i := 7) (j := 18) rfl)).trans h_20)
  refine z_aald (b := x + 22) B rfl h_27 (vin rfl) rfl dX1_support_17 ?_
  refine z_aload_n B dX1_support_18 rfl 1 rfl ?_
  refine z_get (ref := "FlowExporter$Config") (C := RX1) (T := TX1) (N := 6) (ci := 3) (v := .ref (x + 6)) B (by decide +kernel) rfl 2 (by decide) (by decide +kernel) rfl h_26 rfl dX1_support_19 ?_
  refine z_iload_n B dX1_support_22 rfl 0 rfl ?_
  have h_28 : Φ4 (x + 6) = some (aq_ G 4 4 (va_up (va_up (va_up (va_up (fun _ => none) (0 : Int32).toNatClampNeg (some (x + 8))) (1 : Int32).toNatClampNeg (some (x + 12))) (2 : Int32).toNatClampNeg (some (x + 16))) (3 : Int32).toNatClampNeg (some (x + 20)))) := ((fr3 (x + 6) (ne_off (x := x) (i := 6) (j := 18) rfl)).trans h_21)
  refine z_aald (b := x + 20) B rfl h_28 (vin rfl) rfl dX1_support_23 ?_
  refine z_iload_n B dX1_support_24 rfl 2 rfl ?_
  have h_29 : Φ4 (x + 22) = some (o_ 12 [.ref (x + 23), .int 0, .int 0, .int 0]) := ((fr3 (x + 22) (ne_off (x := x) (i := 22) (j := 18) rfl)).trans ((fr2 (x + 22) (ne_off (x := x) (i := 22) (j := 14) rfl)).trans ((fr1 (x + 22) (ne_off (x := x) (i := 22) (j := 11) rfl) (ne_off (x := x) (i := 22) (j := 10) rfl)).trans ((fset_fr hΦ1 (ne_off (x := x) (i := 22) (j := 3) rfl)).trans hc22_))))
  have h_30 : Φ4 (x + 20) = some (o_ 12 [.ref (x + 21), .int 0, .int 0, .int 0]) := ((fr3 (x + 20) (ne_off (x := x) (i := 20) (j := 18) rfl)).trans ((fr2 (x + 20) (ne_off (x := x) (i := 20) (j := 14) rfl)).trans ((fr1 (x + 20) (ne_off (x := x) (i := 20) (j := 11) rfl) (ne_off (x := x) (i := 20) (j := 10) rfl)).trans ((fset_fr hΦ1 (ne_off (x := x) (i := 20) (j := 3) rfl)).trans hc20_))))
  refine z_callV (As := [.ref (x + 20), .int 510]) (rest := []) B (c_X10_copyFrom_z0 G l Φ4 sz (x + 22) (x + 23) 0 0 0 (x + 20) (x + 21) 0 0 h_29 h_30 (ne_off (x := x) (i := 22) (j := 20) rfl) (Nat.le_trans hna (Nat.le_add_right x 22))) (cwV 2 B.1.2.2.2.2 gX1_support_X10_copyFrom rfl rfl rfl (by decide +kernel) ⟨Nat.le_of_ble_eq_true rfl, Nat.le_of_ble_eq_true rfl⟩) h_29 rfl rfl rfl rfl (Nat.le_of_ble_eq_true rfl) dX1_support_25 ⟨Nat.le_of_ble_eq_true rfl, Nat.le_of_ble_eq_true rfl⟩ (fun v4 Φ5 sz4 st4 hp4 hs4 => ?_)
  obtain ⟨rfl, hq4, fr4, h_31⟩ := hp4
  replace hq4 : sz4 = sz := hq4
  subst sz4
  replace hs4 : st4 = [] := hs4
  subst st4
  have h_32 : Φ5 (x + 22) = some (o_ 12 [.ref (x + 23), .int 0, .int 0, .int 0]) := h_31
  refine z_iinc (k := 0) (v := 4) (lv' := [(2, .int 4), (0, .ref (x + 3)), (1, .int 510)]) B dX1_support_28 rfl rfl (Nat.le_of_ble_eq_true rfl) rfl ?_
  refine z_goto (tgt := 7) B dX1_support_31 rfl ?_
  refine z_iload_n B dX1_support_7 rfl 0 rfl ?_
  refine z_iconst (v := 4) B dX1_support_8 rfl ?_
  refine z_icmp_ge (tgt := 34) B dX1_support_9 rfl (fun c_5 => ?_) (fun h9 => absurd (by decide) h9)
  have h_33 : Φ5 (x + 10) = some (o_ 12 [.ref (x + 11), .int 8, .int 510, .int 28]) := ((fr4 (x + 10) (ne_off (x := x) (i := 10) (j := 22) rfl)).trans ((fr3 (x + 10) (ne_off (x := x) (i := 10) (j := 18) rfl)).trans ((fr2 (x + 10) (ne_off (x := x) (i := 10) (j := 14) rfl)).trans h_11)))
  have h_34 : Φ5 (x + 11) = some (ai_ G 9 (upd (upd (upd (upd (upd (upd (upd (upd (upd (upd (upd (upd (upd (upd (upd (upd (upd (fun _ => 0) (0 : Int32).toNatClampNeg 0) (1 : Int32).toNatClampNeg 1) (2 : Int32).toNatClampNeg 2) (3 : Int32).toNatClampNeg 3) (4 : Int32).toNatClampNeg 4) (5 : Int32).toNatClampNeg 5) (6 : Int32).toNatClampNeg 6) (7 : Int32).toNatClampNeg 7) (8 : Int32).toNatClampNeg 8) (0 : Int32).toNatClampNeg 1) (1 : Int32).toNatClampNeg 2) (2 : Int32).toNatClampNeg 3) (3 : Int32).toNatClampNeg 4) (4 : Int32).toNatClampNeg 5) (5 : Int32).toNatClampNeg 6) (6 : Int32).toNatClampNeg 7) (7 : Int32).toNatClampNeg 8)) := ((fr4 (x + 11) (ne_off (x := x) (i := 11) (j := 22) rfl)).trans ((fr3 (x + 11) (ne_off (x := x) (i := 11) (j := 18) rfl)).trans ((fr2 (x + 11) (ne_off (x := x) (i := 11) (j := 14) rfl)).trans h_10)))
  have h_35 : Φ5 (x + 14) = some (o_ 12 [.ref (x + 15), .int 0, .int 0, .int 0]) := ((fr4 (x + 14) (ne_off (x := x) (i := 14) (j := 22) rfl)).trans ((fr3 (x + 14) (ne_off (x := x) (i := 14) (j := 18) rfl)).trans h_18))
  have h_36 : Φ5 (x + 18) = some (o_ 12 [.ref (x + 19), .int 0, .int 0, .int 0]) := ((fr4 (x + 18) (ne_off (x := x) (i := 18) (j := 22) rfl)).trans h_25)
  have h_37 : Φ5 (x + 3) = some (o_ 3 [.ref (x + 4), .ref (x + 5), .ref (x + 6), .ref (x + 7), .int 1, .int 510]) := ((fr4 (x + 3) (ne_off (x := x) (i := 3) (j := 22) rfl)).trans h_26)
  exact z_ret_v B dX1_support_34 ⟨rfl, rfl, (fun b9 h9a h9b h9c h9d h9e h9f => ((fr4 b9 h9e).trans ((fr3 b9 h9d).trans ((fr2 b9 h9c).trans ((fr1 b9 h9b h9a).trans ((fset_fr hΦ1 h9f).trans rfl)))))), h_33, h_34, h_35, h_36, h_32, h_37⟩

set_option maxHeartbeats 4000000 in
set_option maxRecDepth 100000 in
theorem c_X10_copyFrom_s1 (G : EnvG) (l : Launch) (Φ : Hm) (sz : Nat) (h : Nat) (f : Nat) (a : Int32) (b : Int32) (d : Int32) (g : Nat → Int32) (h2 : Nat) (f2 : Nat) (b2 : Int32) (d2 : Int32) (g2 : Nat → Int32) (hc0 : Φ h = some (o_ 12 [.ref f, .int a, .int b, .int d])) (hc1 : Φ f = some (ai_ G 9 g)) (hc2 : Φ h2 = some (o_ 12 [.ref f2, .int 9, .int b2, .int d2])) (hc3 : Φ f2 = some (ai_ G 9 g2)) (hne_h_h2 : h ≠ h2) (hne_f_f2 : f ≠ f2) (hne_h_f : h ≠ f) (hne_h2_f : h2 ≠ f) (hne_h_f2 : h ≠ f2) (hne_h2_f2 : h2 ≠ f2) (hna_h : G.2.2.2 ≤ h) (hna_f : G.2.2.2 ≤ f) (hg0 : g2 0 = 0) (hg1 : g2 1 = 1) (hg2 : g2 2 = 2) (hg3 : g2 3 = 3) (hg4 : g2 4 = 4) (hg5 : g2 5 = 5) (hg6 : g2 6 = 6) (hg7 : g2 7 = 7) (hg8 : g2 8 = 8) : Ct G l yX10_copyFrom wsX10_copyFrom ({ frames := 1, cells := 0, slots := 0, locals := 21 }) 0 0 [.ref h, .ref h2, .int 509] Φ sz (fun v Φ1 sz1 => v = none ∧ sz1 = sz ∧ (∀ b9 : Nat, b9 ≠ f → b9 ≠ h → Φ1 b9 = Φ b9) ∧ Φ1 f = some (ai_ G 9 (upd (upd (upd (upd (upd (upd (upd (upd g (0 : Int32).toNatClampNeg 0) (1 : Int32).toNatClampNeg 2) (2 : Int32).toNatClampNeg 3) (3 : Int32).toNatClampNeg 4) (4 : Int32).toNatClampNeg 5) (5 : Int32).toNatClampNeg 6) (6 : Int32).toNatClampNeg 7) (7 : Int32).toNatClampNeg 8)) ∧ Φ1 h = some (o_ 12 [.ref f, .int 8, .int 509, .int 28])) := by
  refine Ct.of (cc := cX10_copyFrom) (maxL := 5) (ret := none) (by decide) rfl (Nat.le_of_ble_eq_true rfl) ?_
  intro p9 e9 s9 m9 w9 t9 k9 B
  show Z p9 l e9 _ s9 m9 _ w9 t9 k9 _ G 5 0 [(0, .ref h), (1, .ref h2), (2, .int 509)] [] Φ (sz) 0 0
  refine z_aload_n B dX10_copyFrom_0 rfl 0 rfl ?_
  refine z_callV (As := []) (rest := []) B (c_X10_clear G l Φ sz h f a b d hc0 hna_h) (cwV 0 B.1.2.2.2.2 gX10_copyFrom_X10_clear rfl rfl rfl (by decide +kernel) ⟨Nat.le_of_ble_eq_true rfl, Nat.le_of_ble_eq_true rfl⟩) hc0 rfl rfl rfl rfl (Nat.le_of_ble_eq_true rfl) dX10_copyFrom_1 ⟨Nat.le_of_ble_eq_true rfl, Nat.le_of_ble_eq_true rfl⟩ (fun v1 Φ1 sz1 st1 hp1 hs1 => ?_)
  obtain ⟨rfl, hq1, fr1, h_1⟩ := hp1
  replace hq1 : sz1 = sz := hq1
  subst sz1
  replace hs1 : st1 = [] := hs1
  subst st1
  have h_2 : Φ1 h = some (o_ 12 [.ref f, .int 0, .int 0, .int 0]) := h_1
  refine z_iconst (v := 0) B dX10_copyFrom_4 rfl ?_
  refine z_istore_n (lv' := [(3, .int 0), (0, .ref h), (1, .ref h2), (2, .int 509)]) B dX10_copyFrom_5 rfl (Nat.le_of_ble_eq_true rfl) rfl ?_
  refine z_iload_n B dX10_copyFrom_6 rfl 0 rfl ?_
  refine z_aload_n B dX10_copyFrom_7 rfl 2 rfl ?_
  have h_3 : Φ1 h2 = some (o_ 12 [.ref f2, .int 9, .int b2, .int d2]) := ((fr1 h2 (Ne.symm hne_h_h2)).trans hc2)
  refine z_get (ref := "FlowExporter$Template") (C := RX10) (T := TX10) (N := 4) (ci := 12) (v := .int 9) B (by decide +kernel) rfl 1 (by decide) (by decide +kernel) rfl h_3 rfl dX10_copyFrom_8 ?_
  refine z_icmp_ge (tgt := 43) B dX10_copyFrom_11 rfl (fun h9 => absurd h9 (by decide)) (fun c_1 => ?_)
  refine z_aload_n B dX10_copyFrom_14 rfl 2 rfl ?_
  refine z_iload_n B dX10_copyFrom_15 rfl 0 rfl ?_
  have h_4 : Φ1 f2 = some (ai_ G 9 g2) := ((fr1 f2 (Ne.symm hne_h_f2)).trans hc3)
  refine z_callV (As := [.int 0]) (rest := []) B (c_X10_field G l Φ1 sz h2 f2 9 b2 d2 g2 0 h_3 h_4 (by decide) (by decide) (vin rfl)) (cwV 1 B.1.2.2.2.2 gX10_copyFrom_X10_field rfl rfl rfl (by decide +kernel) ⟨Nat.le_of_ble_eq_true rfl, Nat.le_of_ble_eq_true rfl⟩) h_3 rfl rfl rfl rfl (Nat.le_of_ble_eq_true rfl) dX10_copyFrom_16 ⟨Nat.le_of_ble_eq_true rfl, Nat.le_of_ble_eq_true rfl⟩ (fun v2 Φ2 sz2 st2 hp2 hs2 => ?_)
  obtain ⟨rfl, hq2, fr2⟩ := hp2
  replace hq2 : sz2 = sz := hq2
  subst sz2
  replace hs2 : st2 = [.int (g2 (0 : Int32).toNatClampNeg)] := hs2
  subst st2
  refine z_top (st1 := [.int 0]) (by rw [show g2 ((0 : Int32).toNatClampNeg) = 0 from hg0]) ?_
  refine z_istore (lv' := [(4, .int 0), (3, .int 0), (0, .ref h), (1, .ref h2), (2, .int 509)]) B dX10_copyFrom_19 (Nat.le_of_ble_eq_true rfl) rfl ?_
  refine z_iload_n B dX10_copyFrom_21 rfl 4 rfl ?_
  refine z_iload B dX10_copyFrom_22 0 rfl ?_
  refine z_ishr B dX10_copyFrom_24 ?_
  refine z_top (st1 := [.int 509]) (congrArg (fun w9 : Int32 => ([.int w9] : List Value)) (show ((509 : Int32) >>> ((0 : Int32) &&& (31 : Int32)) : Int32) = 509 by decide +kernel)) ?_
  refine z_iconst (v := 1) B dX10_copyFrom_25 rfl ?_
  refine z_iand B dX10_copyFrom_26 ?_
  refine z_top (st1 := [.int 1]) (congrArg (fun w9 : Int32 => ([.int w9] : List Value)) (show (509 &&& 1 : Int32) = 1 by decide +kernel)) ?_
  refine z_iconst (v := 1) B dX10_copyFrom_27 rfl ?_
  refine z_icmp_ne (tgt := 37) B dX10_copyFrom_28 rfl (fun h9 => absurd (by decide) h9) (fun c_2 => ?_)
  refine z_aload_n B dX10_copyFrom_31 rfl 2 rfl ?_
  refine z_iload B dX10_copyFrom_32 0 rfl ?_
  have h_5 : Φ2 h = some (o_ 12 [.ref f, .int 0, .int 0, .int 0]) := ((fr2 h).trans h_2)
  have h_6 : Φ2 f = some (ai_ G 9 g) := ((fr2 f).trans ((fr1 f (Ne.symm hne_h_f)).trans hc1))
  refine z_callV (As := [.int 0]) (rest := []) B (c_X10_addField G l Φ2 sz h f 0 0 0 g 0 h_5 h_6 hne_h_f hna_h hna_f (by decide) (by decide) (by decide) (by decide) (vin rfl) (vin rfl)) (cwV 1 B.1.2.2.2.2 gX10_copyFrom_X10_addField rfl rfl rfl (by decide +kernel) ⟨Nat.le_of_ble_eq_true rfl, Nat.le_of_ble_eq_true rfl⟩) h_5 rfl rfl rfl rfl (Nat.le_of_ble_eq_true rfl) dX10_copyFrom_34 ⟨Nat.le_of_ble_eq_true rfl, Nat.le_of_ble_eq_true rfl⟩ (fun v3 Φ3 sz3 st3 hp3 hs3 => ?_)
  obtain ⟨rfl, hq3, fr3, h_7, h_8⟩ := hp3
  replace hq3 : sz3 = sz := hq3
  subst sz3
  replace hs3 : st3 = [] := hs3
  subst st3
  have h_9 : Φ3 f = some (ai_ G 9 (upd g (0 : Int32).toNatClampNeg 0)) := h_7
  have h_10 : Φ3 h = some (o_ 12 [.ref f, .int 1, .int 1, .int 1]) := h_8
  refine z_iinc (k := 1) (v := 1) (lv' := [(3, .int 1), (4, .int 0), (0, .ref h), (1, .ref h2), (2, .int 509)]) B dX10_copyFrom_37 rfl rfl (Nat.le_of_ble_eq_true rfl) rfl ?_
  refine z_goto (tgt := 6) B dX10_copyFrom_40 rfl ?_
  refine z_iload_n B dX10_copyFrom_6 rfl 0 rfl ?_
  refine z_aload_n B dX10_copyFrom_7 rfl 3 rfl ?_
  have h_11 : Φ3 h2 = some (o_ 12 [.ref f2, .int 9, .int b2, .int d2]) := ((fr3 h2 hne_h2_f (Ne.symm hne_h_h2)).trans ((fr2 h2).trans h_3))
  refine z_get (ref := "FlowExporter$Template") (C := RX10) (T := TX10) (N := 4) (ci := 12) (v := .int 9) B (by decide +kernel) rfl 1 (by decide) (by decide +kernel) rfl h_11 rfl dX10_copyFrom_8 ?_
  refine z_icmp_ge (tgt := 43) B dX10_copyFrom_11 rfl (fun h9 => absurd h9 (by decide)) (fun c_3 => ?_)
  refine z_aload_n B dX10_copyFrom_14 rfl 3 rfl ?_
  refine z_iload_n B dX10_copyFrom_15 rfl 0 rfl ?_
  have h_12 : Φ3 f2 = some (ai_ G 9 g2) := ((fr3 f2 (Ne.symm hne_f_f2) (Ne.symm hne_h_f2)).trans ((fr2 f2).trans h_4))
  refine z_callV (As := [.int 1]) (rest := []) B (c_X10_field G l Φ3 sz h2 f2 9 b2 d2 g2 1 h_11 h_12 (by decide) (by decide) (vin rfl)) (cwV 1 B.1.2.2.2.2 gX10_copyFrom_X10_field rfl rfl rfl (by decide +kernel) ⟨Nat.le_of_ble_eq_true rfl, Nat.le_of_ble_eq_true rfl⟩) h_11 rfl rfl rfl rfl (Nat.le_of_ble_eq_true rfl) dX10_copyFrom_16 ⟨Nat.le_of_ble_eq_true rfl, Nat.le_of_ble_eq_true rfl⟩ (fun v4 Φ4 sz4 st4 hp4 hs4 => ?_)
  obtain ⟨rfl, hq4, fr4⟩ := hp4
  replace hq4 : sz4 = sz := hq4
  subst sz4
  replace hs4 : st4 = [.int (g2 (1 : Int32).toNatClampNeg)] := hs4
  subst st4
  refine z_top (st1 := [.int 1]) (by rw [show g2 ((1 : Int32).toNatClampNeg) = 1 from hg1]) ?_
  refine z_istore (lv' := [(4, .int 1), (3, .int 1), (0, .ref h), (1, .ref h2), (2, .int 509)]) B dX10_copyFrom_19 (Nat.le_of_ble_eq_true rfl) rfl ?_
  refine z_iload_n B dX10_copyFrom_21 rfl 4 rfl ?_
  refine z_iload B dX10_copyFrom_22 0 rfl ?_
  refine z_ishr B dX10_copyFrom_24 ?_
  refine z_top (st1 := [.int 254]) (congrArg (fun w9 : Int32 => ([.int w9] : List Value)) (show ((509 : Int32) >>> ((1 : Int32) &&& (31 : Int32)) : Int32) = 254 by decide +kernel)) ?_
  refine z_iconst (v := 1) B dX10_copyFrom_25 rfl ?_
  refine z_iand B dX10_copyFrom_26 ?_
  refine z_top (st1 := [.int 0]) (congrArg (fun w9 : Int32 => ([.int w9] : List Value)) (show (254 &&& 1 : Int32) = 0 by decide +kernel)) ?_
  refine z_iconst (v := 1) B dX10_copyFrom_27 rfl ?_
  refine z_icmp_ne (tgt := 37) B dX10_copyFrom_28 rfl (fun c_4 => ?_) (fun h9 => absurd h9 (by decide))
  refine z_iinc (k := 1) (v := 2) (lv' := [(3, .int 2), (4, .int 1), (0, .ref h), (1, .ref h2), (2, .int 509)]) B dX10_copyFrom_37 rfl rfl (Nat.le_of_ble_eq_true rfl) rfl ?_
  refine z_goto (tgt := 6) B dX10_copyFrom_40 rfl ?_
  refine z_iload_n B dX10_copyFrom_6 rfl 0 rfl ?_
  refine z_aload_n B dX10_copyFrom_7 rfl 3 rfl ?_
  have h_13 : Φ4 h2 = some (o_ 12 [.ref f2, .int 9, .int b2, .int d2]) := ((fr4 h2).trans h_11)
  refine z_get (ref := "FlowExporter$Template") (C := RX10) (T := TX10) (N := 4) (ci := 12) (v := .int 9) B (by decide +kernel) rfl 1 (by decide) (by decide +kernel) rfl h_13 rfl dX10_copyFrom_8 ?_
  refine z_icmp_ge (tgt := 43) B dX10_copyFrom_11 rfl (fun h9 => absurd h9 (by decide)) (fun c_5 => ?_)
  refine z_aload_n B dX10_copyFrom_14 rfl 3 rfl ?_
  refine z_iload_n B dX10_copyFrom_15 rfl 0 rfl ?_
  have h_14 : Φ4 f2 = some (ai_ G 9 g2) := ((fr4 f2).trans h_12)
  refine z_callV (As := [.int 2]) (rest := []) B (c_X10_field G l Φ4 sz h2 f2 9 b2 d2 g2 2 h_13 h_14 (by decide) (by decide) (vin rfl)) (cwV 1 B.1.2.2.2.2 gX10_copyFrom_X10_field rfl rfl rfl (by decide +kernel) ⟨Nat.le_of_ble_eq_true rfl, Nat.le_of_ble_eq_true rfl⟩) h_13 rfl rfl rfl rfl (Nat.le_of_ble_eq_true rfl) dX10_copyFrom_16 ⟨Nat.le_of_ble_eq_true rfl, Nat.le_of_ble_eq_true rfl⟩ (fun v5 Φ5 sz5 st5 hp5 hs5 => ?_)
  obtain ⟨rfl, hq5, fr5⟩ := hp5
  replace hq5 : sz5 = sz := hq5
  subst sz5
  replace hs5 : st5 = [.int (g2 (2 : Int32).toNatClampNeg)] := hs5
  subst st5
  refine z_top (st1 := [.int 2]) (by rw [show g2 ((2 : Int32).toNatClampNeg) = 2 from hg2]) ?_
  refine z_istore (lv' := [(4, .int 2), (3, .int 2), (0, .ref h), (1, .ref h2), (2, .int 509)]) B dX10_copyFrom_19 (Nat.le_of_ble_eq_true rfl) rfl ?_
  refine z_iload_n B dX10_copyFrom_21 rfl 4 rfl ?_
  refine z_iload B dX10_copyFrom_22 0 rfl ?_
  refine z_ishr B dX10_copyFrom_24 ?_
  refine z_top (st1 := [.int 127]) (congrArg (fun w9 : Int32 => ([.int w9] : List Value)) (show ((509 : Int32) >>> ((2 : Int32) &&& (31 : Int32)) : Int32) = 127 by decide +kernel)) ?_
  refine z_iconst (v := 1) B dX10_copyFrom_25 rfl ?_
  refine z_iand B dX10_copyFrom_26 ?_
  refine z_top (st1 := [.int 1]) (congrArg (fun w9 : Int32 => ([.int w9] : List Value)) (show (127 &&& 1 : Int32) = 1 by decide +kernel)) ?_
  refine z_iconst (v := 1) B dX10_copyFrom_27 rfl ?_
  refine z_icmp_ne (tgt := 37) B dX10_copyFrom_28 rfl (fun h9 => absurd (by decide) h9) (fun c_6 => ?_)
  refine z_aload_n B dX10_copyFrom_31 rfl 2 rfl ?_
  refine z_iload B dX10_copyFrom_32 0 rfl ?_
  have h_15 : Φ5 h = some (o_ 12 [.ref f, .int 1, .int 1, .int 1]) := ((fr5 h).trans ((fr4 h).trans h_10))
  have h_16 : Φ5 f = some (ai_ G 9 (upd g (0 : Int32).toNatClampNeg 0)) := ((fr5 f).trans ((fr4 f).trans h_9))
  refine z_callV (As := [.int 2]) (rest := []) B (c_X10_addField G l Φ5 sz h f 1 1 1 (upd g (0 : Int32).toNatClampNeg 0) 2 h_15 h_16 hne_h_f hna_h hna_f (by decide) (by decide) (by decide) (by decide) (vin rfl) (vin rfl)) (cwV 1 B.1.2.2.2.2 gX10_copyFrom_X10_addField rfl rfl rfl (by decide +kernel) ⟨Nat.le_of_ble_eq_true rfl, Nat.le_of_ble_eq_true rfl⟩) h_15 rfl rfl rfl rfl (Nat.le_of_ble_eq_true rfl) dX10_copyFrom_34 ⟨Nat.le_of_ble_eq_true rfl, Nat.le_of_ble_eq_true rfl⟩ (fun v6 Φ6 sz6 st6 hp6 hs6 => ?_)
  obtain ⟨rfl, hq6, fr6, h_17, h_18⟩ := hp6
  replace hq6 : sz6 = sz := hq6
  subst sz6
  replace hs6 : st6 = [] := hs6
  subst st6
  have h_19 : Φ6 f = some (ai_ G 9 (upd (upd g (0 : Int32).toNatClampNeg 0) (1 : Int32).toNatClampNeg 2)) := h_17
  have h_20 : Φ6 h = some (o_ 12 [.ref f, .int 2, .int 5, .int 3]) := h_18
  refine z_iinc (k := 1) (v := 3) (lv' := [(3, .int 3), (4, .int 2), (0, .ref h), (1, .ref h2), (2, .int 509)]) B dX10_copyFrom_37 rfl rfl (Nat.le_of_ble_eq_true rfl) rfl ?_
  refine z_goto (tgt := 6) B dX10_copyFrom_40 rfl ?_
  refine z_iload_n B dX10_copyFrom_6 rfl 0 rfl ?_
  refine z_aload_n B dX10_copyFrom_7 rfl 3 rfl ?_
  have h_21 : Φ6 h2 = some (o_ 12 [.ref f2, .int 9, .int b2, .int d2]) := ((fr6 h2 hne_h2_f (Ne.symm hne_h_h2)).trans ((fr5 h2).trans h_13))
  refine z_get (ref := "FlowExporter$Template") (C := RX10) (T := TX10) (N := 4) (ci := 12) (v := .int 9) B (by decide +kernel) rfl 1 (by decide) (by decide +kernel) rfl h_21 rfl dX10_copyFrom_8 ?_
  refine z_icmp_ge (tgt := 43) B dX10_copyFrom_11 rfl (fun h9 => absurd h9 (by decide)) (fun c_7 => ?_)
  refine z_aload_n B dX10_copyFrom_14 rfl 3 rfl ?_
  refine z_iload_n B dX10_copyFrom_15 rfl 0 rfl ?_
  have h_22 : Φ6 f2 = some (ai_ G 9 g2) := ((fr6 f2 (Ne.symm hne_f_f2) (Ne.symm hne_h_f2)).trans ((fr5 f2).trans h_14))
  refine z_callV (As := [.int 3]) (rest := []) B (c_X10_field G l Φ6 sz h2 f2 9 b2 d2 g2 3 h_21 h_22 (by decide) (by decide) (vin rfl)) (cwV 1 B.1.2.2.2.2 gX10_copyFrom_X10_field rfl rfl rfl (by decide +kernel) ⟨Nat.le_of_ble_eq_true rfl, Nat.le_of_ble_eq_true rfl⟩) h_21 rfl rfl rfl rfl (Nat.le_of_ble_eq_true rfl) dX10_copyFrom_16 ⟨Nat.le_of_ble_eq_true rfl, Nat.le_of_ble_eq_true rfl⟩ (fun v7 Φ7 sz7 st7 hp7 hs7 => ?_)
  obtain ⟨rfl, hq7, fr7⟩ := hp7
  replace hq7 : sz7 = sz := hq7
  subst sz7
  replace hs7 : st7 = [.int (g2 (3 : Int32).toNatClampNeg)] := hs7
  subst st7
  refine z_top (st1 := [.int 3]) (by rw [show g2 ((3 : Int32).toNatClampNeg) = 3 from hg3]) ?_
  refine z_istore (lv' := [(4, .int 3), (3, .int 3), (0, .ref h), (1, .ref h2), (2, .int 509)]) B dX10_copyFrom_19 (Nat.le_of_ble_eq_true rfl) rfl ?_
  refine z_iload_n B dX10_copyFrom_21 rfl 4 rfl ?_
  refine z_iload B dX10_copyFrom_22 0 rfl ?_
  refine z_ishr B dX10_copyFrom_24 ?_
  refine z_top (st1 := [.int 63]) (congrArg (fun w9 : Int32 => ([.int w9] : List Value)) (show ((509 : Int32) >>> ((3 : Int32) &&& (31 : Int32)) : Int32) = 63 by decide +kernel)) ?_
  refine z_iconst (v := 1) B dX10_copyFrom_25 rfl ?_
  refine z_iand B dX10_copyFrom_26 ?_
  refine z_top (st1 := [.int 1]) (congrArg (fun w9 : Int32 => ([.int w9] : List Value)) (show (63 &&& 1 : Int32) = 1 by decide +kernel)) ?_
  refine z_iconst (v := 1) B dX10_copyFrom_27 rfl ?_
  refine z_icmp_ne (tgt := 37) B dX10_copyFrom_28 rfl (fun h9 => absurd (by decide) h9) (fun c_8 => ?_)
  refine z_aload_n B dX10_copyFrom_31 rfl 2 rfl ?_
  refine z_iload B dX10_copyFrom_32 0 rfl ?_
  have h_23 : Φ7 h = some (o_ 12 [.ref f, .int 2, .int 5, .int 3]) := ((fr7 h).trans h_20)
  have h_24 : Φ7 f = some (ai_ G 9 (upd (upd g (0 : Int32).toNatClampNeg 0) (1 : Int32).toNatClampNeg 2)) := ((fr7 f).trans h_19)
  refine z_callV (As := [.int 3]) (rest := []) B (c_X10_addField G l Φ7 sz h f 2 5 3 (upd (upd g (0 : Int32).toNatClampNeg 0) (1 : Int32).toNatClampNeg 2) 3 h_23 h_24 hne_h_f hna_h hna_f (by decide) (by decide) (by decide) (by decide) (vin rfl) (vin rfl)) (cwV 1 B.1.2.2.2.2 gX10_copyFrom_X10_addField rfl rfl rfl (by decide +kernel) ⟨Nat.le_of_ble_eq_true rfl, Nat.le_of_ble_eq_true rfl⟩) h_23 rfl rfl rfl rfl (Nat.le_of_ble_eq_true rfl) dX10_copyFrom_34 ⟨Nat.le_of_ble_eq_true rfl, Nat.le_of_ble_eq_true rfl⟩ (fun v8 Φ8 sz8 st8 hp8 hs8 => ?_)
  obtain ⟨rfl, hq8, fr8, h_25, h_26⟩ := hp8
  replace hq8 : sz8 = sz := hq8
  subst sz8
  replace hs8 : st8 = [] := hs8
  subst st8
  have h_27 : Φ8 f = some (ai_ G 9 (upd (upd (upd g (0 : Int32).toNatClampNeg 0) (1 : Int32).toNatClampNeg 2) (2 : Int32).toNatClampNeg 3)) := h_25
  have h_28 : Φ8 h = some (o_ 12 [.ref f, .int 3, .int 13, .int 4]) := h_26
  refine z_iinc (k := 1) (v := 4) (lv' := [(3, .int 4), (4, .int 3), (0, .ref h), (1, .ref h2), (2, .int 509)]) B dX10_copyFrom_37 rfl rfl (Nat.le_of_ble_eq_true rfl) rfl ?_
  refine z_goto (tgt := 6) B dX10_copyFrom_40 rfl ?_
  refine z_iload_n B dX10_copyFrom_6 rfl 0 rfl ?_
  refine z_aload_n B dX10_copyFrom_7 rfl 3 rfl ?_
  have h_29 : Φ8 h2 = some (o_ 12 [.ref f2, .int 9, .int b2, .int d2]) := ((fr8 h2 hne_h2_f (Ne.symm hne_h_h2)).trans ((fr7 h2).trans h_21))
  refine z_get (ref := "FlowExporter$Template") (C := RX10) (T := TX10) (N := 4) (ci := 12) (v := .int 9) B (by decide +kernel) rfl 1 (by decide) (by decide +kernel) rfl h_29 rfl dX10_copyFrom_8 ?_
  refine z_icmp_ge (tgt := 43) B dX10_copyFrom_11 rfl (fun h9 => absurd h9 (by decide)) (fun c_9 => ?_)
  refine z_aload_n B dX10_copyFrom_14 rfl 3 rfl ?_
  refine z_iload_n B dX10_copyFrom_15 rfl 0 rfl ?_
  have h_30 : Φ8 f2 = some (ai_ G 9 g2) := ((fr8 f2 (Ne.symm hne_f_f2) (Ne.symm hne_h_f2)).trans ((fr7 f2).trans h_22))
  refine z_callV (As := [.int 4]) (rest := []) B (c_X10_field G l Φ8 sz h2 f2 9 b2 d2 g2 4 h_29 h_30 (by decide) (by decide) (vin rfl)) (cwV 1 B.1.2.2.2.2 gX10_copyFrom_X10_field rfl rfl rfl (by decide +kernel) ⟨Nat.le_of_ble_eq_true rfl, Nat.le_of_ble_eq_true rfl⟩) h_29 rfl rfl rfl rfl (Nat.le_of_ble_eq_true rfl) dX10_copyFrom_16 ⟨Nat.le_of_ble_eq_true rfl, Nat.le_of_ble_eq_true rfl⟩ (fun v9 Φ9 sz9 st9 hp9 hs9 => ?_)
  obtain ⟨rfl, hq9, fr9⟩ := hp9
  replace hq9 : sz9 = sz := hq9
  subst sz9
  replace hs9 : st9 = [.int (g2 (4 : Int32).toNatClampNeg)] := hs9
  subst st9
  refine z_top (st1 := [.int 4]) (by rw [show g2 ((4 : Int32).toNatClampNeg) = 4 from hg4]) ?_
  refine z_istore (lv' := [(4, .int 4), (3, .int 4), (0, .ref h), (1, .ref h2), (2, .int 509)]) B dX10_copyFrom_19 (Nat.le_of_ble_eq_true rfl) rfl ?_
  refine z_iload_n B dX10_copyFrom_21 rfl 4 rfl ?_
  refine z_iload B dX10_copyFrom_22 0 rfl ?_
  refine z_ishr B dX10_copyFrom_24 ?_
  refine z_top (st1 := [.int 31]) (congrArg (fun w9 : Int32 => ([.int w9] : List Value)) (show ((509 : Int32) >>> ((4 : Int32) &&& (31 : Int32)) : Int32) = 31 by decide +kernel)) ?_
  refine z_iconst (v := 1) B dX10_copyFrom_25 rfl ?_
  refine z_iand B dX10_copyFrom_26 ?_
  refine z_top (st1 := [.int 1]) (congrArg (fun w9 : Int32 => ([.int w9] : List Value)) (show (31 &&& 1 : Int32) = 1 by decide +kernel)) ?_
  refine z_iconst (v := 1) B dX10_copyFrom_27 rfl ?_
  refine z_icmp_ne (tgt := 37) B dX10_copyFrom_28 rfl (fun h9 => absurd (by decide) h9) (fun c_10 => ?_)
  refine z_aload_n B dX10_copyFrom_31 rfl 2 rfl ?_
  refine z_iload B dX10_copyFrom_32 0 rfl ?_
  have h_31 : Φ9 h = some (o_ 12 [.ref f, .int 3, .int 13, .int 4]) := ((fr9 h).trans h_28)
  have h_32 : Φ9 f = some (ai_ G 9 (upd (upd (upd g (0 : Int32).toNatClampNeg 0) (1 : Int32).toNatClampNeg 2) (2 : Int32).toNatClampNeg 3)) := ((fr9 f).trans h_27)
  refine z_callV (As := [.int 4]) (rest := []) B (c_X10_addField G l Φ9 sz h f 3 13 4 (upd (upd (upd g (0 : Int32).toNatClampNeg 0) (1 : Int32).toNatClampNeg 2) (2 : Int32).toNatClampNeg 3) 4 h_31 h_32 hne_h_f hna_h hna_f (by decide) (by decide) (by decide) (by decide) (vin rfl) (vin rfl)) (cwV 1 B.1.2.2.2.2 gX10_copyFrom_X10_addField rfl rfl rfl (by decide +kernel) ⟨Nat.le_of_ble_eq_true rfl, Nat.le_of_ble_eq_true rfl⟩) h_31 rfl rfl rfl rfl (Nat.le_of_ble_eq_true rfl) dX10_copyFrom_34 ⟨Nat.le_of_ble_eq_true rfl, Nat.le_of_ble_eq_true rfl⟩ (fun v10 Φ10 sz10 st10 hp10 hs10 => ?_)
  obtain ⟨rfl, hq10, fr10, h_33, h_34⟩ := hp10
  replace hq10 : sz10 = sz := hq10
  subst sz10
  replace hs10 : st10 = [] := hs10
  subst st10
  have h_35 : Φ10 f = some (ai_ G 9 (upd (upd (upd (upd g (0 : Int32).toNatClampNeg 0) (1 : Int32).toNatClampNeg 2) (2 : Int32).toNatClampNeg 3) (3 : Int32).toNatClampNeg 4)) := h_33
  have h_36 : Φ10 h = some (o_ 12 [.ref f, .int 4, .int 29, .int 8]) := h_34
  refine z_iinc (k := 1) (v := 5) (lv' := [(3, .int 5), (4, .int 4), (0, .ref h), (1, .ref h2), (2, .int 509)]) B dX10_copyFrom_37 rfl rfl (Nat.le_of_ble_eq_true rfl) rfl ?_
  refine z_goto (tgt := 6) B dX10_copyFrom_40 rfl ?_
  refine z_iload_n B dX10_copyFrom_6 rfl 0 rfl ?_
  refine z_aload_n B dX10_copyFrom_7 rfl 3 rfl ?_
  have h_37 : Φ10 h2 = some (o_ 12 [.ref f2, .int 9, .int b2, .int d2]) := ((fr10 h2 hne_h2_f (Ne.symm hne_h_h2)).trans ((fr9 h2).trans h_29))
  refine z_get (ref := "FlowExporter$Template") (C := RX10) (T := TX10) (N := 4) (ci := 12) (v := .int 9) B (by decide +kernel) rfl 1 (by decide) (by decide +kernel) rfl h_37 rfl dX10_copyFrom_8 ?_
  refine z_icmp_ge (tgt := 43) B dX10_copyFrom_11 rfl (fun h9 => absurd h9 (by decide)) (fun c_11 => ?_)
  refine z_aload_n B dX10_copyFrom_14 rfl 3 rfl ?_
  refine z_iload_n B dX10_copyFrom_15 rfl 0 rfl ?_
  have h_38 : Φ10 f2 = some (ai_ G 9 g2) := ((fr10 f2 (Ne.symm hne_f_f2) (Ne.symm hne_h_f2)).trans ((fr9 f2).trans h_30))
  refine z_callV (As := [.int 5]) (rest := []) B (c_X10_field G l Φ10 sz h2 f2 9 b2 d2 g2 5 h_37 h_38 (by decide) (by decide) (vin rfl)) (cwV 1 B.1.2.2.2.2 gX10_copyFrom_X10_field rfl rfl rfl (by decide +kernel) ⟨Nat.le_of_ble_eq_true rfl, Nat.le_of_ble_eq_true rfl⟩) h_37 rfl rfl rfl rfl (Nat.le_of_ble_eq_true rfl) dX10_copyFrom_16 ⟨Nat.le_of_ble_eq_true rfl, Nat.le_of_ble_eq_true rfl⟩ (fun v11 Φ11 sz11 st11 hp11 hs11 => ?_)
  obtain ⟨rfl, hq11, fr11⟩ := hp11
  replace hq11 : sz11 = sz := hq11
  subst sz11
  replace hs11 : st11 = [.int (g2 (5 : Int32).toNatClampNeg)] := hs11
  subst st11
  refine z_top (st1 := [.int 5]) (by rw [show g2 ((5 : Int32).toNatClampNeg) = 5 from hg5]) ?_
  refine z_istore (lv' := [(4, .int 5), (3, .int 5), (0, .ref h), (1, .ref h2), (2, .int 509)]) B dX10_copyFrom_19 (Nat.le_of_ble_eq_true rfl) rfl ?_
  refine z_iload_n B dX10_copyFrom_21 rfl 4 rfl ?_
  refine z_iload B dX10_copyFrom_22 0 rfl ?_
  refine z_ishr B dX10_copyFrom_24 ?_
  refine z_top (st1 := [.int 15]) (congrArg (fun w9 : Int32 => ([.int w9] : List Value)) (show ((509 : Int32) >>> ((5 : Int32) &&& (31 : Int32)) : Int32) = 15 by decide +kernel)) ?_
  refine z_iconst (v := 1) B dX10_copyFrom_25 rfl ?_
  refine z_iand B dX10_copyFrom_26 ?_
  refine z_top (st1 := [.int 1]) (congrArg (fun w9 : Int32 => ([.int w9] : List Value)) (show (15 &&& 1 : Int32) = 1 by decide +kernel)) ?_
  refine z_iconst (v := 1) B dX10_copyFrom_27 rfl ?_
  refine z_icmp_ne (tgt := 37) B dX10_copyFrom_28 rfl (fun h9 => absurd (by decide) h9) (fun c_12 => ?_)
  refine z_aload_n B dX10_copyFrom_31 rfl 2 rfl ?_
  refine z_iload B dX10_copyFrom_32 0 rfl ?_
  have h_39 : Φ11 h = some (o_ 12 [.ref f, .int 4, .int 29, .int 8]) := ((fr11 h).trans h_36)
  have h_40 : Φ11 f = some (ai_ G 9 (upd (upd (upd (upd g (0 : Int32).toNatClampNeg 0) (1 : Int32).toNatClampNeg 2) (2 : Int32).toNatClampNeg 3) (3 : Int32).toNatClampNeg 4)) := ((fr11 f).trans h_35)
  refine z_callV (As := [.int 5]) (rest := []) B (c_X10_addField G l Φ11 sz h f 4 29 8 (upd (upd (upd (upd g (0 : Int32).toNatClampNeg 0) (1 : Int32).toNatClampNeg 2) (2 : Int32).toNatClampNeg 3) (3 : Int32).toNatClampNeg 4) 5 h_39 h_40 hne_h_f hna_h hna_f (by decide) (by decide) (by decide) (by decide) (vin rfl) (vin rfl)) (cwV 1 B.1.2.2.2.2 gX10_copyFrom_X10_addField rfl rfl rfl (by decide +kernel) ⟨Nat.le_of_ble_eq_true rfl, Nat.le_of_ble_eq_true rfl⟩) h_39 rfl rfl rfl rfl (Nat.le_of_ble_eq_true rfl) dX10_copyFrom_34 ⟨Nat.le_of_ble_eq_true rfl, Nat.le_of_ble_eq_true rfl⟩ (fun v12 Φ12 sz12 st12 hp12 hs12 => ?_)
  obtain ⟨rfl, hq12, fr12, h_41, h_42⟩ := hp12
  replace hq12 : sz12 = sz := hq12
  subst sz12
  replace hs12 : st12 = [] := hs12
  subst st12
  have h_43 : Φ12 f = some (ai_ G 9 (upd (upd (upd (upd (upd g (0 : Int32).toNatClampNeg 0) (1 : Int32).toNatClampNeg 2) (2 : Int32).toNatClampNeg 3) (3 : Int32).toNatClampNeg 4) (4 : Int32).toNatClampNeg 5)) := h_41
  have h_44 : Φ12 h = some (o_ 12 [.ref f, .int 5, .int 61, .int 16]) := h_42
  refine z_iinc (k := 1) (v := 6) (lv' := [(3, .int 6), (4, .int 5), (0, .ref h), (1, .ref h2), (2, .int 509)]) B dX10_copyFrom_37 rfl rfl (Nat.le_of_ble_eq_true rfl) rfl ?_
  refine z_goto (tgt := 6) B dX10_copyFrom_40 rfl ?_
  refine z_iload_n B dX10_copyFrom_6 rfl 0 rfl ?_
  refine z_aload_n B dX10_copyFrom_7 rfl 3 rfl ?_
  have h_45 : Φ12 h2 = some (o_ 12 [.ref f2, .int 9, .int b2, .int d2]) := ((fr12 h2 hne_h2_f (Ne.symm hne_h_h2)).trans ((fr11 h2).trans h_37))
  refine z_get (ref := "FlowExporter$Template") (C := RX10) (T := TX10) (N := 4) (ci := 12) (v := .int 9) B (by decide +kernel) rfl 1 (by decide) (by decide +kernel) rfl h_45 rfl dX10_copyFrom_8 ?_
  refine z_icmp_ge (tgt := 43) B dX10_copyFrom_11 rfl (fun h9 => absurd h9 (by decide)) (fun c_13 => ?_)
  refine z_aload_n B dX10_copyFrom_14 rfl 3 rfl ?_
  refine z_iload_n B dX10_copyFrom_15 rfl 0 rfl ?_
  have h_46 : Φ12 f2 = some (ai_ G 9 g2) := ((fr12 f2 (Ne.symm hne_f_f2) (Ne.symm hne_h_f2)).trans ((fr11 f2).trans h_38))
  refine z_callV (As := [.int 6]) (rest := []) B (c_X10_field G l Φ12 sz h2 f2 9 b2 d2 g2 6 h_45 h_46 (by decide) (by decide) (vin rfl)) (cwV 1 B.1.2.2.2.2 gX10_copyFrom_X10_field rfl rfl rfl (by decide +kernel) ⟨Nat.le_of_ble_eq_true rfl, Nat.le_of_ble_eq_true rfl⟩) h_45 rfl rfl rfl rfl (Nat.le_of_ble_eq_true rfl) dX10_copyFrom_16 ⟨Nat.le_of_ble_eq_true rfl, Nat.le_of_ble_eq_true rfl⟩ (fun v13 Φ13 sz13 st13 hp13 hs13 => ?_)
  obtain ⟨rfl, hq13, fr13⟩ := hp13
  replace hq13 : sz13 = sz := hq13
  subst sz13
  replace hs13 : st13 = [.int (g2 (6 : Int32).toNatClampNeg)] := hs13
  subst st13
  refine z_top (st1 := [.int 6]) (by rw [show g2 ((6 : Int32).toNatClampNeg) = 6 from hg6]) ?_
  refine z_istore (lv' := [(4, .int 6), (3, .int 6), (0, .ref h), (1, .ref h2), (2, .int 509)]) B dX10_copyFrom_19 (Nat.le_of_ble_eq_true rfl) rfl ?_
  refine z_iload_n B dX10_copyFrom_21 rfl 4 rfl ?_
  refine z_iload B dX10_copyFrom_22 0 rfl ?_
  refine z_ishr B dX10_copyFrom_24 ?_
  refine z_top (st1 := [.int 7]) (congrArg (fun w9 : Int32 => ([.int w9] : List Value)) (show ((509 : Int32) >>> ((6 : Int32) &&& (31 : Int32)) : Int32) = 7 by decide +kernel)) ?_
  refine z_iconst (v := 1) B dX10_copyFrom_25 rfl ?_
  refine z_iand B dX10_copyFrom_26 ?_
  refine z_top (st1 := [.int 1]) (congrArg (fun w9 : Int32 => ([.int w9] : List Value)) (show (7 &&& 1 : Int32) = 1 by decide +kernel)) ?_
  refine z_iconst (v := 1) B dX10_copyFrom_27 rfl ?_
  refine z_icmp_ne (tgt := 37) B dX10_copyFrom_28 rfl (fun h9 => absurd (by decide) h9) (fun c_14 => ?_)
  refine z_aload_n B dX10_copyFrom_31 rfl 2 rfl ?_
  refine z_iload B dX10_copyFrom_32 0 rfl ?_
  have h_47 : Φ13 h = some (o_ 12 [.ref f, .int 5, .int 61, .int 16]) := ((fr13 h).trans h_44)
  have h_48 : Φ13 f = some (ai_ G 9 (upd (upd (upd (upd (upd g (0 : Int32).toNatClampNeg 0) (1 : Int32).toNatClampNeg 2) (2 : Int32).toNatClampNeg 3) (3 : Int32).toNatClampNeg 4) (4 : Int32).toNatClampNeg 5)) := ((fr13 f).trans h_43)
  refine z_callV (As := [.int 6]) (rest := []) B (c_X10_addField G l Φ13 sz h f 5 61 16 (upd (upd (upd (upd (upd g (0 : Int32).toNatClampNeg 0) (1 : Int32).toNatClampNeg 2) (2 : Int32).toNatClampNeg 3) (3 : Int32).toNatClampNeg 4) (4 : Int32).toNatClampNeg 5) 6 h_47 h_48 hne_h_f hna_h hna_f (by decide) (by decide) (by decide) (by decide) (vin rfl) (vin rfl)) (cwV 1 B.1.2.2.2.2 gX10_copyFrom_X10_addField rfl rfl rfl (by decide +kernel) ⟨Nat.le_of_ble_eq_true rfl, Nat.le_of_ble_eq_true rfl⟩) h_47 rfl rfl rfl rfl (Nat.le_of_ble_eq_true rfl) dX10_copyFrom_34 ⟨Nat.le_of_ble_eq_true rfl, Nat.le_of_ble_eq_true rfl⟩ (fun v14 Φ14 sz14 st14 hp14 hs14 => ?_)
  obtain ⟨rfl, hq14, fr14, h_49, h_50⟩ := hp14
  replace hq14 : sz14 = sz := hq14
  subst sz14
  replace hs14 : st14 = [] := hs14
  subst st14
  have h_51 : Φ14 f = some (ai_ G 9 (upd (upd (upd (upd (upd (upd g (0 : Int32).toNatClampNeg 0) (1 : Int32).toNatClampNeg 2) (2 : Int32).toNatClampNeg 3) (3 : Int32).toNatClampNeg 4) (4 : Int32).toNatClampNeg 5) (5 : Int32).toNatClampNeg 6)) := h_49
  have h_52 : Φ14 h = some (o_ 12 [.ref f, .int 6, .int 125, .int 20]) := h_50
  refine z_iinc (k := 1) (v := 7) (lv' := [(3, .int 7), (4, .int 6), (0, .ref h), (1, .ref h2), (2, .int 509)]) B dX10_copyFrom_37 rfl rfl (Nat.le_of_ble_eq_true rfl) rfl ?_
  refine z_goto (tgt := 6) B dX10_copyFrom_40 rfl ?_
  refine z_iload_n B dX10_copyFrom_6 rfl 0 rfl ?_
  refine z_aload_n B dX10_copyFrom_7 rfl 3 rfl ?_
  have h_53 : Φ14 h2 = some (o_ 12 [.ref f2, .int 9, .int b2, .int d2]) := ((fr14 h2 hne_h2_f (Ne.symm hne_h_h2)).trans ((fr13 h2).trans h_45))
  refine z_get (ref := "FlowExporter$Template") (C := RX10) (T := TX10) (N := 4) (ci := 12) (v := .int 9) B (by decide +kernel) rfl 1 (by decide) (by decide +kernel) rfl h_53 rfl dX10_copyFrom_8 ?_
  refine z_icmp_ge (tgt := 43) B dX10_copyFrom_11 rfl (fun h9 => absurd h9 (by decide)) (fun c_15 => ?_)
  refine z_aload_n B dX10_copyFrom_14 rfl 3 rfl ?_
  refine z_iload_n B dX10_copyFrom_15 rfl 0 rfl ?_
  have h_54 : Φ14 f2 = some (ai_ G 9 g2) := ((fr14 f2 (Ne.symm hne_f_f2) (Ne.symm hne_h_f2)).trans ((fr13 f2).trans h_46))
  refine z_callV (As := [.int 7]) (rest := []) B (c_X10_field G l Φ14 sz h2 f2 9 b2 d2 g2 7 h_53 h_54 (by decide) (by decide) (vin rfl)) (cwV 1 B.1.2.2.2.2 gX10_copyFrom_X10_field rfl rfl rfl (by decide +kernel) ⟨Nat.le_of_ble_eq_true rfl, Nat.le_of_ble_eq_true rfl⟩) h_53 rfl rfl rfl rfl (Nat.le_of_ble_eq_true rfl) dX10_copyFrom_16 ⟨Nat.le_of_ble_eq_true rfl, Nat.le_of_ble_eq_true rfl⟩ (fun v15 Φ15 sz15 st15 hp15 hs15 => ?_)
  obtain ⟨rfl, hq15, fr15⟩ := hp15
  replace hq15 : sz15 = sz := hq15
  subst sz15
  replace hs15 : st15 = [.int (g2 (7 : Int32).toNatClampNeg)] := hs15
  subst st15
  refine z_top (st1 := [.int 7]) (by rw [show g2 ((7 : Int32).toNatClampNeg) = 7 from hg7]) ?_
  refine z_istore (lv' := [(4, .int 7), (3, .int 7), (0, .ref h), (1, .ref h2), (2, .int 509)]) B dX10_copyFrom_19 (Nat.le_of_ble_eq_true rfl) rfl ?_
  refine z_iload_n B dX10_copyFrom_21 rfl 4 rfl ?_
  refine z_iload B dX10_copyFrom_22 0 rfl ?_
  refine z_ishr B dX10_copyFrom_24 ?_
  refine z_top (st1 := [.int 3]) (congrArg (fun w9 : Int32 => ([.int w9] : List Value)) (show ((509 : Int32) >>> ((7 : Int32) &&& (31 : Int32)) : Int32) = 3 by decide +kernel)) ?_
  refine z_iconst (v := 1) B dX10_copyFrom_25 rfl ?_
  refine z_iand B dX10_copyFrom_26 ?_
  refine z_top (st1 := [.int 1]) (congrArg (fun w9 : Int32 => ([.int w9] : List Value)) (show (3 &&& 1 : Int32) = 1 by decide +kernel)) ?_
  refine z_iconst (v := 1) B dX10_copyFrom_27 rfl ?_
  refine z_icmp_ne (tgt := 37) B dX10_copyFrom_28 rfl (fun h9 => absurd (by decide) h9) (fun c_16 => ?_)
  refine z_aload_n B dX10_copyFrom_31 rfl 2 rfl ?_
  refine z_iload B dX10_copyFrom_32 0 rfl ?_
  have h_55 : Φ15 h = some (o_ 12 [.ref f, .int 6, .int 125, .int 20]) := ((fr15 h).trans h_52)
  have h_56 : Φ15 f = some (ai_ G 9 (upd (upd (upd (upd (upd (upd g (0 : Int32).toNatClampNeg 0) (1 : Int32).toNatClampNeg 2) (2 : Int32).toNatClampNeg 3) (3 : Int32).toNatClampNeg 4) (4 : Int32).toNatClampNeg 5) (5 : Int32).toNatClampNeg 6)) := ((fr15 f).trans h_51)
  refine z_callV (As := [.int 7]) (rest := []) B (c_X10_addField G l Φ15 sz h f 6 125 20 (upd (upd (upd (upd (upd (upd g (0 : Int32).toNatClampNeg 0) (1 : Int32).toNatClampNeg 2) (2 : Int32).toNatClampNeg 3) (3 : Int32).toNatClampNeg 4) (4 : Int32).toNatClampNeg 5) (5 : Int32).toNatClampNeg 6) 7 h_55 h_56 hne_h_f hna_h hna_f (by decide) (by decide) (by decide) (by decide) (vin rfl) (vin rfl)) (cwV 1 B.1.2.2.2.2 gX10_copyFrom_X10_addField rfl rfl rfl (by decide +kernel) ⟨Nat.le_of_ble_eq_true rfl, Nat.le_of_ble_eq_true rfl⟩) h_55 rfl rfl rfl rfl (Nat.le_of_ble_eq_true rfl) dX10_copyFrom_34 ⟨Nat.le_of_ble_eq_true rfl, Nat.le_of_ble_eq_true rfl⟩ (fun v16 Φ16 sz16 st16 hp16 hs16 => ?_)
  obtain ⟨rfl, hq16, fr16, h_57, h_58⟩ := hp16
  replace hq16 : sz16 = sz := hq16
  subst sz16
  replace hs16 : st16 = [] := hs16
  subst st16
  have h_59 : Φ16 f = some (ai_ G 9 (upd (upd (upd (upd (upd (upd (upd g (0 : Int32).toNatClampNeg 0) (1 : Int32).toNatClampNeg 2) (2 : Int32).toNatClampNeg 3) (3 : Int32).toNatClampNeg 4) (4 : Int32).toNatClampNeg 5) (5 : Int32).toNatClampNeg 6) (6 : Int32).toNatClampNeg 7)) := h_57
  have h_60 : Φ16 h = some (o_ 12 [.ref f, .int 7, .int 253, .int 24]) := h_58
  refine z_iinc (k := 1) (v := 8) (lv' := [(3, .int 8), (4, .int 7), (0, .ref h), (1, .ref h2), (2, .int 509)]) B dX10_copyFrom_37 rfl rfl (Nat.le_of_ble_eq_true rfl) rfl ?_
  refine z_goto (tgt := 6) B dX10_copyFrom_40 rfl ?_
  refine z_iload_n B dX10_copyFrom_6 rfl 0 rfl ?_
  refine z_aload_n B dX10_copyFrom_7 rfl 3 rfl ?_
  have h_61 : Φ16 h2 = some (o_ 12 [.ref f2, .int 9, .int b2, .int d2]) := ((fr16 h2 hne_h2_f (Ne.symm hne_h_h2)).trans ((fr15 h2).trans h_53))
  refine z_get (ref := "FlowExporter$Template") (C := RX10) (T := TX10) (N := 4) (ci := 12) (v := .int 9) B (by decide +kernel) rfl 1 (by decide) (by decide +kernel) rfl h_61 rfl dX10_copyFrom_8 ?_
  refine z_icmp_ge (tgt := 43) B dX10_copyFrom_11 rfl (fun h9 => absurd h9 (by decide)) (fun c_17 => ?_)
  refine z_aload_n B dX10_copyFrom_14 rfl 3 rfl ?_
  refine z_iload_n B dX10_copyFrom_15 rfl 0 rfl ?_
  have h_62 : Φ16 f2 = some (ai_ G 9 g2) := ((fr16 f2 (Ne.symm hne_f_f2) (Ne.symm hne_h_f2)).trans ((fr15 f2).trans h_54))
  refine z_callV (As := [.int 8]) (rest := []) B (c_X10_field G l Φ16 sz h2 f2 9 b2 d2 g2 8 h_61 h_62 (by decide) (by decide) (vin rfl)) (cwV 1 B.1.2.2.2.2 gX10_copyFrom_X10_field rfl rfl rfl (by decide +kernel) ⟨Nat.le_of_ble_eq_true rfl, Nat.le_of_ble_eq_true rfl⟩) h_61 rfl rfl rfl rfl (Nat.le_of_ble_eq_true rfl) dX10_copyFrom_16 ⟨Nat.le_of_ble_eq_true rfl, Nat.le_of_ble_eq_true rfl⟩ (fun v17 Φ17 sz17 st17 hp17 hs17 => ?_)
  obtain ⟨rfl, hq17, fr17⟩ := hp17
  replace hq17 : sz17 = sz := hq17
  subst sz17
  replace hs17 : st17 = [.int (g2 (8 : Int32).toNatClampNeg)] := hs17
  subst st17
  refine z_top (st1 := [.int 8]) (by rw [show g2 ((8 : Int32).toNatClampNeg) = 8 from hg8]) ?_
  refine z_istore (lv' := [(4, .int 8), (3, .int 8), (0, .ref h), (1, .ref h2), (2, .int 509)]) B dX10_copyFrom_19 (Nat.le_of_ble_eq_true rfl) rfl ?_
  refine z_iload_n B dX10_copyFrom_21 rfl 4 rfl ?_
  refine z_iload B dX10_copyFrom_22 0 rfl ?_
  refine z_ishr B dX10_copyFrom_24 ?_
  refine z_top (st1 := [.int 1]) (congrArg (fun w9 : Int32 => ([.int w9] : List Value)) (show ((509 : Int32) >>> ((8 : Int32) &&& (31 : Int32)) : Int32) = 1 by decide +kernel)) ?_
  refine z_iconst (v := 1) B dX10_copyFrom_25 rfl ?_
  refine z_iand B dX10_copyFrom_26 ?_
  refine z_top (st1 := [.int 1]) (congrArg (fun w9 : Int32 => ([.int w9] : List Value)) (show (1 &&& 1 : Int32) = 1 by decide +kernel)) ?_
  refine z_iconst (v := 1) B dX10_copyFrom_27 rfl ?_
  refine z_icmp_ne (tgt := 37) B dX10_copyFrom_28 rfl (fun h9 => absurd (by decide) h9) (fun c_18 => ?_)
  refine z_aload_n B dX10_copyFrom_31 rfl 2 rfl ?_
  refine z_iload B dX10_copyFrom_32 0 rfl ?_
  have h_63 : Φ17 h = some (o_ 12 [.ref f, .int 7, .int 253, .int 24]) := ((fr17 h).trans h_60)
  have h_64 : Φ17 f = some (ai_ G 9 (upd (upd (upd (upd (upd (upd (upd g (0 : Int32).toNatClampNeg 0) (1 : Int32).toNatClampNeg 2) (2 : Int32).toNatClampNeg 3) (3 : Int32).toNatClampNeg 4) (4 : Int32).toNatClampNeg 5) (5 : Int32).toNatClampNeg 6) (6 : Int32).toNatClampNeg 7)) := ((fr17 f).trans h_59)
  refine z_callV (As := [.int 8]) (rest := []) B (c_X10_addField G l Φ17 sz h f 7 253 24 (upd (upd (upd (upd (upd (upd (upd g (0 : Int32).toNatClampNeg 0) (1 : Int32).toNatClampNeg 2) (2 : Int32).toNatClampNeg 3) (3 : Int32).toNatClampNeg 4) (4 : Int32).toNatClampNeg 5) (5 : Int32).toNatClampNeg 6) (6 : Int32).toNatClampNeg 7) 8 h_63 h_64 hne_h_f hna_h hna_f (by decide) (by decide) (by decide) (by decide) (vin rfl) (vin rfl)) (cwV 1 B.1.2.2.2.2 gX10_copyFrom_X10_addField rfl rfl rfl (by decide +kernel) ⟨Nat.le_of_ble_eq_true rfl, Nat.le_of_ble_eq_true rfl⟩) h_63 rfl rfl rfl rfl (Nat.le_of_ble_eq_true rfl) dX10_copyFrom_34 ⟨Nat.le_of_ble_eq_true rfl, Nat.le_of_ble_eq_true rfl⟩ (fun v18 Φ18 sz18 st18 hp18 hs18 => ?_)
  obtain ⟨rfl, hq18, fr18, h_65, h_66⟩ := hp18
  replace hq18 : sz18 = sz := hq18
  subst sz18
  replace hs18 : st18 = [] := hs18
  subst st18
  have h_67 : Φ18 f = some (ai_ G 9 (upd (upd (upd (upd (upd (upd (upd (upd g (0 : Int32).toNatClampNeg 0) (1 : Int32).toNatClampNeg 2) (2 : Int32).toNatClampNeg 3) (3 : Int32).toNatClampNeg 4) (4 : Int32).toNatClampNeg 5) (5 : Int32).toNatClampNeg 6) (6 : Int32).toNatClampNeg 7) (7 : Int32).toNatClampNeg 8)) := h_65
  have h_68 : Φ18 h = some (o_ 12 [.ref f, .int 8, .int 509, .int 28]) := h_66
  refine z_iinc (k := 1) (v := 9) (lv' := [(3, .int 9), (4, .int 8), (0, .ref h), (1, .ref h2), (2, .int 509)]) B dX10_copyFrom_37 rfl rfl (Nat.le_of_ble_eq_true rfl) rfl ?_
  refine z_goto (tgt := 6) B dX10_copyFrom_40 rfl ?_
  refine z_iload_n B dX10_copyFrom_6 rfl 0 rfl ?_
  refine z_aload_n B dX10_copyFrom_7 rfl 3 rfl ?_
  have h_69 : Φ18 h2 = some (o_ 12 [.ref f2, .int 9, .int b2, .int d2]) := ((fr18 h2 hne_h2_f (Ne.symm hne_h_h2)).trans ((fr17 h2).trans h_61))
  refine z_get (ref := "FlowExporter$Template") (C := RX10) (T := TX10) (N := 4) (ci := 12) (v := .int 9) B (by decide +kernel) rfl 1 (by decide) (by decide +kernel) rfl h_69 rfl dX10_copyFrom_8 ?_
  refine z_icmp_ge (tgt := 43) B dX10_copyFrom_11 rfl (fun c_19 => ?_) (fun h9 => absurd (by decide) h9)
  exact z_ret_v B dX10_copyFrom_43 ⟨rfl, rfl, (fun b9 h9a h9b => ((fr18 b9 h9a h9b).trans ((fr17 b9).trans ((fr16 b9 h9a h9b).trans ((fr15 b9).trans ((fr14 b9 h9a h9b).trans ((fr13 b9).trans ((fr12 b9 h9a h9b).trans ((fr11 b9).trans ((fr10 b9 h9a h9b).trans ((fr9 b9).trans ((fr8 b9 h9a h9b).trans ((fr7 b9).trans ((fr6 b9 h9a h9b).trans ((fr5 b9).trans ((fr4 b9).trans ((fr3 b9 h9a h9b).trans ((fr2 b9).trans ((fr1 b9 h9b).trans rfl))))))))))))))))))), h_67, h_68⟩

set_option maxHeartbeats 4000000 in
set_option maxRecDepth 100000 in
theorem c_X10_copyFrom_z1 (G : EnvG) (l : Launch) (Φ : Hm) (sz : Nat) (h : Nat) (f : Nat) (a : Int32) (b : Int32) (d : Int32) (h2 : Nat) (f2 : Nat) (b2 : Int32) (d2 : Int32) (hc0 : Φ h = some (o_ 12 [.ref f, .int a, .int b, .int d])) (hc1 : Φ h2 = some (o_ 12 [.ref f2, .int 0, .int b2, .int d2])) (hne_h_h2 : h ≠ h2) (hna_h : G.2.2.2 ≤ h) : Ct G l yX10_copyFrom wsX10_copyFrom ({ frames := 1, cells := 0, slots := 0, locals := 20 }) 0 0 [.ref h, .ref h2, .int 509] Φ sz (fun v Φ1 sz1 => v = none ∧ sz1 = sz ∧ (∀ b9 : Nat, b9 ≠ h → Φ1 b9 = Φ b9) ∧ Φ1 h = some (o_ 12 [.ref f, .int 0, .int 0, .int 0])) := by
  refine Ct.of (cc := cX10_copyFrom) (maxL := 5) (ret := none) (by decide) rfl (Nat.le_of_ble_eq_true rfl) ?_
  intro p9 e9 s9 m9 w9 t9 k9 B
  show Z p9 l e9 _ s9 m9 _ w9 t9 k9 _ G 5 0 [(0, .ref h), (1, .ref h2), (2, .int 509)] [] Φ (sz) 0 0
  refine z_aload_n B dX10_copyFrom_0 rfl 0 rfl ?_
  refine z_callV (As := []) (rest := []) B (c_X10_clear G l Φ sz h f a b d hc0 hna_h) (cwV 0 B.1.2.2.2.2 gX10_copyFrom_X10_clear rfl rfl rfl (by decide +kernel) ⟨Nat.le_of_ble_eq_true rfl, Nat.le_of_ble_eq_true rfl⟩) hc0 rfl rfl rfl rfl (Nat.le_of_ble_eq_true rfl) dX10_copyFrom_1 ⟨Nat.le_of_ble_eq_true rfl, Nat.le_of_ble_eq_true rfl⟩ (fun v1 Φ1 sz1 st1 hp1 hs1 => ?_)
  obtain ⟨rfl, hq1, fr1, h_1⟩ := hp1
  replace hq1 : sz1 = sz := hq1
  subst sz1
  replace hs1 : st1 = [] := hs1
  subst st1
  have h_2 : Φ1 h = some (o_ 12 [.ref f, .int 0, .int 0, .int 0]) := h_1
  refine z_iconst (v := 0) B dX10_copyFrom_4 rfl ?_
  refine z_istore_n (lv' := [(3, .int 0), (0, .ref h), (1, .ref h2), (2, .int 509)]) B dX10_copyFrom_5 rfl (Nat.le_of_ble_eq_true rfl) rfl ?_
  refine z_iload_n B dX10_copyFrom_6 rfl 0 rfl ?_
  refine z_aload_n B dX10_copyFrom_7 rfl 2 rfl ?_
  have h_3 : Φ1 h2 = some (o_ 12 [.ref f2, .int 0, .int b2, .int d2]) := ((fr1 h2 (Ne.symm hne_h_h2)).trans hc1)
  refine z_get (ref := "FlowExporter$Template") (C := RX10) (T := TX10) (N := 4) (ci := 12) (v := .int 0) B (by decide +kernel) rfl 1 (by decide) (by decide +kernel) rfl h_3 rfl dX10_copyFrom_8 ?_
  refine z_icmp_ge (tgt := 43) B dX10_copyFrom_11 rfl (fun c_1 => ?_) (fun h9 => absurd (by decide) h9)
  exact z_ret_v B dX10_copyFrom_43 ⟨rfl, rfl, (fun b9 h9a => ((fr1 b9 h9a).trans rfl)), h_2⟩

set_option maxHeartbeats 4000000 in
set_option maxRecDepth 100000 in
theorem f_X1_support_s1 (G : EnvG) (l : Launch) (Φ : Hm) (sz : Nat) (x : Nat) (hc3_ : Φ (x + 3) = some (o_ 3 [.ref (x + 4), .ref (x + 5), .ref (x + 6), .ref (x + 7), .int 1, .int 511])) (hc6_ : Φ (x + 6) = some (aq_ G 4 4 (va_up (va_up (va_up (va_up (fun _ => none) (0 : Int32).toNatClampNeg (some (x + 8))) (1 : Int32).toNatClampNeg (some (x + 12))) (2 : Int32).toNatClampNeg (some (x + 16))) (3 : Int32).toNatClampNeg (some (x + 20))))) (hc7_ : Φ (x + 7) = some (aq_ G 4 4 (va_up (va_up (va_up (va_up (fun _ => none) (0 : Int32).toNatClampNeg (some (x + 10))) (1 : Int32).toNatClampNeg (some (x + 14))) (2 : Int32).toNatClampNeg (some (x + 18))) (3 : Int32).toNatClampNeg (some (x + 22))))) (hc8_ : Φ (x + 8) = some (o_ 12 [.ref (x + 9), .int 9, .int 511, .int 29])) (hc9_ : Φ (x + 9) = some (ai_ G 9 (upd (upd (upd (upd (upd (upd (upd (upd (upd (fun _ => 0) (0 : Int32).toNatClampNeg 0) (1 : Int32).toNatClampNeg 1) (2 : Int32).toNatClampNeg 2) (3 : Int32).toNatClampNeg 3) (4 : Int32).toNatClampNeg 4) (5 : Int32).toNatClampNeg 5) (6 : Int32).toNatClampNeg 6) (7 : Int32).toNatClampNeg 7) (8 : Int32).toNatClampNeg 8))) (hc10_ : Φ (x + 10) = some (o_ 12 [.ref (x + 11), .int 9, .int 511, .int 29])) (hc11_ : Φ (x + 11) = some (ai_ G 9 (upd (upd (upd (upd (upd (upd (upd (upd (upd (fun _ => 0) (0 : Int32).toNatClampNeg 0) (1 : Int32).toNatClampNeg 1) (2 : Int32).toNatClampNeg 2) (3 : Int32).toNatClampNeg 3) (4 : Int32).toNatClampNeg 4) (5 : Int32).toNatClampNeg 5) (6 : Int32).toNatClampNeg 6) (7 : Int32).toNatClampNeg 7) (8 : Int32).toNatClampNeg 8))) (hc12_ : Φ (x + 12) = some (o_ 12 [.ref (x + 13), .int 0, .int 0, .int 0])) (hc14_ : Φ (x + 14) = some (o_ 12 [.ref (x + 15), .int 0, .int 0, .int 0])) (hc16_ : Φ (x + 16) = some (o_ 12 [.ref (x + 17), .int 0, .int 0, .int 0])) (hc18_ : Φ (x + 18) = some (o_ 12 [.ref (x + 19), .int 0, .int 0, .int 0])) (hc20_ : Φ (x + 20) = some (o_ 12 [.ref (x + 21), .int 0, .int 0, .int 0])) (hc22_ : Φ (x + 22) = some (o_ 12 [.ref (x + 23), .int 0, .int 0, .int 0])) (hna : G.2.2.2 ≤ x) : Ct G l yX1_support wsX1_support ({ frames := 2, cells := 0, slots := 0, locals := 45 }) 0 0 [.ref (x + 3), .int 509] Φ sz (fun v Φ1 sz1 => v = none ∧ sz1 = sz ∧ (∀ b9 : Nat, b9 ≠ x + 10 → b9 ≠ x + 11 → b9 ≠ x + 14 → b9 ≠ x + 18 → b9 ≠ x + 22 → b9 ≠ x + 3 → Φ1 b9 = Φ b9) ∧ Φ1 (x + 10) = some (o_ 12 [.ref (x + 11), .int 8, .int 509, .int 28]) ∧ Φ1 (x + 11) = some (ai_ G 9 (upd (upd (upd (upd (upd (upd (upd (upd (upd (upd (upd (upd (upd (upd (upd (upd (upd (fun _ => 0) (0 : Int32).toNatClampNeg 0) (1 : Int32).toNatClampNeg 1) (2 : Int32).toNatClampNeg 2) (3 : Int32).toNatClampNeg 3) (4 : Int32).toNatClampNeg 4) (5 : Int32).toNatClampNeg 5) (6 : Int32).toNatClampNeg 6) (7 : Int32).toNatClampNeg 7) (8 : Int32).toNatClampNeg 8) (0 : Int32).toNatClampNeg 0) (1 : Int32).toNatClampNeg 2) (2 : Int32).toNatClampNeg 3) (3 : Int32).toNatClampNeg 4) (4 : Int32).toNatClampNeg 5) (5 : Int32).toNatClampNeg 6) (6 : Int32).toNatClampNeg 7) (7 : Int32).toNatClampNeg 8)) ∧ Φ1 (x + 14) = some (o_ 12 [.ref (x + 15), .int 0, .int 0, .int 0]) ∧ Φ1 (x + 18) = some (o_ 12 [.ref (x + 19), .int 0, .int 0, .int 0]) ∧ Φ1 (x + 22) = some (o_ 12 [.ref (x + 23), .int 0, .int 0, .int 0]) ∧ Φ1 (x + 3) = some (o_ 3 [.ref (x + 4), .ref (x + 5), .ref (x + 6), .ref (x + 7), .int 1, .int 509])) := by
  refine Ct.of (cc := cX1_support) (maxL := 3) (ret := none) (by decide) rfl (Nat.le_of_ble_eq_true rfl) ?_
  intro p9 e9 s9 m9 w9 t9 k9 B
  show Z p9 l e9 _ s9 m9 _ w9 t9 k9 _ G 3 0 [(0, .ref (x + 3)), (1, .int 509)] [] Φ sz 0 0
  refine z_aload_n B dX1_support_0 rfl 0 rfl ?_
  refine z_iload_n B dX1_support_1 rfl 1 rfl ?_
  refine z_put (ref := "FlowExporter$Config") (C := RX1) (T := TX1) (N := 6) (ci := 3) (v := .int 509) B (by decide +kernel) tyX1 tyX1_ok nmX1 rfl 5 (by decide) (by decide +kernel) rfl (Or.inl rfl) hc3_ (Nat.le_trans hna (Nat.le_add_right x 3)) rfl rfl (Nat.le_of_ble_eq_true rfl) dX1_support_2 (fun Φ1 hΦ1 => ?_)
  have h_1 : Φ1 (x + 3) = some (o_ 3 [.ref (x + 4), .ref (x + 5), .ref (x + 6), .ref (x + 7), .int 1, .int 509]) := fset_at hΦ1
  refine z_iconst (v := 0) B dX1_support_5 rfl ?_
  refine z_istore_n (lv' := [(2, .int 0), (0, .ref (x + 3)), (1, .int 509)]) B dX1_support_6 rfl (Nat.le_of_ble_eq_true rfl) rfl ?_
  refine z_iload_n B dX1_support_7 rfl 0 rfl ?_
  refine z_iconst (v := 4) B dX1_support_8 rfl ?_
  refine z_icmp_ge (tgt := 34) B dX1_support_9 rfl (fun h9 => absurd h9 (by decide)) (fun c_1 => ?_)
  refine z_aload_n B dX1_support_12 rfl 1 rfl ?_
  refine z_get (ref := "FlowExporter$Config") (C := RX1) (T := TX1) (N := 6) (ci := 3) (v := .ref (x + 7)) B (by decide +kernel) rfl 3 (by decide) (by decide +kernel) rfl h_1 rfl dX1_support_13 ?_
  refine z_iload_n B dX1_support_16 rfl 0 rfl ?_
  have h_2 : Φ1 (x + 7) = some (aq_ G 4 4 (va_up (va_up (va_up (va_up (fun _ => none) (0 : Int32).toNatClampNeg (some (x + 10))) (1 : Int32).toNatClampNeg (some (x + 14))) (2 : Int32).toNatClampNeg (some (x + 18))) (3 : Int32).toNatClampNeg (some (x + 22)))) := ((fset_fr hΦ1 (ne_off (x := x) (i := 7) (j := 3) rfl)).trans hc7_)
  refine z_aald (b := x + 10) B rfl h_2 (vin rfl) rfl dX1_support_17 ?_
  refine z_aload_n B dX1_support_18 rfl 1 rfl ?_
  refine z_get (ref := "FlowExporter$Config") (C := RX1) (T := TX1) (N := 6) (ci := 3) (v := .ref (x + 6)) B (by decide +kernel) rfl 2 (by decide) (by decide +kernel) rfl h_1 rfl dX1_support_19 ?_
  refine z_iload_n B dX1_support_22 rfl 0 rfl ?_
  have h_3 : Φ1 (x + 6) = some (aq_ G 4 4 (va_up (va_up (va_up (va_up (fun _ => none) (0 : Int32).toNatClampNeg (some (x + 8))) (1 : Int32).toNatClampNeg (some (x + 12))) (2 : Int32).toNatClampNeg (some (x + 16))) (3 : Int32).toNatClampNeg (some (x + 20)))) := ((fset_fr hΦ1 (ne_off (x := x) (i := 6) (j := 3) rfl)).trans hc6_)
  refine z_aald (b := x + 8) B rfl h_3 (vin rfl) rfl dX1_support_23 ?_
  refine z_iload_n B dX1_support_24 rfl 2 rfl ?_
  have h_4 : Φ1 (x + 10) = some (o_ 12 [.ref (x + 11), .int 9, .int 511, .int 29]) := ((fset_fr hΦ1 (ne_off (x := x) (i := 10) (j := 3) rfl)).trans hc10_)
  have h_5 : Φ1 (x + 11) = some (ai_ G 9 (upd (upd (upd (upd (upd (upd (upd (upd (upd (fun _ => 0) (0 : Int32).toNatClampNeg 0) (1 : Int32).toNatClampNeg 1) (2 : Int32).toNatClampNeg 2) (3 : Int32).toNatClampNeg 3) (4 : Int32).toNatClampNeg 4) (5 : Int32).toNatClampNeg 5) (6 : Int32).toNatClampNeg 6) (7 : Int32).toNatClampNeg 7) (8 : Int32).toNatClampNeg 8)) := ((fset_fr hΦ1 (ne_off (x := x) (i := 11) (j := 3) rfl)).trans hc11_)
  have h_6 : Φ1 (x + 8) = some (o_ 12 [.ref (x + 9), .int 9, .int 511, .int 29]) := ((fset_fr hΦ1 (ne_off (x := x) (i := 8) (j := 3) rfl)).trans hc8_)
  have h_7 : Φ1 (x + 9) = some (ai_ G 9 (upd (upd (upd (upd (upd (upd (upd (upd (upd (fun _ => 0) (0 : Int32).toNatClampNeg 0) (1 : Int32).toNatClampNeg 1) (2 : Int32).toNatClampNeg 2) (3 : Int32).toNatClampNeg 3) (4 : Int32).toNatClampNeg 4) (5 : Int32).toNatClampNeg 5) (6 : Int32).toNatClampNeg 6) (7 : Int32).toNatClampNeg 7) (8 : Int32).toNatClampNeg 8)) := ((fset_fr hΦ1 (ne_off (x := x) (i := 9) (j := 3) rfl)).trans hc9_)
  refine z_callV (As := [.ref (x + 8), .int 509]) (rest := []) B (c_X10_copyFrom_s1 G l Φ1 sz (x + 10) (x + 11) 9 511 29 (upd (upd (upd (upd (upd (upd (upd (upd (upd (fun _ => 0) (0 : Int32).toNatClampNeg 0) (1 : Int32).toNatClampNeg 1) (2 : Int32).toNatClampNeg 2) (3 : Int32).toNatClampNeg 3) (4 : Int32).toNatClampNeg 4) (5 : Int32).toNatClampNeg 5) (6 : Int32).toNatClampNeg 6) (7 : Int32).toNatClampNeg 7) (8 : Int32).toNatClampNeg 8) (x + 8) (x + 9) 511 29 (upd (upd (upd (upd (upd (upd (upd (upd (upd (fun _ => 0) (0 : Int32).toNatClampNeg 0) (1 : Int32).toNatClampNeg 1) (2 : Int32).toNatClampNeg 2) (3 : Int32).toNatClampNeg 3) (4 : Int32).toNatClampNeg 4) (5 : Int32).toNatClampNeg 5) (6 : Int32).toNatClampNeg 6) (7 : Int32).toNatClampNeg 7) (8 : Int32).toNatClampNeg 8) h_4 h_5 h_6 h_7 (ne_off (x := x) (i := 10) (j := 8) rfl) (ne_off (x := x) (i := 11) (j := 9) rfl) (ne_off (x := x) (i := 10) (j := 11) rfl) (ne_off (x := x) (i := 8) (j := 11) rfl) (ne_off (x := x) (i := 10) (j := 9) rfl) (ne_off (x := x) (i := 8) (j := 9) rfl) (Nat.le_trans hna (Nat.le_add_right x 10)) (Nat.le_trans hna (Nat.le_add_right x 11)) rfl rfl rfl rfl rfl rfl rfl rfl rfl) (cwV 2 B.1.2.2.2.2 gX1_support_X10_copyFrom rfl rfl rfl (by decide +kernel) ⟨Nat.le_of_ble_eq_true rfl, Nat.le_of_ble_eq_true rfl⟩) h_4 rfl rfl rfl rfl (Nat.le_of_ble_eq_true rfl) dX1_support_25 ⟨Nat.le_of_ble_eq_true rfl, Nat.le_of_ble_eq_true rfl⟩ (fun v1 Φ2 sz1 st1 hp1 hs1 => ?_)
  obtain ⟨rfl, hq1, fr1, h_8, h_9⟩ := hp1
  replace hq1 : sz1 = sz := hq1
  subst sz1
  replace hs1 : st1 = [] := hs1
  subst st1
  have h_10 : Φ2 (x + 11) = some (ai_ G 9 (upd (upd (upd (upd (upd (upd (upd (upd (upd (upd (upd (upd (upd (upd (upd (upd (upd (fun _ => 0) (0 : Int32).toNatClampNeg 0) (1 : Int32).toNatClampNeg 1) (2 : Int32).toNatClampNeg 2) (3 : Int32).toNatClampNeg 3) (4 : Int32).toNatClampNeg 4) (5 : Int32).toNatClampNeg 5) (6 : Int32).toNatClampNeg 6) (7 : Int32).toNatClampNeg 7) (8 : Int32).toNatClampNeg 8) (0 : Int32).toNatClampNeg 0) (1 : Int32).toNatClampNeg 2) (2 : Int32).toNatClampNeg 3) (3 : Int32).toNatClampNeg 4) (4 : Int32).toNatClampNeg 5) (5 : Int32).toNatClampNeg 6) (6 : Int32).toNatClampNeg 7) (7 : Int32).toNatClampNeg 8)) := h_8
  have h_11 : Φ2 (x + 10) = some (o_ 12 [.ref (x + 11), .int 8, .int 509, .int 28]) := h_9
  refine z_iinc (k := 0) (v := 1) (lv' := [(2, .int 1), (0, .ref (x + 3)), (1, .int 509)]) B dX1_support_28 rfl rfl (Nat.le_of_ble_eq_true rfl) rfl ?_
  refine z_goto (tgt := 7) B dX1_support_31 rfl ?_
  refine z_iload_n B dX1_support_7 rfl 0 rfl ?_
  refine z_iconst (v := 4) B dX1_support_8 rfl ?_
  refine z_icmp_ge (tgt := 34) B dX1_support_9 rfl (fun h9 => absurd h9 (by decide)) (fun c_2 => ?_)
  refine z_aload_n B dX1_support_12 rfl 1 rfl ?_
  have h_12 : Φ2 (x + 3) = some (o_ 3 [.ref (x + 4), .ref (x + 5), .ref (x + 6), .ref (x + 7), .int 1, .int 509]) := ((fr1 (x + 3) (ne_off (x := x) (i := 3) (j := 11) rfl) (ne_off (x := x) (i := 3) (j := 10) rfl)).trans h_1)
  refine z_get (ref := "FlowExporter$Config") (C := RX1) (T := TX1) (N := 6) (ci := 3) (v := .ref (x + 7)) B (by decide +kernel) rfl 3 (by decide) (by decide +kernel) rfl h_12 rfl dX1_support_13 ?_
  refine z_iload_n B dX1_support_16 rfl 0 rfl ?_
  have h_13 : Φ2 (x + 7) = some (aq_ G 4 4 (va_up (va_up (va_up (va_up (fun _ => none) (0 : Int32).toNatClampNeg (some (x + 10))) (1 : Int32).toNatClampNeg (some (x + 14))) (2 : Int32).toNatClampNeg (some (x + 18))) (3 : Int32).toNatClampNeg (some (x + 22)))) := ((fr1 (x + 7) (ne_off (x := x) (i := 7) (j := 11) rfl) (ne_off (x := x) (i := 7) (j := 10) rfl)).trans h_2)
  refine z_aald (b := x + 14) B rfl h_13 (vin rfl) rfl dX1_support_17 ?_
  refine z_aload_n B dX1_support_18 rfl 1 rfl ?_
  refine z_get (ref := "FlowExporter$Config") (C := RX1) (T := TX1) (N := 6) (ci := 3) (v := .ref (x + 6)) B (by decide +kernel) rfl 2 (by decide) (by decide +kernel) rfl h_12 rfl dX1_support_19 ?_
  refine z_iload_n B dX1_support_22 rfl 0 rfl ?_
  have h_14 : Φ2 (x + 6) = some (aq_ G 4 4 (va_up (va_up (va_up (va_up (fun _ => none) (0 : Int32).toNatClampNeg (some (x + 8))) (1 : Int32).toNatClampNeg (some (x + 12))) (2 : Int32).toNatClampNeg (some (x + 16))) (3 : Int32).toNatClampNeg (some (x + 20)))) := ((fr1 (x + 6) (ne_off (x := x) (i := 6) (j := 11) rfl) (ne_off (x := x) (i := 6) (j := 10) rfl)).trans h_3)
  refine z_aald (b := x + 12) B rfl h_14 (vin rfl) rfl dX1_support_23 ?_
  refine z_iload_n B dX1_support_24 rfl 2 rfl ?_
  have h_15 : Φ2 (x + 14) = some (o_ 12 [.ref (x + 15), .int 0, .int 0, .int 0]) := ((fr1 (x + 14) (ne_off (x := x) (i := 14) (j := 11) rfl) (ne_off (x := x) (i := 14) (j := 10) rfl)).trans ((fset_fr hΦ1 (ne_off (x := x) (i := 14) (j := 3) rfl)).trans hc14_))
  have h_16 : Φ2 (x + 12) = some (o_ 12 [.ref (x + 13), .int 0, .int 0, .int 0]) := ((fr1 (x + 12) (ne_off (x := x) (i := 12) (j := 11) rfl) (ne_off (x := x) (i := 12) (j := 10) rfl)).trans ((fset_fr hΦ1 (ne_off (x := x) (i := 12) (j := 3) rfl)).trans hc12_))
  refine z_callV (As := [.ref (x + 12), .int 509]) (rest := []) B (c_X10_copyFrom_z1 G l Φ2 sz (x + 14) (x + 15) 0 0 0 (x + 12) (x + 13) 0 0 h_15 h_16 (ne_off (x := x) (i := 14) (j := 12) rfl) (Nat.le_trans hna (Nat.le_add_right x 14))) (cwV 2 B.1.2.2.2.2 gX1_support_X10_copyFrom rfl rfl rfl (by decide +kernel) ⟨Nat.le_of_ble_eq_true rfl, Nat.le_of_ble_eq_true rfl⟩) h_15 rfl rfl rfl rfl (Nat.le_of_ble_eq_true rfl) dX1_support_25 ⟨Nat.le_of_ble_eq_true rfl, Nat.le_of_ble_eq_true rfl⟩ (fun v2 Φ3 sz2 st2 hp2 hs2 => ?_)
  obtain ⟨rfl, hq2, fr2, h_17⟩ := hp2
  replace hq2 : sz2 = sz := hq2
  subst sz2
  replace hs2 : st2 = [] := hs2
  subst st2
  have h_18 : Φ3 (x + 14) = some (o_ 12 [.ref (x + 15), .int 0, .int 0, .int 0]) := h_17
  refine z_iinc (k := 0) (v := 2) (lv' := [(2, .int 2), (0, .ref (x + 3)), (1, .int 509)]) B dX1_support_28 rfl rfl (Nat.le_of_ble_eq_true rfl) rfl ?_
  refine z_goto (tgt := 7) B dX1_support_31 rfl ?_
  refine z_iload_n B dX1_support_7 rfl 0 rfl ?_
  refine z_iconst (v := 4) B dX1_support_8 rfl ?_
  refine z_icmp_ge (tgt := 34) B dX1_support_9 rfl (fun h9 => absurd h9 (by decide)) (fun c_3 => ?_)
  refine z_aload_n B dX1_support_12 rfl 1 rfl ?_
  have h_19 : Φ3 (x + 3) = some (o_ 3 [.ref (x + 4), .ref (x + 5), .ref (x + 6), .ref (x + 7), .int 1, .int 509]) := ((fr2 (x + 3) (ne_off (x := x) (i := 3) (j := 14) rfl)).trans h_12)
  refine z_get (ref := "FlowExporter$Config") (C := RX1) (T := TX1) (N := 6) (ci := 3) (v := .ref (x + 7)) B (by decide +kernel) rfl 3 (by decide) (by decide +kernel) rfl h_19 rfl dX1_support_13 ?_
  refine z_iload_n B dX1_support_16 rfl 0 rfl ?_
  have h_20 : Φ3 (x + 7) = some (aq_ G 4 4 (va_up (va_up (va_up (va_up (fun _ => none) (0 : Int32).toNatClampNeg (some (x + 10))) (1 : Int32).toNatClampNeg (some (x + 14))) (2 : Int32).toNatClampNeg (some (x + 18))) (3 : Int32).toNatClampNeg (some (x + 22)))) := ((fr2 (x + 7) (ne_off (x := x) (i := 7) (j := 14) rfl)).trans h_13)
  refine z_aald (b := x + 18) B rfl h_20 (vin rfl) rfl dX1_support_17 ?_
  refine z_aload_n B dX1_support_18 rfl 1 rfl ?_
  refine z_get (ref := "FlowExporter$Config") (C := RX1) (T := TX1) (N := 6) (ci := 3) (v := .ref (x + 6)) B (by decide +kernel) rfl 2 (by decide) (by decide +kernel) rfl h_19 rfl dX1_support_19 ?_
  refine z_iload_n B dX1_support_22 rfl 0 rfl ?_
  have h_21 : Φ3 (x + 6) = some (aq_ G 4 4 (va_up (va_up (va_up (va_up (fun _ => none) (0 : Int32).toNatClampNeg (some (x + 8))) (1 : Int32).toNatClampNeg (some (x + 12))) (2 : Int32).toNatClampNeg (some (x + 16))) (3 : Int32).toNatClampNeg (some (x + 20)))) := ((fr2 (x + 6) (ne_off (x := x) (i := 6) (j := 14) rfl)).trans h_14)
  refine z_aald (b := x + 16) B rfl h_21 (vin rfl) rfl dX1_support_23 ?_
  refine z_iload_n B dX1_support_24 rfl 2 rfl ?_
  have h_22 : Φ3 (x + 18) = some (o_ 12 [.ref (x + 19), .int 0, .int 0, .int 0]) := ((fr2 (x + 18) (ne_off (x := x) (i := 18) (j := 14) rfl)).trans ((fr1 (x + 18) (ne_off (x := x) (i := 18) (j := 11) rfl) (ne_off (x := x) (i := 18) (j := 10) rfl)).trans ((fset_fr hΦ1 (ne_off (x := x) (i := 18) (j := 3) rfl)).trans hc18_)))
  have h_23 : Φ3 (x + 16) = some (o_ 12 [.ref (x + 17), .int 0, .int 0, .int 0]) := ((fr2 (x + 16) (ne_off (x := x) (i := 16) (j := 14) rfl)).trans ((fr1 (x + 16) (ne_off (x := x) (i := 16) (j := 11) rfl) (ne_off (x := x) (i := 16) (j := 10) rfl)).trans ((fset_fr hΦ1 (ne_off (x := x) (i := 16) (j := 3) rfl)).trans hc16_)))
  refine z_callV (As := [.ref (x + 16), .int 509]) (rest := []) B (c_X10_copyFrom_z1 G l Φ3 sz (x + 18) (x + 19) 0 0 0 (x + 16) (x + 17) 0 0 h_22 h_23 (ne_off (x := x) (i := 18) (j := 16) rfl) (Nat.le_trans hna (Nat.le_add_right x 18))) (cwV 2 B.1.2.2.2.2 gX1_support_X10_copyFrom rfl rfl rfl (by decide +kernel) ⟨Nat.le_of_ble_eq_true rfl, Nat.le_of_ble_eq_true rfl⟩) h_22 rfl rfl rfl rfl (Nat.le_of_ble_eq_true rfl) dX1_support_25 ⟨Nat.le_of_ble_eq_true rfl, Nat.le_of_ble_eq_true rfl⟩ (fun v3 Φ4 sz3 st3 hp3 hs3 => ?_)
  obtain ⟨rfl, hq3, fr3, h_24⟩ := hp3
  replace hq3 : sz3 = sz := hq3
  subst sz3
  replace hs3 : st3 = [] := hs3
  subst st3
  have h_25 : Φ4 (x + 18) = some (o_ 12 [.ref (x + 19), .int 0, .int 0, .int 0]) := h_24
  refine z_iinc (k := 0) (v := 3) (lv' := [(2, .int 3), (0, .ref (x + 3)), (1, .int 509)]) B dX1_support_28 rfl rfl (Nat.le_of_ble_eq_true rfl) rfl ?_
  refine z_goto (tgt := 7) B dX1_support_31 rfl ?_
  refine z_iload_n B dX1_support_7 rfl 0 rfl ?_
  refine z_iconst (v := 4) B dX1_support_8 rfl ?_
  refine z_icmp_ge (tgt := 34) B dX1_support_9 rfl (fun h9 => absurd h9 (by decide)) (fun c_4 => ?_)
  refine z_aload_n B dX1_support_12 rfl 1 rfl ?_
  have h_26 : Φ4 (x + 3) = some (o_ 3 [.ref (x + 4), .ref (x + 5), .ref (x + 6), .ref (x + 7), .int 1, .int 509]) := ((fr3 (x + 3) (ne_off (x := x) (i := 3) (j := 18) rfl)).trans h_19)
  refine z_get (ref := "FlowExporter$Config") (C := RX1) (T := TX1) (N := 6) (ci := 3) (v := .ref (x + 7)) B (by decide +kernel) rfl 3 (by decide) (by decide +kernel) rfl h_26 rfl dX1_support_13 ?_
  refine z_iload_n B dX1_support_16 rfl 0 rfl ?_
  have h_27 : Φ4 (x + 7) = some (aq_ G 4 4 (va_up (va_up (va_up (va_up (fun _ => none) (0 : Int32).toNatClampNeg (some (x + 10))) (1 : Int32).toNatClampNeg (some (x + 14))) (2 : Int32).toNatClampNeg (some (x + 18))) (3 : Int32).toNatClampNeg (some (x + 22)))) := ((fr3 (x + 7) (ne_off (x := x) (i := 7) (j := 18) rfl)).trans h_20)
  refine z_aald (b := x + 22) B rfl h_27 (vin rfl) rfl dX1_support_17 ?_
  refine z_aload_n B dX1_support_18 rfl 1 rfl ?_
  refine z_get (ref := "FlowExporter$Config") (C := RX1) (T := TX1) (N := 6) (ci := 3) (v := .ref (x + 6)) B (by decide +kernel) rfl 2 (by decide) (by decide +kernel) rfl h_26 rfl dX1_support_19 ?_
  refine z_iload_n B dX1_support_22 rfl 0 rfl ?_
  have h_28 : Φ4 (x + 6) = some (aq_ G 4 4 (va_up (va_up (va_up (va_up (fun _ => none) (0 : Int32).toNatClampNeg (some (x + 8))) (1 : Int32).toNatClampNeg (some (x + 12))) (2 : Int32).toNatClampNeg (some (x + 16))) (3 : Int32).toNatClampNeg (some (x + 20)))) := ((fr3 (x + 6) (ne_off (x := x) (i := 6) (j := 18) rfl)).trans h_21)
  refine z_aald (b := x + 20) B rfl h_28 (vin rfl) rfl dX1_support_23 ?_
  refine z_iload_n B dX1_support_24 rfl 2 rfl ?_
  have h_29 : Φ4 (x + 22) = some (o_ 12 [.ref (x + 23), .int 0, .int 0, .int 0]) := ((fr3 (x + 22) (ne_off (x := x) (i := 22) (j := 18) rfl)).trans ((fr2 (x + 22) (ne_off (x := x) (i := 22) (j := 14) rfl)).trans ((fr1 (x + 22) (ne_off (x := x) (i := 22) (j := 11) rfl) (ne_off (x := x) (i := 22) (j := 10) rfl)).trans ((fset_fr hΦ1 (ne_off (x := x) (i := 22) (j := 3) rfl)).trans hc22_))))
  have h_30 : Φ4 (x + 20) = some (o_ 12 [.ref (x + 21), .int 0, .int 0, .int 0]) := ((fr3 (x + 20) (ne_off (x := x) (i := 20) (j := 18) rfl)).trans ((fr2 (x + 20) (ne_off (x := x) (i := 20) (j := 14) rfl)).trans ((fr1 (x + 20) (ne_off (x := x) (i := 20) (j := 11) rfl) (ne_off (x := x) (i := 20) (j := 10) rfl)).trans ((fset_fr hΦ1 (ne_off (x := x) (i := 20) (j := 3) rfl)).trans hc20_))))
  refine z_callV (As := [.ref (x + 20), .int 509]) (rest := []) B (c_X10_copyFrom_z1 G l Φ4 sz (x + 22) (x + 23) 0 0 0 (x + 20) (x + 21) 0 0 h_29 h_30 (ne_off (x := x) (i := 22) (j := 20) rfl) (Nat.le_trans hna (Nat.le_add_right x 22))) (cwV 2 B.1.2.2.2.2 gX1_support_X10_copyFrom rfl rfl rfl (by decide +kernel) ⟨Nat.le_of_ble_eq_true rfl, Nat.le_of_ble_eq_true rfl⟩) h_29 rfl rfl rfl rfl (Nat.le_of_ble_eq_true rfl) dX1_support_25 ⟨Nat.le_of_ble_eq_true rfl, Nat.le_of_ble_eq_true rfl⟩ (fun v4 Φ5 sz4 st4 hp4 hs4 => ?_)
  obtain ⟨rfl, hq4, fr4, h_31⟩ := hp4
  replace hq4 : sz4 = sz := hq4
  subst sz4
  replace hs4 : st4 = [] := hs4
  subst st4
  have h_32 : Φ5 (x + 22) = some (o_ 12 [.ref (x + 23), .int 0, .int 0, .int 0]) := h_31
  refine z_iinc (k := 0) (v := 4) (lv' := [(2, .int 4), (0, .ref (x + 3)), (1, .int 509)]) B dX1_support_28 rfl rfl (Nat.le_of_ble_eq_true rfl) rfl ?_
  refine z_goto (tgt := 7) B dX1_support_31 rfl ?_
  refine z_iload_n B dX1_support_7 rfl 0 rfl ?_
  refine z_iconst (v := 4) B dX1_support_8 rfl ?_
  refine z_icmp_ge (tgt := 34) B dX1_support_9 rfl (fun c_5 => ?_) (fun h9 => absurd (by decide) h9)
  have h_33 : Φ5 (x + 10) = some (o_ 12 [.ref (x + 11), .int 8, .int 509, .int 28]) := ((fr4 (x + 10) (ne_off (x := x) (i := 10) (j := 22) rfl)).trans ((fr3 (x + 10) (ne_off (x := x) (i := 10) (j := 18) rfl)).trans ((fr2 (x + 10) (ne_off (x := x) (i := 10) (j := 14) rfl)).trans h_11)))
  have h_34 : Φ5 (x + 11) = some (ai_ G 9 (upd (upd (upd (upd (upd (upd (upd (upd (upd (upd (upd (upd (upd (upd (upd (upd (upd (fun _ => 0) (0 : Int32).toNatClampNeg 0) (1 : Int32).toNatClampNeg 1) (2 : Int32).toNatClampNeg 2) (3 : Int32).toNatClampNeg 3) (4 : Int32).toNatClampNeg 4) (5 : Int32).toNatClampNeg 5) (6 : Int32).toNatClampNeg 6) (7 : Int32).toNatClampNeg 7) (8 : Int32).toNatClampNeg 8) (0 : Int32).toNatClampNeg 0) (1 : Int32).toNatClampNeg 2) (2 : Int32).toNatClampNeg 3) (3 : Int32).toNatClampNeg 4) (4 : Int32).toNatClampNeg 5) (5 : Int32).toNatClampNeg 6) (6 : Int32).toNatClampNeg 7) (7 : Int32).toNatClampNeg 8)) := ((fr4 (x + 11) (ne_off (x := x) (i := 11) (j := 22) rfl)).trans ((fr3 (x + 11) (ne_off (x := x) (i := 11) (j := 18) rfl)).trans ((fr2 (x + 11) (ne_off (x := x) (i := 11) (j := 14) rfl)).trans h_10)))
  have h_35 : Φ5 (x + 14) = some (o_ 12 [.ref (x + 15), .int 0, .int 0, .int 0]) := ((fr4 (x + 14) (ne_off (x := x) (i := 14) (j := 22) rfl)).trans ((fr3 (x + 14) (ne_off (x := x) (i := 14) (j := 18) rfl)).trans h_18))
  have h_36 : Φ5 (x + 18) = some (o_ 12 [.ref (x + 19), .int 0, .int 0, .int 0]) := ((fr4 (x + 18) (ne_off (x := x) (i := 18) (j := 22) rfl)).trans h_25)
  have h_37 : Φ5 (x + 3) = some (o_ 3 [.ref (x + 4), .ref (x + 5), .ref (x + 6), .ref (x + 7), .int 1, .int 509]) := ((fr4 (x + 3) (ne_off (x := x) (i := 3) (j := 22) rfl)).trans h_26)
  exact z_ret_v B dX1_support_34 ⟨rfl, rfl, (fun b9 h9a h9b h9c h9d h9e h9f => ((fr4 b9 h9e).trans ((fr3 b9 h9d).trans ((fr2 b9 h9c).trans ((fr1 b9 h9b h9a).trans ((fset_fr hΦ1 h9f).trans rfl)))))), h_33, h_34, h_35, h_36, h_32, h_37⟩

set_option maxHeartbeats 4000000 in
set_option maxRecDepth 100000 in
theorem c_X10_copyFrom_s2 (G : EnvG) (l : Launch) (Φ : Hm) (sz : Nat) (h : Nat) (f : Nat) (a : Int32) (b : Int32) (d : Int32) (g : Nat → Int32) (h2 : Nat) (f2 : Nat) (b2 : Int32) (d2 : Int32) (g2 : Nat → Int32) (hc0 : Φ h = some (o_ 12 [.ref f, .int a, .int b, .int d])) (hc1 : Φ f = some (ai_ G 9 g)) (hc2 : Φ h2 = some (o_ 12 [.ref f2, .int 9, .int b2, .int d2])) (hc3 : Φ f2 = some (ai_ G 9 g2)) (hne_h_h2 : h ≠ h2) (hne_f_f2 : f ≠ f2) (hne_h_f : h ≠ f) (hne_h2_f : h2 ≠ f) (hne_h_f2 : h ≠ f2) (hne_h2_f2 : h2 ≠ f2) (hna_h : G.2.2.2 ≤ h) (hna_f : G.2.2.2 ≤ f) (hg0 : g2 0 = 0) (hg1 : g2 1 = 1) (hg2 : g2 2 = 2) (hg3 : g2 3 = 3) (hg4 : g2 4 = 4) (hg5 : g2 5 = 5) (hg6 : g2 6 = 6) (hg7 : g2 7 = 7) (hg8 : g2 8 = 8) : Ct G l yX10_copyFrom wsX10_copyFrom ({ frames := 1, cells := 0, slots := 0, locals := 21 }) 0 0 [.ref h, .ref h2, .int 507] Φ sz (fun v Φ1 sz1 => v = none ∧ sz1 = sz ∧ (∀ b9 : Nat, b9 ≠ f → b9 ≠ h → Φ1 b9 = Φ b9) ∧ Φ1 f = some (ai_ G 9 (upd (upd (upd (upd (upd (upd (upd (upd g (0 : Int32).toNatClampNeg 0) (1 : Int32).toNatClampNeg 1) (2 : Int32).toNatClampNeg 3) (3 : Int32).toNatClampNeg 4) (4 : Int32).toNatClampNeg 5) (5 : Int32).toNatClampNeg 6) (6 : Int32).toNatClampNeg 7) (7 : Int32).toNatClampNeg 8)) ∧ Φ1 h = some (o_ 12 [.ref f, .int 8, .int 507, .int 27])) := by
  refine Ct.of (cc := cX10_copyFrom) (maxL := 5) (ret := none) (by decide) rfl (Nat.le_of_ble_eq_true rfl) ?_
  intro p9 e9 s9 m9 w9 t9 k9 B
  show Z p9 l e9 _ s9 m9 _ w9 t9 k9 _ G 5 0 [(0, .ref h), (1, .ref h2), (2, .int 507)] [] Φ (sz) 0 0
  refine z_aload_n B dX10_copyFrom_0 rfl 0 rfl ?_
  refine z_callV (As := []) (rest := []) B (c_X10_clear G l Φ sz h f a b d hc0 hna_h) (cwV 0 B.1.2.2.2.2 gX10_copyFrom_X10_clear rfl rfl rfl (by decide +kernel) ⟨Nat.le_of_ble_eq_true rfl, Nat.le_of_ble_eq_true rfl⟩) hc0 rfl rfl rfl rfl (Nat.le_of_ble_eq_true rfl) dX10_copyFrom_1 ⟨Nat.le_of_ble_eq_true rfl, Nat.le_of_ble_eq_true rfl⟩ (fun v1 Φ1 sz1 st1 hp1 hs1 => ?_)
  obtain ⟨rfl, hq1, fr1, h_1⟩ := hp1
  replace hq1 : sz1 = sz := hq1
  subst sz1
  replace hs1 : st1 = [] := hs1
  subst st1
  have h_2 : Φ1 h = some (o_ 12 [.ref f, .int 0, .int 0, .int 0]) := h_1
  refine z_iconst (v := 0) B dX10_copyFrom_4 rfl ?_
  refine z_istore_n (lv' := [(3, .int 0), (0, .ref h), (1, .ref h2), (2, .int 507)]) B dX10_copyFrom_5 rfl (Nat.le_of_ble_eq_true rfl) rfl ?_
  refine z_iload_n B dX10_copyFrom_6 rfl 0 rfl ?_
  refine z_aload_n B dX10_copyFrom_7 rfl 2 rfl ?_
  have h_3 : Φ1 h2 = some (o_ 12 [.ref f2, .int 9, .int b2, .int d2]) := ((fr1 h2 (Ne.symm hne_h_h2)).trans hc2)
  refine z_get (ref := "FlowExporter$Template") (C := RX10) (T := TX10) (N := 4) (ci := 12) (v := .int 9) B (by decide +kernel) rfl 1 (by decide) (by decide +kernel) rfl h_3 rfl dX10_copyFrom_8 ?_
  refine z_icmp_ge (tgt := 43) B dX10_copyFrom_11 rfl (fun h9 => absurd h9 (by decide)) (fun c_1 => ?_)
  refine z_aload_n B dX10_copyFrom_14 rfl 2 rfl ?_
  refine z_iload_n B dX10_copyFrom_15 rfl 0 rfl ?_
  have h_4 : Φ1 f2 = some (ai_ G 9 g2) := ((fr1 f2 (Ne.symm hne_h_f2)).trans hc3)
  refine z_callV (As := [.int 0]) (rest := []) B (c_X10_field G l Φ1 sz h2 f2 9 b2 d2 g2 0 h_3 h_4 (by decide) (by decide) (vin rfl)) (cwV 1 B.1.2.2.2.2 gX10_copyFrom_X10_field rfl rfl rfl (by decide +kernel) ⟨Nat.le_of_ble_eq_true rfl, Nat.le_of_ble_eq_true rfl⟩) h_3 rfl rfl rfl rfl (Nat.le_of_ble_eq_true rfl) dX10_copyFrom_16 ⟨Nat.le_of_ble_eq_true rfl, Nat.le_of_ble_eq_true rfl⟩ (fun v2 Φ2 sz2 st2 hp2 hs2 => ?_)
  obtain ⟨rfl, hq2, fr2⟩ := hp2
  replace hq2 : sz2 = sz := hq2
  subst sz2
  replace hs2 : st2 = [.int (g2 (0 : Int32).toNatClampNeg)] := hs2
  subst st2
  refine z_top (st1 := [.int 0]) (by rw [show g2 ((0 : Int32).toNatClampNeg) = 0 from hg0]) ?_
  refine z_istore (lv' := [(4, .int 0), (3, .int 0), (0, .ref h), (1, .ref h2), (2, .int 507)]) B dX10_copyFrom_19 (Nat.le_of_ble_eq_true rfl) rfl ?_
  refine z_iload_n B dX10_copyFrom_21 rfl 4 rfl ?_
  refine z_iload B dX10_copyFrom_22 0 rfl ?_
  refine z_ishr B dX10_copyFrom_24 ?_
  refine z_top (st1 := [.int 507]) (congrArg (fun w9 : Int32 => ([.int w9] : List Value)) (show ((507 : Int32) >>> ((0 : Int32) &&& (31 : Int32)) : Int32) = 507 by decide +kernel)) ?_
  refine z_iconst (v := 1) B dX10_copyFrom_25 rfl ?_
  refine z_iand B dX10_copyFrom_26 ?_
  refine z_top (st1 := [.int 1]) (congrArg (fun w9 : Int32 => ([.int w9] : List Value)) (show (507 &&& 1 : Int32) = 1 by decide +kernel)) ?_
  refine z_iconst (v := 1) B dX10_copyFrom_27 rfl ?_
  refine z_icmp_ne (tgt := 37) B dX10_copyFrom_28 rfl (fun h9 => absurd (by decide) h9) (fun c_2 => ?_)
  refine z_aload_n B dX10_copyFrom_31 rfl 2 rfl ?_
  refine z_iload B dX10_copyFrom_32 0 rfl ?_
  have h_5 : Φ2 h = some (o_ 12 [.ref f, .int 0, .int 0, .int 0]) := ((fr2 h).trans h_2)
  have h_6 : Φ2 f = some (ai_ G 9 g) := ((fr2 f).trans ((fr1 f (Ne.symm hne_h_f)).trans hc1))
  refine z_callV (As := [.int 0]) (rest := []) B (c_X10_addField G l Φ2 sz h f 0 0 0 g 0 h_5 h_6 hne_h_f hna_h hna_f (by decide) (by decide) (by decide) (by decide) (vin rfl) (vin rfl)) (cwV 1 B.1.2.2.2.2 gX10_copyFrom_X10_addField rfl rfl rfl (by decide +kernel) ⟨Nat.le_of_ble_eq_true rfl, Nat.le_of_ble_eq_true rfl⟩) h_5 rfl rfl rfl rfl (Nat.le_of_ble_eq_true rfl) dX10_copyFrom_34 ⟨Nat.le_of_ble_eq_true rfl, Nat.le_of_ble_eq_true rfl⟩ (fun v3 Φ3 sz3 st3 hp3 hs3 => ?_)
  obtain ⟨rfl, hq3, fr3, h_7, h_8⟩ := hp3
  replace hq3 : sz3 = sz := hq3
  subst sz3
  replace hs3 : st3 = [] := hs3
  subst st3
  have h_9 : Φ3 f = some (ai_ G 9 (upd g (0 : Int32).toNatClampNeg 0)) := h_7
  have h_10 : Φ3 h = some (o_ 12 [.ref f, .int 1, .int 1, .int 1]) := h_8
  refine z_iinc (k := 1) (v := 1) (lv' := [(3, .int 1), (4, .int 0), (0, .ref h), (1, .ref h2), (2, .int 507)]) B dX10_copyFrom_37 rfl rfl (Nat.le_of_ble_eq_true rfl) rfl ?_
  refine z_goto (tgt := 6) B dX10_copyFrom_40 rfl ?_
  refine z_iload_n B dX10_copyFrom_6 rfl 0 rfl ?_
  refine z_aload_n B dX10_copyFrom_7 rfl 3 rfl ?_
  have h_11 : Φ3 h2 = some (o_ 12 [.ref f2, .int 9, .int b2, .int d2]) := ((fr3 h2 hne_h2_f (Ne.symm hne_h_h2)).trans ((fr2 h2).trans h_3))
  refine z_get (ref := "FlowExporter$Template") (C := RX10) (T := TX10) (N := 4) (ci := 12) (v := .int 9) B (by decide +kernel) rfl 1 (by decide) (by decide +kernel) rfl h_11 rfl dX10_copyFrom_8 ?_
  refine z_icmp_ge (tgt := 43) B dX10_copyFrom_11 rfl (fun h9 => absurd h9 (by decide)) (fun c_3 => ?_)
  refine z_aload_n B dX10_copyFrom_14 rfl 3 rfl ?_
  refine z_iload_n B dX10_copyFrom_15 rfl 0 rfl ?_
  have h_12 : Φ3 f2 = some (ai_ G 9 g2) := ((fr3 f2 (Ne.symm hne_f_f2) (Ne.symm hne_h_f2)).trans ((fr2 f2).trans h_4))
  refine z_callV (As := [.int 1]) (rest := []) B (c_X10_field G l Φ3 sz h2 f2 9 b2 d2 g2 1 h_11 h_12 (by decide) (by decide) (vin rfl)) (cwV 1 B.1.2.2.2.2 gX10_copyFrom_X10_field rfl rfl rfl (by decide +kernel) ⟨Nat.le_of_ble_eq_true rfl, Nat.le_of_ble_eq_true rfl⟩) h_11 rfl rfl rfl rfl (Nat.le_of_ble_eq_true rfl) dX10_copyFrom_16 ⟨Nat.le_of_ble_eq_true rfl, Nat.le_of_ble_eq_true rfl⟩ (fun v4 Φ4 sz4 st4 hp4 hs4 => ?_)
  obtain ⟨rfl, hq4, fr4⟩ := hp4
  replace hq4 : sz4 = sz := hq4
  subst sz4
  replace hs4 : st4 = [.int (g2 (1 : Int32).toNatClampNeg)] := hs4
  subst st4
  refine z_top (st1 := [.int 1]) (by rw [show g2 ((1 : Int32).toNatClampNeg) = 1 from hg1]) ?_
  refine z_istore (lv' := [(4, .int 1), (3, .int 1), (0, .ref h), (1, .ref h2), (2, .int 507)]) B dX10_copyFrom_19 (Nat.le_of_ble_eq_true rfl) rfl ?_
  refine z_iload_n B dX10_copyFrom_21 rfl 4 rfl ?_
  refine z_iload B dX10_copyFrom_22 0 rfl ?_
  refine z_ishr B dX10_copyFrom_24 ?_
  refine z_top (st1 := [.int 253]) (congrArg (fun w9 : Int32 => ([.int w9] : List Value)) (show ((507 : Int32) >>> ((1 : Int32) &&& (31 : Int32)) : Int32) = 253 by decide +kernel)) ?_
  refine z_iconst (v := 1) B dX10_copyFrom_25 rfl ?_
  refine z_iand B dX10_copyFrom_26 ?_
  refine z_top (st1 := [.int 1]) (congrArg (fun w9 : Int32 => ([.int w9] : List Value)) (show (253 &&& 1 : Int32) = 1 by decide +kernel)) ?_
  refine z_iconst (v := 1) B dX10_copyFrom_27 rfl ?_
  refine z_icmp_ne (tgt := 37) B dX10_copyFrom_28 rfl (fun h9 => absurd (by decide) h9) (fun c_4 => ?_)
  refine z_aload_n B dX10_copyFrom_31 rfl 2 rfl ?_
  refine z_iload B dX10_copyFrom_32 0 rfl ?_
  have h_13 : Φ4 h = some (o_ 12 [.ref f, .int 1, .int 1, .int 1]) := ((fr4 h).trans h_10)
  have h_14 : Φ4 f = some (ai_ G 9 (upd g (0 : Int32).toNatClampNeg 0)) := ((fr4 f).trans h_9)
  refine z_callV (As := [.int 1]) (rest := []) B (c_X10_addField G l Φ4 sz h f 1 1 1 (upd g (0 : Int32).toNatClampNeg 0) 1 h_13 h_14 hne_h_f hna_h hna_f (by decide) (by decide) (by decide) (by decide) (vin rfl) (vin rfl)) (cwV 1 B.1.2.2.2.2 gX10_copyFrom_X10_addField rfl rfl rfl (by decide +kernel) ⟨Nat.le_of_ble_eq_true rfl, Nat.le_of_ble_eq_true rfl⟩) h_13 rfl rfl rfl rfl (Nat.le_of_ble_eq_true rfl) dX10_copyFrom_34 ⟨Nat.le_of_ble_eq_true rfl, Nat.le_of_ble_eq_true rfl⟩ (fun v5 Φ5 sz5 st5 hp5 hs5 => ?_)
  obtain ⟨rfl, hq5, fr5, h_15, h_16⟩ := hp5
  replace hq5 : sz5 = sz := hq5
  subst sz5
  replace hs5 : st5 = [] := hs5
  subst st5
  have h_17 : Φ5 f = some (ai_ G 9 (upd (upd g (0 : Int32).toNatClampNeg 0) (1 : Int32).toNatClampNeg 1)) := h_15
  have h_18 : Φ5 h = some (o_ 12 [.ref f, .int 2, .int 3, .int 2]) := h_16
  refine z_iinc (k := 1) (v := 2) (lv' := [(3, .int 2), (4, .int 1), (0, .ref h), (1, .ref h2), (2, .int 507)]) B dX10_copyFrom_37 rfl rfl (Nat.le_of_ble_eq_true rfl) rfl ?_
  refine z_goto (tgt := 6) B dX10_copyFrom_40 rfl ?_
  refine z_iload_n B dX10_copyFrom_6 rfl 0 rfl ?_
  refine z_aload_n B dX10_copyFrom_7 rfl 3 rfl ?_
  have h_19 : Φ5 h2 = some (o_ 12 [.ref f2, .int 9, .int b2, .int d2]) := ((fr5 h2 hne_h2_f (Ne.symm hne_h_h2)).trans ((fr4 h2).trans h_11))
  refine z_get (ref := "FlowExporter$Template") (C := RX10) (T := TX10) (N := 4) (ci := 12) (v := .int 9) B (by decide +kernel) rfl 1 (by decide) (by decide +kernel) rfl h_19 rfl dX10_copyFrom_8 ?_
  refine z_icmp_ge (tgt := 43) B dX10_copyFrom_11 rfl (fun h9 => absurd h9 (by decide)) (fun c_5 => ?_)
  refine z_aload_n B dX10_copyFrom_14 rfl 3 rfl ?_
  refine z_iload_n B dX10_copyFrom_15 rfl 0 rfl ?_
  have h_20 : Φ5 f2 = some (ai_ G 9 g2) := ((fr5 f2 (Ne.symm hne_f_f2) (Ne.symm hne_h_f2)).trans ((fr4 f2).trans h_12))
  refine z_callV (As := [.int 2]) (rest := []) B (c_X10_field G l Φ5 sz h2 f2 9 b2 d2 g2 2 h_19 h_20 (by decide) (by decide) (vin rfl)) (cwV 1 B.1.2.2.2.2 gX10_copyFrom_X10_field rfl rfl rfl (by decide +kernel) ⟨Nat.le_of_ble_eq_true rfl, Nat.le_of_ble_eq_true rfl⟩) h_19 rfl rfl rfl rfl (Nat.le_of_ble_eq_true rfl) dX10_copyFrom_16 ⟨Nat.le_of_ble_eq_true rfl, Nat.le_of_ble_eq_true rfl⟩ (fun v6 Φ6 sz6 st6 hp6 hs6 => ?_)
  obtain ⟨rfl, hq6, fr6⟩ := hp6
  replace hq6 : sz6 = sz := hq6
  subst sz6
  replace hs6 : st6 = [.int (g2 (2 : Int32).toNatClampNeg)] := hs6
  subst st6
  refine z_top (st1 := [.int 2]) (by rw [show g2 ((2 : Int32).toNatClampNeg) = 2 from hg2]) ?_
  refine z_istore (lv' := [(4, .int 2), (3, .int 2), (0, .ref h), (1, .ref h2), (2, .int 507)]) B dX10_copyFrom_19 (Nat.le_of_ble_eq_true rfl) rfl ?_
  refine z_iload_n B dX10_copyFrom_21 rfl 4 rfl ?_
  refine z_iload B dX10_copyFrom_22 0 rfl ?_
  refine z_ishr B dX10_copyFrom_24 ?_
  refine z_top (st1 := [.int 126]) (congrArg (fun w9 : Int32 => ([.int w9] : List Value)) (show ((507 : Int32) >>> ((2 : Int32) &&& (31 : Int32)) : Int32) = 126 by decide +kernel)) ?_
  refine z_iconst (v := 1) B dX10_copyFrom_25 rfl ?_
  refine z_iand B dX10_copyFrom_26 ?_
  refine z_top (st1 := [.int 0]) (congrArg (fun w9 : Int32 => ([.int w9] : List Value)) (show (126 &&& 1 : Int32) = 0 by decide +kernel)) ?_
  refine z_iconst (v := 1) B dX10_copyFrom_27 rfl ?_
  refine z_icmp_ne (tgt := 37) B dX10_copyFrom_28 rfl (fun c_6 => ?_) (fun h9 => absurd h9 (by decide))
  refine z_iinc (k := 1) (v := 3) (lv' := [(3, .int 3), (4, .int 2), (0, .ref h), (1, .ref h2), (2, .int 507)]) B dX10_copyFrom_37 rfl rfl (Nat.le_of_ble_eq_true rfl) rfl ?_
  refine z_goto (tgt := 6) B dX10_copyFrom_40 rfl ?_
  refine z_iload_n B dX10_copyFrom_6 rfl 0 rfl ?_
  refine z_aload_n B dX10_copyFrom_7 rfl 3 rfl ?_
  have h_21 : Φ6 h2 = some (o_ 12 [.ref f2, .int 9, .int b2, .int d2]) := ((fr6 h2).trans h_19)
  refine z_get (ref := "FlowExporter$Template") (C := RX10) (T := TX10) (N := 4) (ci := 12) (v := .int 9) B (by decide +kernel) rfl 1 (by decide) (by decide +kernel) rfl h_21 rfl dX10_copyFrom_8 ?_
  refine z_icmp_ge (tgt := 43) B dX10_copyFrom_11 rfl (fun h9 => absurd h9 (by decide)) (fun c_7 => ?_)
  refine z_aload_n B dX10_copyFrom_14 rfl 3 rfl ?_
  refine z_iload_n B dX10_copyFrom_15 rfl 0 rfl ?_
  have h_22 : Φ6 f2 = some (ai_ G 9 g2) := ((fr6 f2).trans h_20)
  refine z_callV (As := [.int 3]) (rest := []) B (c_X10_field G l Φ6 sz h2 f2 9 b2 d2 g2 3 h_21 h_22 (by decide) (by decide) (vin rfl)) (cwV 1 B.1.2.2.2.2 gX10_copyFrom_X10_field rfl rfl rfl (by decide +kernel) ⟨Nat.le_of_ble_eq_true rfl, Nat.le_of_ble_eq_true rfl⟩) h_21 rfl rfl rfl rfl (Nat.le_of_ble_eq_true rfl) dX10_copyFrom_16 ⟨Nat.le_of_ble_eq_true rfl, Nat.le_of_ble_eq_true rfl⟩ (fun v7 Φ7 sz7 st7 hp7 hs7 => ?_)
  obtain ⟨rfl, hq7, fr7⟩ := hp7
  replace hq7 : sz7 = sz := hq7
  subst sz7
  replace hs7 : st7 = [.int (g2 (3 : Int32).toNatClampNeg)] := hs7
  subst st7
  refine z_top (st1 := [.int 3]) (by rw [show g2 ((3 : Int32).toNatClampNeg) = 3 from hg3]) ?_
  refine z_istore (lv' := [(4, .int 3), (3, .int 3), (0, .ref h), (1, .ref h2), (2, .int 507)]) B dX10_copyFrom_19 (Nat.le_of_ble_eq_true rfl) rfl ?_
  refine z_iload_n B dX10_copyFrom_21 rfl 4 rfl ?_
  refine z_iload B dX10_copyFrom_22 0 rfl ?_
  refine z_ishr B dX10_copyFrom_24 ?_
  refine z_top (st1 := [.int 63]) (congrArg (fun w9 : Int32 => ([.int w9] : List Value)) (show ((507 : Int32) >>> ((3 : Int32) &&& (31 : Int32)) : Int32) = 63 by decide +kernel)) ?_
  refine z_iconst (v := 1) B dX10_copyFrom_25 rfl ?_
  refine z_iand B dX10_copyFrom_26 ?_
  refine z_top (st1 := [.int 1]) (congrArg (fun w9 : Int32 => ([.int w9] : List Value)) (show (63 &&& 1 : Int32) = 1 by decide +kernel)) ?_
  refine z_iconst (v := 1) B dX10_copyFrom_27 rfl ?_
  refine z_icmp_ne (tgt := 37) B dX10_copyFrom_28 rfl (fun h9 => absurd (by decide) h9) (fun c_8 => ?_)
  refine z_aload_n B dX10_copyFrom_31 rfl 2 rfl ?_
  refine z_iload B dX10_copyFrom_32 0 rfl ?_
  have h_23 : Φ7 h = some (o_ 12 [.ref f, .int 2, .int 3, .int 2]) := ((fr7 h).trans ((fr6 h).trans h_18))
  have h_24 : Φ7 f = some (ai_ G 9 (upd (upd g (0 : Int32).toNatClampNeg 0) (1 : Int32).toNatClampNeg 1)) := ((fr7 f).trans ((fr6 f).trans h_17))
  refine z_callV (As := [.int 3]) (rest := []) B (c_X10_addField G l Φ7 sz h f 2 3 2 (upd (upd g (0 : Int32).toNatClampNeg 0) (1 : Int32).toNatClampNeg 1) 3 h_23 h_24 hne_h_f hna_h hna_f (by decide) (by decide) (by decide) (by decide) (vin rfl) (vin rfl)) (cwV 1 B.1.2.2.2.2 gX10_copyFrom_X10_addField rfl rfl rfl (by decide +kernel) ⟨Nat.le_of_ble_eq_true rfl, Nat.le_of_ble_eq_true rfl⟩) h_23 rfl rfl rfl rfl (Nat.le_of_ble_eq_true rfl) dX10_copyFrom_34 ⟨Nat.le_of_ble_eq_true rfl, Nat.le_of_ble_eq_true rfl⟩ (fun v8 Φ8 sz8 st8 hp8 hs8 => ?_)
  obtain ⟨rfl, hq8, fr8, h_25, h_26⟩ := hp8
  replace hq8 : sz8 = sz := hq8
  subst sz8
  replace hs8 : st8 = [] := hs8
  subst st8
  have h_27 : Φ8 f = some (ai_ G 9 (upd (upd (upd g (0 : Int32).toNatClampNeg 0) (1 : Int32).toNatClampNeg 1) (2 : Int32).toNatClampNeg 3)) := h_25
  have h_28 : Φ8 h = some (o_ 12 [.ref f, .int 3, .int 11, .int 3]) := h_26
  refine z_iinc (k := 1) (v := 4) (lv' := [(3, .int 4), (4, .int 3), (0, .ref h), (1, .ref h2), (2, .int 507)]) B dX10_copyFrom_37 rfl rfl (Nat.le_of_ble_eq_true rfl) rfl ?_
  refine z_goto (tgt := 6) B dX10_copyFrom_40 rfl ?_
  refine z_iload_n B dX10_copyFrom_6 rfl 0 rfl ?_
  refine z_aload_n B dX10_copyFrom_7 rfl 3 rfl ?_
  have h_29 : Φ8 h2 = some (o_ 12 [.ref f2, .int 9, .int b2, .int d2]) := ((fr8 h2 hne_h2_f (Ne.symm hne_h_h2)).trans ((fr7 h2).trans h_21))
  refine z_get (ref := "FlowExporter$Template") (C := RX10) (T := TX10) (N := 4) (ci := 12) (v := .int 9) B (by decide +kernel) rfl 1 (by decide) (by decide +kernel) rfl h_29 rfl dX10_copyFrom_8 ?_
  refine z_icmp_ge (tgt := 43) B dX10_copyFrom_11 rfl (fun h9 => absurd h9 (by decide)) (fun c_9 => ?_)
  refine z_aload_n B dX10_copyFrom_14 rfl 3 rfl ?_
  refine z_iload_n B dX10_copyFrom_15 rfl 0 rfl ?_
  have h_30 : Φ8 f2 = some (ai_ G 9 g2) := ((fr8 f2 (Ne.symm hne_f_f2) (Ne.symm hne_h_f2)).trans ((fr7 f2).trans h_22))
  refine z_callV (As := [.int 4]) (rest := []) B (c_X10_field G l Φ8 sz h2 f2 9 b2 d2 g2 4 h_29 h_30 (by decide) (by decide) (vin rfl)) (cwV 1 B.1.2.2.2.2 gX10_copyFrom_X10_field rfl rfl rfl (by decide +kernel) ⟨Nat.le_of_ble_eq_true rfl, Nat.le_of_ble_eq_true rfl⟩) h_29 rfl rfl rfl rfl (Nat.le_of_ble_eq_true rfl) dX10_copyFrom_16 ⟨Nat.le_of_ble_eq_true rfl, Nat.le_of_ble_eq_true rfl⟩ (fun v9 Φ9 sz9 st9 hp9 hs9 => ?_)
  obtain ⟨rfl, hq9, fr9⟩ := hp9
  replace hq9 : sz9 = sz := hq9
  subst sz9
  replace hs9 : st9 = [.int (g2 (4 : Int32).toNatClampNeg)] := hs9
  subst st9
  refine z_top (st1 := [.int 4]) (by rw [show g2 ((4 : Int32).toNatClampNeg) = 4 from hg4]) ?_
  refine z_istore (lv' := [(4, .int 4), (3, .int 4), (0, .ref h), (1, .ref h2), (2, .int 507)]) B dX10_copyFrom_19 (Nat.le_of_ble_eq_true rfl) rfl ?_
  refine z_iload_n B dX10_copyFrom_21 rfl 4 rfl ?_
  refine z_iload B dX10_copyFrom_22 0 rfl ?_
  refine z_ishr B dX10_copyFrom_24 ?_
  refine z_top (st1 := [.int 31]) (congrArg (fun w9 : Int32 => ([.int w9] : List Value)) (show ((507 : Int32) >>> ((4 : Int32) &&& (31 : Int32)) : Int32) = 31 by decide +kernel)) ?_
  refine z_iconst (v := 1) B dX10_copyFrom_25 rfl ?_
  refine z_iand B dX10_copyFrom_26 ?_
  refine z_top (st1 := [.int 1]) (congrArg (fun w9 : Int32 => ([.int w9] : List Value)) (show (31 &&& 1 : Int32) = 1 by decide +kernel)) ?_
  refine z_iconst (v := 1) B dX10_copyFrom_27 rfl ?_
  refine z_icmp_ne (tgt := 37) B dX10_copyFrom_28 rfl (fun h9 => absurd (by decide) h9) (fun c_10 => ?_)
  refine z_aload_n B dX10_copyFrom_31 rfl 2 rfl ?_
  refine z_iload B dX10_copyFrom_32 0 rfl ?_
  have h_31 : Φ9 h = some (o_ 12 [.ref f, .int 3, .int 11, .int 3]) := ((fr9 h).trans h_28)
  have h_32 : Φ9 f = some (ai_ G 9 (upd (upd (upd g (0 : Int32).toNatClampNeg 0) (1 : Int32).toNatClampNeg 1) (2 : Int32).toNatClampNeg 3)) := ((fr9 f).trans h_27)
  refine z_callV (As := [.int 4]) (rest := []) B (c_X10_addField G l Φ9 sz h f 3 11 3 (upd (upd (upd g (0 : Int32).toNatClampNeg 0) (1 : Int32).toNatClampNeg 1) (2 : Int32).toNatClampNeg 3) 4 h_31 h_32 hne_h_f hna_h hna_f (by decide) (by decide) (by decide) (by decide) (vin rfl) (vin rfl)) (cwV 1 B.1.2.2.2.2 gX10_copyFrom_X10_addField rfl rfl rfl (by decide +kernel) ⟨Nat.le_of_ble_eq_true rfl, Nat.le_of_ble_eq_true rfl⟩) h_31 rfl rfl rfl rfl (Nat.le_of_ble_eq_true rfl) dX10_copyFrom_34 ⟨Nat.le_of_ble_eq_true rfl, Nat.le_of_ble_eq_true rfl⟩ (fun v10 Φ10 sz10 st10 hp10 hs10 => ?_)
  obtain ⟨rfl, hq10, fr10, h_33, h_34⟩ := hp10
  replace hq10 : sz10 = sz := hq10
  subst sz10
  replace hs10 : st10 = [] := hs10
  subst st10
  have h_35 : Φ10 f = some (ai_ G 9 (upd (upd (upd (upd g (0 : Int32).toNatClampNeg 0) (1 : Int32).toNatClampNeg 1) (2 : Int32).toNatClampNeg 3) (3 : Int32).toNatClampNeg 4)) := h_33
  have h_36 : Φ10 h = some (o_ 12 [.ref f, .int 4, .int 27, .int 7]) := h_34
  refine z_iinc (k := 1) (v := 5) (lv' := [(3, .int 5), (4, .int 4), (0, .ref h), (1, .ref h2), (2, .int 507)]) B dX10_copyFrom_37 rfl rfl (Nat.le_of_ble_eq_true rfl) rfl ?_
  refine z_goto (tgt := 6) B dX10_copyFrom_40 rfl ?_
  refine z_iload_n B dX10_copyFrom_6 rfl 0 rfl ?_
  refine z_aload_n B dX10_copyFrom_7 rfl 3 rfl ?_
  have h_37 : Φ10 h2 = some (o_ 12 [.ref f2, .int 9, .int b2, .int d2]) := ((fr10 h2 hne_h2_f (Ne.symm hne_h_h2)).trans ((fr9 h2).trans h_29))
  refine z_get (ref := "FlowExporter$Template") (C := RX10) (T := TX10) (N := 4) (ci := 12) (v := .int 9) B (by decide +kernel) rfl 1 (by decide) (by decide +kernel) rfl h_37 rfl dX10_copyFrom_8 ?_
  refine z_icmp_ge (tgt := 43) B dX10_copyFrom_11 rfl (fun h9 => absurd h9 (by decide)) (fun c_11 => ?_)
  refine z_aload_n B dX10_copyFrom_14 rfl 3 rfl ?_
  refine z_iload_n B dX10_copyFrom_15 rfl 0 rfl ?_
  have h_38 : Φ10 f2 = some (ai_ G 9 g2) := ((fr10 f2 (Ne.symm hne_f_f2) (Ne.symm hne_h_f2)).trans ((fr9 f2).trans h_30))
  refine z_callV (As := [.int 5]) (rest := []) B (c_X10_field G l Φ10 sz h2 f2 9 b2 d2 g2 5 h_37 h_38 (by decide) (by decide) (vin rfl)) (cwV 1 B.1.2.2.2.2 gX10_copyFrom_X10_field rfl rfl rfl (by decide +kernel) ⟨Nat.le_of_ble_eq_true rfl, Nat.le_of_ble_eq_true rfl⟩) h_37 rfl rfl rfl rfl (Nat.le_of_ble_eq_true rfl) dX10_copyFrom_16 ⟨Nat.le_of_ble_eq_true rfl, Nat.le_of_ble_eq_true rfl⟩ (fun v11 Φ11 sz11 st11 hp11 hs11 => ?_)
  obtain ⟨rfl, hq11, fr11⟩ := hp11
  replace hq11 : sz11 = sz := hq11
  subst sz11
  replace hs11 : st11 = [.int (g2 (5 : Int32).toNatClampNeg)] := hs11
  subst st11
  refine z_top (st1 := [.int 5]) (by rw [show g2 ((5 : Int32).toNatClampNeg) = 5 from hg5]) ?_
  refine z_istore (lv' := [(4, .int 5), (3, .int 5), (0, .ref h), (1, .ref h2), (2, .int 507)]) B dX10_copyFrom_19 (Nat.le_of_ble_eq_true rfl) rfl ?_
  refine z_iload_n B dX10_copyFrom_21 rfl 4 rfl ?_
  refine z_iload B dX10_copyFrom_22 0 rfl ?_
  refine z_ishr B dX10_copyFrom_24 ?_
  refine z_top (st1 := [.int 15]) (congrArg (fun w9 : Int32 => ([.int w9] : List Value)) (show ((507 : Int32) >>> ((5 : Int32) &&& (31 : Int32)) : Int32) = 15 by decide +kernel)) ?_
  refine z_iconst (v := 1) B dX10_copyFrom_25 rfl ?_
  refine z_iand B dX10_copyFrom_26 ?_
  refine z_top (st1 := [.int 1]) (congrArg (fun w9 : Int32 => ([.int w9] : List Value)) (show (15 &&& 1 : Int32) = 1 by decide +kernel)) ?_
  refine z_iconst (v := 1) B dX10_copyFrom_27 rfl ?_
  refine z_icmp_ne (tgt := 37) B dX10_copyFrom_28 rfl (fun h9 => absurd (by decide) h9) (fun c_12 => ?_)
  refine z_aload_n B dX10_copyFrom_31 rfl 2 rfl ?_
  refine z_iload B dX10_copyFrom_32 0 rfl ?_
  have h_39 : Φ11 h = some (o_ 12 [.ref f, .int 4, .int 27, .int 7]) := ((fr11 h).trans h_36)
  have h_40 : Φ11 f = some (ai_ G 9 (upd (upd (upd (upd g (0 : Int32).toNatClampNeg 0) (1 : Int32).toNatClampNeg 1) (2 : Int32).toNatClampNeg 3) (3 : Int32).toNatClampNeg 4)) := ((fr11 f).trans h_35)
  refine z_callV (As := [.int 5]) (rest := []) B (c_X10_addField G l Φ11 sz h f 4 27 7 (upd (upd (upd (upd g (0 : Int32).toNatClampNeg 0) (1 : Int32).toNatClampNeg 1) (2 : Int32).toNatClampNeg 3) (3 : Int32).toNatClampNeg 4) 5 h_39 h_40 hne_h_f hna_h hna_f (by decide) (by decide) (by decide) (by decide) (vin rfl) (vin rfl)) (cwV 1 B.1.2.2.2.2 gX10_copyFrom_X10_addField rfl rfl rfl (by decide +kernel) ⟨Nat.le_of_ble_eq_true rfl, Nat.le_of_ble_eq_true rfl⟩) h_39 rfl rfl rfl rfl (Nat.le_of_ble_eq_true rfl) dX10_copyFrom_34 ⟨Nat.le_of_ble_eq_true rfl, Nat.le_of_ble_eq_true rfl⟩ (fun v12 Φ12 sz12 st12 hp12 hs12 => ?_)
  obtain ⟨rfl, hq12, fr12, h_41, h_42⟩ := hp12
  replace hq12 : sz12 = sz := hq12
  subst sz12
  replace hs12 : st12 = [] := hs12
  subst st12
  have h_43 : Φ12 f = some (ai_ G 9 (upd (upd (upd (upd (upd g (0 : Int32).toNatClampNeg 0) (1 : Int32).toNatClampNeg 1) (2 : Int32).toNatClampNeg 3) (3 : Int32).toNatClampNeg 4) (4 : Int32).toNatClampNeg 5)) := h_41
  have h_44 : Φ12 h = some (o_ 12 [.ref f, .int 5, .int 59, .int 15]) := h_42
  refine z_iinc (k := 1) (v := 6) (lv' := [(3, .int 6), (4, .int 5), (0, .ref h), (1, .ref h2), (2, .int 507)]) B dX10_copyFrom_37 rfl rfl (Nat.le_of_ble_eq_true rfl) rfl ?_
  refine z_goto (tgt := 6) B dX10_copyFrom_40 rfl ?_
  refine z_iload_n B dX10_copyFrom_6 rfl 0 rfl ?_
  refine z_aload_n B dX10_copyFrom_7 rfl 3 rfl ?_
  have h_45 : Φ12 h2 = some (o_ 12 [.ref f2, .int 9, .int b2, .int d2]) := ((fr12 h2 hne_h2_f (Ne.symm hne_h_h2)).trans ((fr11 h2).trans h_37))
  refine z_get (ref := "FlowExporter$Template") (C := RX10) (T := TX10) (N := 4) (ci := 12) (v := .int 9) B (by decide +kernel) rfl 1 (by decide) (by decide +kernel) rfl h_45 rfl dX10_copyFrom_8 ?_
  refine z_icmp_ge (tgt := 43) B dX10_copyFrom_11 rfl (fun h9 => absurd h9 (by decide)) (fun c_13 => ?_)
  refine z_aload_n B dX10_copyFrom_14 rfl 3 rfl ?_
  refine z_iload_n B dX10_copyFrom_15 rfl 0 rfl ?_
  have h_46 : Φ12 f2 = some (ai_ G 9 g2) := ((fr12 f2 (Ne.symm hne_f_f2) (Ne.symm hne_h_f2)).trans ((fr11 f2).trans h_38))
  refine z_callV (As := [.int 6]) (rest := []) B (c_X10_field G l Φ12 sz h2 f2 9 b2 d2 g2 6 h_45 h_46 (by decide) (by decide) (vin rfl)) (cwV 1 B.1.2.2.2.2 gX10_copyFrom_X10_field rfl rfl rfl (by decide +kernel) ⟨Nat.le_of_ble_eq_true rfl, Nat.le_of_ble_eq_true rfl⟩) h_45 rfl rfl rfl rfl (Nat.le_of_ble_eq_true rfl) dX10_copyFrom_16 ⟨Nat.le_of_ble_eq_true rfl, Nat.le_of_ble_eq_true rfl⟩ (fun v13 Φ13 sz13 st13 hp13 hs13 => ?_)
  obtain ⟨rfl, hq13, fr13⟩ := hp13
  replace hq13 : sz13 = sz := hq13
  subst sz13
  replace hs13 : st13 = [.int (g2 (6 : Int32).toNatClampNeg)] := hs13
  subst st13
  refine z_top (st1 := [.int 6]) (by rw [show g2 ((6 : Int32).toNatClampNeg) = 6 from hg6]) ?_
  refine z_istore (lv' := [(4, .int 6), (3, .int 6), (0, .ref h), (1, .ref h2), (2, .int 507)]) B dX10_copyFrom_19 (Nat.le_of_ble_eq_true rfl) rfl ?_
  refine z_iload_n B dX10_copyFrom_21 rfl 4 rfl ?_
  refine z_iload B dX10_copyFrom_22 0 rfl ?_
  refine z_ishr B dX10_copyFrom_24 ?_
  refine z_top (st1 := [.int 7]) (congrArg (fun w9 : Int32 => ([.int w9] : List Value)) (show ((507 : Int32) >>> ((6 : Int32) &&& (31 : Int32)) : Int32) = 7 by decide +kernel)) ?_
  refine z_iconst (v := 1) B dX10_copyFrom_25 rfl ?_
  refine z_iand B dX10_copyFrom_26 ?_
  refine z_top (st1 := [.int 1]) (congrArg (fun w9 : Int32 => ([.int w9] : List Value)) (show (7 &&& 1 : Int32) = 1 by decide +kernel)) ?_
  refine z_iconst (v := 1) B dX10_copyFrom_27 rfl ?_
  refine z_icmp_ne (tgt := 37) B dX10_copyFrom_28 rfl (fun h9 => absurd (by decide) h9) (fun c_14 => ?_)
  refine z_aload_n B dX10_copyFrom_31 rfl 2 rfl ?_
  refine z_iload B dX10_copyFrom_32 0 rfl ?_
  have h_47 : Φ13 h = some (o_ 12 [.ref f, .int 5, .int 59, .int 15]) := ((fr13 h).trans h_44)
  have h_48 : Φ13 f = some (ai_ G 9 (upd (upd (upd (upd (upd g (0 : Int32).toNatClampNeg 0) (1 : Int32).toNatClampNeg 1) (2 : Int32).toNatClampNeg 3) (3 : Int32).toNatClampNeg 4) (4 : Int32).toNatClampNeg 5)) := ((fr13 f).trans h_43)
  refine z_callV (As := [.int 6]) (rest := []) B (c_X10_addField G l Φ13 sz h f 5 59 15 (upd (upd (upd (upd (upd g (0 : Int32).toNatClampNeg 0) (1 : Int32).toNatClampNeg 1) (2 : Int32).toNatClampNeg 3) (3 : Int32).toNatClampNeg 4) (4 : Int32).toNatClampNeg 5) 6 h_47 h_48 hne_h_f hna_h hna_f (by decide) (by decide) (by decide) (by decide) (vin rfl) (vin rfl)) (cwV 1 B.1.2.2.2.2 gX10_copyFrom_X10_addField rfl rfl rfl (by decide +kernel) ⟨Nat.le_of_ble_eq_true rfl, Nat.le_of_ble_eq_true rfl⟩) h_47 rfl rfl rfl rfl (Nat.le_of_ble_eq_true rfl) dX10_copyFrom_34 ⟨Nat.le_of_ble_eq_true rfl, Nat.le_of_ble_eq_true rfl⟩ (fun v14 Φ14 sz14 st14 hp14 hs14 => ?_)
  obtain ⟨rfl, hq14, fr14, h_49, h_50⟩ := hp14
  replace hq14 : sz14 = sz := hq14
  subst sz14
  replace hs14 : st14 = [] := hs14
  subst st14
  have h_51 : Φ14 f = some (ai_ G 9 (upd (upd (upd (upd (upd (upd g (0 : Int32).toNatClampNeg 0) (1 : Int32).toNatClampNeg 1) (2 : Int32).toNatClampNeg 3) (3 : Int32).toNatClampNeg 4) (4 : Int32).toNatClampNeg 5) (5 : Int32).toNatClampNeg 6)) := h_49
  have h_52 : Φ14 h = some (o_ 12 [.ref f, .int 6, .int 123, .int 19]) := h_50
  refine z_iinc (k := 1) (v := 7) (lv' := [(3, .int 7), (4, .int 6), (0, .ref h), (1, .ref h2), (2, .int 507)]) B dX10_copyFrom_37 rfl rfl (Nat.le_of_ble_eq_true rfl) rfl ?_
  refine z_goto (tgt := 6) B dX10_copyFrom_40 rfl ?_
  refine z_iload_n B dX10_copyFrom_6 rfl 0 rfl ?_
  refine z_aload_n B dX10_copyFrom_7 rfl 3 rfl ?_
  have h_53 : Φ14 h2 = some (o_ 12 [.ref f2, .int 9, .int b2, .int d2]) := ((fr14 h2 hne_h2_f (Ne.symm hne_h_h2)).trans ((fr13 h2).trans h_45))
  refine z_get (ref := "FlowExporter$Template") (C := RX10) (T := TX10) (N := 4) (ci := 12) (v := .int 9) B (by decide +kernel) rfl 1 (by decide) (by decide +kernel) rfl h_53 rfl dX10_copyFrom_8 ?_
  refine z_icmp_ge (tgt := 43) B dX10_copyFrom_11 rfl (fun h9 => absurd h9 (by decide)) (fun c_15 => ?_)
  refine z_aload_n B dX10_copyFrom_14 rfl 3 rfl ?_
  refine z_iload_n B dX10_copyFrom_15 rfl 0 rfl ?_
  have h_54 : Φ14 f2 = some (ai_ G 9 g2) := ((fr14 f2 (Ne.symm hne_f_f2) (Ne.symm hne_h_f2)).trans ((fr13 f2).trans h_46))
  refine z_callV (As := [.int 7]) (rest := []) B (c_X10_field G l Φ14 sz h2 f2 9 b2 d2 g2 7 h_53 h_54 (by decide) (by decide) (vin rfl)) (cwV 1 B.1.2.2.2.2 gX10_copyFrom_X10_field rfl rfl rfl (by decide +kernel) ⟨Nat.le_of_ble_eq_true rfl, Nat.le_of_ble_eq_true rfl⟩) h_53 rfl rfl rfl rfl (Nat.le_of_ble_eq_true rfl) dX10_copyFrom_16 ⟨Nat.le_of_ble_eq_true rfl, Nat.le_of_ble_eq_true rfl⟩ (fun v15 Φ15 sz15 st15 hp15 hs15 => ?_)
  obtain ⟨rfl, hq15, fr15⟩ := hp15
  replace hq15 : sz15 = sz := hq15
  subst sz15
  replace hs15 : st15 = [.int (g2 (7 : Int32).toNatClampNeg)] := hs15
  subst st15
  refine z_top (st1 := [.int 7]) (by rw [show g2 ((7 : Int32).toNatClampNeg) = 7 from hg7]) ?_
  refine z_istore (lv' := [(4, .int 7), (3, .int 7), (0, .ref h), (1, .ref h2), (2, .int 507)]) B dX10_copyFrom_19 (Nat.le_of_ble_eq_true rfl) rfl ?_
  refine z_iload_n B dX10_copyFrom_21 rfl 4 rfl ?_
  refine z_iload B dX10_copyFrom_22 0 rfl ?_
  refine z_ishr B dX10_copyFrom_24 ?_
  refine z_top (st1 := [.int 3]) (congrArg (fun w9 : Int32 => ([.int w9] : List Value)) (show ((507 : Int32) >>> ((7 : Int32) &&& (31 : Int32)) : Int32) = 3 by decide +kernel)) ?_
  refine z_iconst (v := 1) B dX10_copyFrom_25 rfl ?_
  refine z_iand B dX10_copyFrom_26 ?_
  refine z_top (st1 := [.int 1]) (congrArg (fun w9 : Int32 => ([.int w9] : List Value)) (show (3 &&& 1 : Int32) = 1 by decide +kernel)) ?_
  refine z_iconst (v := 1) B dX10_copyFrom_27 rfl ?_
  refine z_icmp_ne (tgt := 37) B dX10_copyFrom_28 rfl (fun h9 => absurd (by decide) h9) (fun c_16 => ?_)
  refine z_aload_n B dX10_copyFrom_31 rfl 2 rfl ?_
  refine z_iload B dX10_copyFrom_32 0 rfl ?_
  have h_55 : Φ15 h = some (o_ 12 [.ref f, .int 6, .int 123, .int 19]) := ((fr15 h).trans h_52)
  have h_56 : Φ15 f = some (ai_ G 9 (upd (upd (upd (upd (upd (upd g (0 : Int32).toNatClampNeg 0) (1 : Int32).toNatClampNeg 1) (2 : Int32).toNatClampNeg 3) (3 : Int32).toNatClampNeg 4) (4 : Int32).toNatClampNeg 5) (5 : Int32).toNatClampNeg 6)) := ((fr15 f).trans h_51)
  refine z_callV (As := [.int 7]) (rest := []) B (c_X10_addField G l Φ15 sz h f 6 123 19 (upd (upd (upd (upd (upd (upd g (0 : Int32).toNatClampNeg 0) (1 : Int32).toNatClampNeg 1) (2 : Int32).toNatClampNeg 3) (3 : Int32).toNatClampNeg 4) (4 : Int32).toNatClampNeg 5) (5 : Int32).toNatClampNeg 6) 7 h_55 h_56 hne_h_f hna_h hna_f (by decide) (by decide) (by decide) (by decide) (vin rfl) (vin rfl)) (cwV 1 B.1.2.2.2.2 gX10_copyFrom_X10_addField rfl rfl rfl (by decide +kernel) ⟨Nat.le_of_ble_eq_true rfl, Nat.le_of_ble_eq_true rfl⟩) h_55 rfl rfl rfl rfl (Nat.le_of_ble_eq_true rfl) dX10_copyFrom_34 ⟨Nat.le_of_ble_eq_true rfl, Nat.le_of_ble_eq_true rfl⟩ (fun v16 Φ16 sz16 st16 hp16 hs16 => ?_)
  obtain ⟨rfl, hq16, fr16, h_57, h_58⟩ := hp16
  replace hq16 : sz16 = sz := hq16
  subst sz16
  replace hs16 : st16 = [] := hs16
  subst st16
  have h_59 : Φ16 f = some (ai_ G 9 (upd (upd (upd (upd (upd (upd (upd g (0 : Int32).toNatClampNeg 0) (1 : Int32).toNatClampNeg 1) (2 : Int32).toNatClampNeg 3) (3 : Int32).toNatClampNeg 4) (4 : Int32).toNatClampNeg 5) (5 : Int32).toNatClampNeg 6) (6 : Int32).toNatClampNeg 7)) := h_57
  have h_60 : Φ16 h = some (o_ 12 [.ref f, .int 7, .int 251, .int 23]) := h_58
  refine z_iinc (k := 1) (v := 8) (lv' := [(3, .int 8), (4, .int 7), (0, .ref h), (1, .ref h2), (2, .int 507)]) B dX10_copyFrom_37 rfl rfl (Nat.le_of_ble_eq_true rfl) rfl ?_
  refine z_goto (tgt := 6) B dX10_copyFrom_40 rfl ?_
  refine z_iload_n B dX10_copyFrom_6 rfl 0 rfl ?_
  refine z_aload_n B dX10_copyFrom_7 rfl 3 rfl ?_
  have h_61 : Φ16 h2 = some (o_ 12 [.ref f2, .int 9, .int b2, .int d2]) := ((fr16 h2 hne_h2_f (Ne.symm hne_h_h2)).trans ((fr15 h2).trans h_53))
  refine z_get (ref := "FlowExporter$Template") (C := RX10) (T := TX10) (N := 4) (ci := 12) (v := .int 9) B (by decide +kernel) rfl 1 (by decide) (by decide +kernel) rfl h_61 rfl dX10_copyFrom_8 ?_
  refine z_icmp_ge (tgt := 43) B dX10_copyFrom_11 rfl (fun h9 => absurd h9 (by decide)) (fun c_17 => ?_)
  refine z_aload_n B dX10_copyFrom_14 rfl 3 rfl ?_
  refine z_iload_n B dX10_copyFrom_15 rfl 0 rfl ?_
  have h_62 : Φ16 f2 = some (ai_ G 9 g2) := ((fr16 f2 (Ne.symm hne_f_f2) (Ne.symm hne_h_f2)).trans ((fr15 f2).trans h_54))
  refine z_callV (As := [.int 8]) (rest := []) B (c_X10_field G l Φ16 sz h2 f2 9 b2 d2 g2 8 h_61 h_62 (by decide) (by decide) (vin rfl)) (cwV 1 B.1.2.2.2.2 gX10_copyFrom_X10_field rfl rfl rfl (by decide +kernel) ⟨Nat.le_of_ble_eq_true rfl, Nat.le_of_ble_eq_true rfl⟩) h_61 rfl rfl rfl rfl (Nat.le_of_ble_eq_true rfl) dX10_copyFrom_16 ⟨Nat.le_of_ble_eq_true rfl, Nat.le_of_ble_eq_true rfl⟩ (fun v17 Φ17 sz17 st17 hp17 hs17 => ?_)
  obtain ⟨rfl, hq17, fr17⟩ := hp17
  replace hq17 : sz17 = sz := hq17
  subst sz17
  replace hs17 : st17 = [.int (g2 (8 : Int32).toNatClampNeg)] := hs17
  subst st17
  refine z_top (st1 := [.int 8]) (by rw [show g2 ((8 : Int32).toNatClampNeg) = 8 from hg8]) ?_
  refine z_istore (lv' := [(4, .int 8), (3, .int 8), (0, .ref h), (1, .ref h2), (2, .int 507)]) B dX10_copyFrom_19 (Nat.le_of_ble_eq_true rfl) rfl ?_
  refine z_iload_n B dX10_copyFrom_21 rfl 4 rfl ?_
  refine z_iload B dX10_copyFrom_22 0 rfl ?_
  refine z_ishr B dX10_copyFrom_24 ?_
  refine z_top (st1 := [.int 1]) (congrArg (fun w9 : Int32 => ([.int w9] : List Value)) (show ((507 : Int32) >>> ((8 : Int32) &&& (31 : Int32)) : Int32) = 1 by decide +kernel)) ?_
  refine z_iconst (v := 1) B dX10_copyFrom_25 rfl ?_
  refine z_iand B dX10_copyFrom_26 ?_
  refine z_top (st1 := [.int 1]) (congrArg (fun w9 : Int32 => ([.int w9] : List Value)) (show (1 &&& 1 : Int32) = 1 by decide +kernel)) ?_
  refine z_iconst (v := 1) B dX10_copyFrom_27 rfl ?_
  refine z_icmp_ne (tgt := 37) B dX10_copyFrom_28 rfl (fun h9 => absurd (by decide) h9) (fun c_18 => ?_)
  refine z_aload_n B dX10_copyFrom_31 rfl 2 rfl ?_
  refine z_iload B dX10_copyFrom_32 0 rfl ?_
  have h_63 : Φ17 h = some (o_ 12 [.ref f, .int 7, .int 251, .int 23]) := ((fr17 h).trans h_60)
  have h_64 : Φ17 f = some (ai_ G 9 (upd (upd (upd (upd (upd (upd (upd g (0 : Int32).toNatClampNeg 0) (1 : Int32).toNatClampNeg 1) (2 : Int32).toNatClampNeg 3) (3 : Int32).toNatClampNeg 4) (4 : Int32).toNatClampNeg 5) (5 : Int32).toNatClampNeg 6) (6 : Int32).toNatClampNeg 7)) := ((fr17 f).trans h_59)
  refine z_callV (As := [.int 8]) (rest := []) B (c_X10_addField G l Φ17 sz h f 7 251 23 (upd (upd (upd (upd (upd (upd (upd g (0 : Int32).toNatClampNeg 0) (1 : Int32).toNatClampNeg 1) (2 : Int32).toNatClampNeg 3) (3 : Int32).toNatClampNeg 4) (4 : Int32).toNatClampNeg 5) (5 : Int32).toNatClampNeg 6) (6 : Int32).toNatClampNeg 7) 8 h_63 h_64 hne_h_f hna_h hna_f (by decide) (by decide) (by decide) (by decide) (vin rfl) (vin rfl)) (cwV 1 B.1.2.2.2.2 gX10_copyFrom_X10_addField rfl rfl rfl (by decide +kernel) ⟨Nat.le_of_ble_eq_true rfl, Nat.le_of_ble_eq_true rfl⟩) h_63 rfl rfl rfl rfl (Nat.le_of_ble_eq_true rfl) dX10_copyFrom_34 ⟨Nat.le_of_ble_eq_true rfl, Nat.le_of_ble_eq_true rfl⟩ (fun v18 Φ18 sz18 st18 hp18 hs18 => ?_)
  obtain ⟨rfl, hq18, fr18, h_65, h_66⟩ := hp18
  replace hq18 : sz18 = sz := hq18
  subst sz18
  replace hs18 : st18 = [] := hs18
  subst st18
  have h_67 : Φ18 f = some (ai_ G 9 (upd (upd (upd (upd (upd (upd (upd (upd g (0 : Int32).toNatClampNeg 0) (1 : Int32).toNatClampNeg 1) (2 : Int32).toNatClampNeg 3) (3 : Int32).toNatClampNeg 4) (4 : Int32).toNatClampNeg 5) (5 : Int32).toNatClampNeg 6) (6 : Int32).toNatClampNeg 7) (7 : Int32).toNatClampNeg 8)) := h_65
  have h_68 : Φ18 h = some (o_ 12 [.ref f, .int 8, .int 507, .int 27]) := h_66
  refine z_iinc (k := 1) (v := 9) (lv' := [(3, .int 9), (4, .int 8), (0, .ref h), (1, .ref h2), (2, .int 507)]) B dX10_copyFrom_37 rfl rfl (Nat.le_of_ble_eq_true rfl) rfl ?_
  refine z_goto (tgt := 6) B dX10_copyFrom_40 rfl ?_
  refine z_iload_n B dX10_copyFrom_6 rfl 0 rfl ?_
  refine z_aload_n B dX10_copyFrom_7 rfl 3 rfl ?_
  have h_69 : Φ18 h2 = some (o_ 12 [.ref f2, .int 9, .int b2, .int d2]) := ((fr18 h2 hne_h2_f (Ne.symm hne_h_h2)).trans ((fr17 h2).trans h_61))
  refine z_get (ref := "FlowExporter$Template") (C := RX10) (T := TX10) (N := 4) (ci := 12) (v := .int 9) B (by decide +kernel) rfl 1 (by decide) (by decide +kernel) rfl h_69 rfl dX10_copyFrom_8 ?_
  refine z_icmp_ge (tgt := 43) B dX10_copyFrom_11 rfl (fun c_19 => ?_) (fun h9 => absurd (by decide) h9)
  exact z_ret_v B dX10_copyFrom_43 ⟨rfl, rfl, (fun b9 h9a h9b => ((fr18 b9 h9a h9b).trans ((fr17 b9).trans ((fr16 b9 h9a h9b).trans ((fr15 b9).trans ((fr14 b9 h9a h9b).trans ((fr13 b9).trans ((fr12 b9 h9a h9b).trans ((fr11 b9).trans ((fr10 b9 h9a h9b).trans ((fr9 b9).trans ((fr8 b9 h9a h9b).trans ((fr7 b9).trans ((fr6 b9).trans ((fr5 b9 h9a h9b).trans ((fr4 b9).trans ((fr3 b9 h9a h9b).trans ((fr2 b9).trans ((fr1 b9 h9b).trans rfl))))))))))))))))))), h_67, h_68⟩

set_option maxHeartbeats 4000000 in
set_option maxRecDepth 100000 in
theorem c_X10_copyFrom_z2 (G : EnvG) (l : Launch) (Φ : Hm) (sz : Nat) (h : Nat) (f : Nat) (a : Int32) (b : Int32) (d : Int32) (h2 : Nat) (f2 : Nat) (b2 : Int32) (d2 : Int32) (hc0 : Φ h = some (o_ 12 [.ref f, .int a, .int b, .int d])) (hc1 : Φ h2 = some (o_ 12 [.ref f2, .int 0, .int b2, .int d2])) (hne_h_h2 : h ≠ h2) (hna_h : G.2.2.2 ≤ h) : Ct G l yX10_copyFrom wsX10_copyFrom ({ frames := 1, cells := 0, slots := 0, locals := 20 }) 0 0 [.ref h, .ref h2, .int 507] Φ sz (fun v Φ1 sz1 => v = none ∧ sz1 = sz ∧ (∀ b9 : Nat, b9 ≠ h → Φ1 b9 = Φ b9) ∧ Φ1 h = some (o_ 12 [.ref f, .int 0, .int 0, .int 0])) := by
  refine Ct.of (cc := cX10_copyFrom) (maxL := 5) (ret := none) (by decide) rfl (Nat.le_of_ble_eq_true rfl) ?_
  intro p9 e9 s9 m9 w9 t9 k9 B
  show Z p9 l e9 _ s9 m9 _ w9 t9 k9 _ G 5 0 [(0, .ref h), (1, .ref h2), (2, .int 507)] [] Φ (sz) 0 0
  refine z_aload_n B dX10_copyFrom_0 rfl 0 rfl ?_
  refine z_callV (As := []) (rest := []) B (c_X10_clear G l Φ sz h f a b d hc0 hna_h) (cwV 0 B.1.2.2.2.2 gX10_copyFrom_X10_clear rfl rfl rfl (by decide +kernel) ⟨Nat.le_of_ble_eq_true rfl, Nat.le_of_ble_eq_true rfl⟩) hc0 rfl rfl rfl rfl (Nat.le_of_ble_eq_true rfl) dX10_copyFrom_1 ⟨Nat.le_of_ble_eq_true rfl, Nat.le_of_ble_eq_true rfl⟩ (fun v1 Φ1 sz1 st1 hp1 hs1 => ?_)
  obtain ⟨rfl, hq1, fr1, h_1⟩ := hp1
  replace hq1 : sz1 = sz := hq1
  subst sz1
  replace hs1 : st1 = [] := hs1
  subst st1
  have h_2 : Φ1 h = some (o_ 12 [.ref f, .int 0, .int 0, .int 0]) := h_1
  refine z_iconst (v := 0) B dX10_copyFrom_4 rfl ?_
  refine z_istore_n (lv' := [(3, .int 0), (0, .ref h), (1, .ref h2), (2, .int 507)]) B dX10_copyFrom_5 rfl (Nat.le_of_ble_eq_true rfl) rfl ?_
  refine z_iload_n B dX10_copyFrom_6 rfl 0 rfl ?_
  refine z_aload_n B dX10_copyFrom_7 rfl 2 rfl ?_
  have h_3 : Φ1 h2 = some (o_ 12 [.ref f2, .int 0, .int b2, .int d2]) := ((fr1 h2 (Ne.symm hne_h_h2)).trans hc1)
  refine z_get (ref := "FlowExporter$Template") (C := RX10) (T := TX10) (N := 4) (ci := 12) (v := .int 0) B (by decide +kernel) rfl 1 (by decide) (by decide +kernel) rfl h_3 rfl dX10_copyFrom_8 ?_
  refine z_icmp_ge (tgt := 43) B dX10_copyFrom_11 rfl (fun c_1 => ?_) (fun h9 => absurd (by decide) h9)
  exact z_ret_v B dX10_copyFrom_43 ⟨rfl, rfl, (fun b9 h9a => ((fr1 b9 h9a).trans rfl)), h_2⟩

set_option maxHeartbeats 4000000 in
set_option maxRecDepth 100000 in
theorem f_X1_support_s2 (G : EnvG) (l : Launch) (Φ : Hm) (sz : Nat) (x : Nat) (hc3_ : Φ (x + 3) = some (o_ 3 [.ref (x + 4), .ref (x + 5), .ref (x + 6), .ref (x + 7), .int 1, .int 511])) (hc6_ : Φ (x + 6) = some (aq_ G 4 4 (va_up (va_up (va_up (va_up (fun _ => none) (0 : Int32).toNatClampNeg (some (x + 8))) (1 : Int32).toNatClampNeg (some (x + 12))) (2 : Int32).toNatClampNeg (some (x + 16))) (3 : Int32).toNatClampNeg (some (x + 20))))) (hc7_ : Φ (x + 7) = some (aq_ G 4 4 (va_up (va_up (va_up (va_up (fun _ => none) (0 : Int32).toNatClampNeg (some (x + 10))) (1 : Int32).toNatClampNeg (some (x + 14))) (2 : Int32).toNatClampNeg (some (x + 18))) (3 : Int32).toNatClampNeg (some (x + 22))))) (hc8_ : Φ (x + 8) = some (o_ 12 [.ref (x + 9), .int 9, .int 511, .int 29])) (hc9_ : Φ (x + 9) = some (ai_ G 9 (upd (upd (upd (upd (upd (upd (upd (upd (upd (fun _ => 0) (0 : Int32).toNatClampNeg 0) (1 : Int32).toNatClampNeg 1) (2 : Int32).toNatClampNeg 2) (3 : Int32).toNatClampNeg 3) (4 : Int32).toNatClampNeg 4) (5 : Int32).toNatClampNeg 5) (6 : Int32).toNatClampNeg 6) (7 : Int32).toNatClampNeg 7) (8 : Int32).toNatClampNeg 8))) (hc10_ : Φ (x + 10) = some (o_ 12 [.ref (x + 11), .int 9, .int 511, .int 29])) (hc11_ : Φ (x + 11) = some (ai_ G 9 (upd (upd (upd (upd (upd (upd (upd (upd (upd (fun _ => 0) (0 : Int32).toNatClampNeg 0) (1 : Int32).toNatClampNeg 1) (2 : Int32).toNatClampNeg 2) (3 : Int32).toNatClampNeg 3) (4 : Int32).toNatClampNeg 4) (5 : Int32).toNatClampNeg 5) (6 : Int32).toNatClampNeg 6) (7 : Int32).toNatClampNeg 7) (8 : Int32).toNatClampNeg 8))) (hc12_ : Φ (x + 12) = some (o_ 12 [.ref (x + 13), .int 0, .int 0, .int 0])) (hc14_ : Φ (x + 14) = some (o_ 12 [.ref (x + 15), .int 0, .int 0, .int 0])) (hc16_ : Φ (x + 16) = some (o_ 12 [.ref (x + 17), .int 0, .int 0, .int 0])) (hc18_ : Φ (x + 18) = some (o_ 12 [.ref (x + 19), .int 0, .int 0, .int 0])) (hc20_ : Φ (x + 20) = some (o_ 12 [.ref (x + 21), .int 0, .int 0, .int 0])) (hc22_ : Φ (x + 22) = some (o_ 12 [.ref (x + 23), .int 0, .int 0, .int 0])) (hna : G.2.2.2 ≤ x) : Ct G l yX1_support wsX1_support ({ frames := 2, cells := 0, slots := 0, locals := 45 }) 0 0 [.ref (x + 3), .int 507] Φ sz (fun v Φ1 sz1 => v = none ∧ sz1 = sz ∧ (∀ b9 : Nat, b9 ≠ x + 10 → b9 ≠ x + 11 → b9 ≠ x + 14 → b9 ≠ x + 18 → b9 ≠ x + 22 → b9 ≠ x + 3 → Φ1 b9 = Φ b9) ∧ Φ1 (x + 10) = some (o_ 12 [.ref (x + 11), .int 8, .int 507, .int 27]) ∧ Φ1 (x + 11) = some (ai_ G 9 (upd (upd (upd (upd (upd (upd (upd (upd (upd (upd (upd (upd (upd (upd (upd (upd (upd (fun _ => 0) (0 : Int32).toNatClampNeg 0) (1 : Int32).toNatClampNeg 1) (2 : Int32).toNatClampNeg 2) (3 : Int32).toNatClampNeg 3) (4 : Int32).toNatClampNeg 4) (5 : Int32).toNatClampNeg 5) (6 : Int32).toNatClampNeg 6) (7 : Int32).toNatClampNeg 7) (8 : Int32).toNatClampNeg 8) (0 : Int32).toNatClampNeg 0) (1 : Int32).toNatClampNeg 1) (2 : Int32).toNatClampNeg 3) (3 : Int32).toNatClampNeg 4) (4 : Int32).toNatClampNeg 5) (5 : Int32).toNatClampNeg 6) (6 : Int32).toNatClampNeg 7) (7 : Int32).toNatClampNeg 8)) ∧ Φ1 (x + 14) = some (o_ 12 [.ref (x + 15), .int 0, .int 0, .int 0]) ∧ Φ1 (x + 18) = some (o_ 12 [.ref (x + 19), .int 0, .int 0, .int 0]) ∧ Φ1 (x + 22) = some (o_ 12 [.ref (x + 23), .int 0, .int 0, .int 0]) ∧ Φ1 (x + 3) = some (o_ 3 [.ref (x + 4), .ref (x + 5), .ref (x + 6), .ref (x + 7), .int 1, .int 507])) := by
  refine Ct.of (cc := cX1_support) (maxL := 3) (ret := none) (by decide) rfl (Nat.le_of_ble_eq_true rfl) ?_
  intro p9 e9 s9 m9 w9 t9 k9 B
  show Z p9 l e9 _ s9 m9 _ w9 t9 k9 _ G 3 0 [(0, .ref (x + 3)), (1, .int 507)] [] Φ sz 0 0
  refine z_aload_n B dX1_support_0 rfl 0 rfl ?_
  refine z_iload_n B dX1_support_1 rfl 1 rfl ?_
  refine z_put (ref := "FlowExporter$Config") (C := RX1) (T := TX1) (N := 6) (ci := 3) (v := .int 507) B (by decide +kernel) tyX1 tyX1_ok nmX1 rfl 5 (by decide) (by decide +kernel) rfl (Or.inl rfl) hc3_ (Nat.le_trans hna (Nat.le_add_right x 3)) rfl rfl (Nat.le_of_ble_eq_true rfl) dX1_support_2 (fun Φ1 hΦ1 => ?_)
  have h_1 : Φ1 (x + 3) = some (o_ 3 [.ref (x + 4), .ref (x + 5), .ref (x + 6), .ref (x + 7), .int 1, .int 507]) := fset_at hΦ1
  refine z_iconst (v := 0) B dX1_support_5 rfl ?_
  refine z_istore_n (lv' := [(2, .int 0), (0, .ref (x + 3)), (1, .int 507)]) B dX1_support_6 rfl (Nat.le_of_ble_eq_true rfl) rfl ?_
  refine z_iload_n B dX1_support_7 rfl 0 rfl ?_
  refine z_iconst (v := 4) B dX1_support_8 rfl ?_
  refine z_icmp_ge (tgt := 34) B dX1_support_9 rfl (fun h9 => absurd h9 (by decide)) (fun c_1 => ?_)
  refine z_aload_n B dX1_support_12 rfl 1 rfl ?_
  refine z_get (ref := "FlowExporter$Config") (C := RX1) (T := TX1) (N := 6) (ci := 3) (v := .ref (x + 7)) B (by decide +kernel) rfl 3 (by decide) (by decide +kernel) rfl h_1 rfl dX1_support_13 ?_
  refine z_iload_n B dX1_support_16 rfl 0 rfl ?_
  have h_2 : Φ1 (x + 7) = some (aq_ G 4 4 (va_up (va_up (va_up (va_up (fun _ => none) (0 : Int32).toNatClampNeg (some (x + 10))) (1 : Int32).toNatClampNeg (some (x + 14))) (2 : Int32).toNatClampNeg (some (x + 18))) (3 : Int32).toNatClampNeg (some (x + 22)))) := ((fset_fr hΦ1 (ne_off (x := x) (i := 7) (j := 3) rfl)).trans hc7_)
  refine z_aald (b := x + 10) B rfl h_2 (vin rfl) rfl dX1_support_17 ?_
  refine z_aload_n B dX1_support_18 rfl 1 rfl ?_
  refine z_get (ref := "FlowExporter$Config") (C := RX1) (T := TX1) (N := 6) (ci := 3) (v := .ref (x + 6)) B (by decide +kernel) rfl 2 (by decide) (by decide +kernel) rfl h_1 rfl dX1_support_19 ?_
  refine z_iload_n B dX1_support_22 rfl 0 rfl ?_
  have h_3 : Φ1 (x + 6) = some (aq_ G 4 4 (va_up (va_up (va_up (va_up (fun _ => none) (0 : Int32).toNatClampNeg (some (x + 8))) (1 : Int32).toNatClampNeg (some (x + 12))) (2 : Int32).toNatClampNeg (some (x + 16))) (3 : Int32).toNatClampNeg (some (x + 20)))) := ((fset_fr hΦ1 (ne_off (x := x) (i := 6) (j := 3) rfl)).trans hc6_)
  refine z_aald (b := x + 8) B rfl h_3 (vin rfl) rfl dX1_support_23 ?_
  refine z_iload_n B dX1_support_24 rfl 2 rfl ?_
  have h_4 : Φ1 (x + 10) = some (o_ 12 [.ref (x + 11), .int 9, .int 511, .int 29]) := ((fset_fr hΦ1 (ne_off (x := x) (i := 10) (j := 3) rfl)).trans hc10_)
  have h_5 : Φ1 (x + 11) = some (ai_ G 9 (upd (upd (upd (upd (upd (upd (upd (upd (upd (fun _ => 0) (0 : Int32).toNatClampNeg 0) (1 : Int32).toNatClampNeg 1) (2 : Int32).toNatClampNeg 2) (3 : Int32).toNatClampNeg 3) (4 : Int32).toNatClampNeg 4) (5 : Int32).toNatClampNeg 5) (6 : Int32).toNatClampNeg 6) (7 : Int32).toNatClampNeg 7) (8 : Int32).toNatClampNeg 8)) := ((fset_fr hΦ1 (ne_off (x := x) (i := 11) (j := 3) rfl)).trans hc11_)
  have h_6 : Φ1 (x + 8) = some (o_ 12 [.ref (x + 9), .int 9, .int 511, .int 29]) := ((fset_fr hΦ1 (ne_off (x := x) (i := 8) (j := 3) rfl)).trans hc8_)
  have h_7 : Φ1 (x + 9) = some (ai_ G 9 (upd (upd (upd (upd (upd (upd (upd (upd (upd (fun _ => 0) (0 : Int32).toNatClampNeg 0) (1 : Int32).toNatClampNeg 1) (2 : Int32).toNatClampNeg 2) (3 : Int32).toNatClampNeg 3) (4 : Int32).toNatClampNeg 4) (5 : Int32).toNatClampNeg 5) (6 : Int32).toNatClampNeg 6) (7 : Int32).toNatClampNeg 7) (8 : Int32).toNatClampNeg 8)) := ((fset_fr hΦ1 (ne_off (x := x) (i := 9) (j := 3) rfl)).trans hc9_)
  refine z_callV (As := [.ref (x + 8), .int 507]) (rest := []) B (c_X10_copyFrom_s2 G l Φ1 sz (x + 10) (x + 11) 9 511 29 (upd (upd (upd (upd (upd (upd (upd (upd (upd (fun _ => 0) (0 : Int32).toNatClampNeg 0) (1 : Int32).toNatClampNeg 1) (2 : Int32).toNatClampNeg 2) (3 : Int32).toNatClampNeg 3) (4 : Int32).toNatClampNeg 4) (5 : Int32).toNatClampNeg 5) (6 : Int32).toNatClampNeg 6) (7 : Int32).toNatClampNeg 7) (8 : Int32).toNatClampNeg 8) (x + 8) (x + 9) 511 29 (upd (upd (upd (upd (upd (upd (upd (upd (upd (fun _ => 0) (0 : Int32).toNatClampNeg 0) (1 : Int32).toNatClampNeg 1) (2 : Int32).toNatClampNeg 2) (3 : Int32).toNatClampNeg 3) (4 : Int32).toNatClampNeg 4) (5 : Int32).toNatClampNeg 5) (6 : Int32).toNatClampNeg 6) (7 : Int32).toNatClampNeg 7) (8 : Int32).toNatClampNeg 8) h_4 h_5 h_6 h_7 (ne_off (x := x) (i := 10) (j := 8) rfl) (ne_off (x := x) (i := 11) (j := 9) rfl) (ne_off (x := x) (i := 10) (j := 11) rfl) (ne_off (x := x) (i := 8) (j := 11) rfl) (ne_off (x := x) (i := 10) (j := 9) rfl) (ne_off (x := x) (i := 8) (j := 9) rfl) (Nat.le_trans hna (Nat.le_add_right x 10)) (Nat.le_trans hna (Nat.le_add_right x 11)) rfl rfl rfl rfl rfl rfl rfl rfl rfl) (cwV 2 B.1.2.2.2.2 gX1_support_X10_copyFrom rfl rfl rfl (by decide +kernel) ⟨Nat.le_of_ble_eq_true rfl, Nat.le_of_ble_eq_true rfl⟩) h_4 rfl rfl rfl rfl (Nat.le_of_ble_eq_true rfl) dX1_support_25 ⟨Nat.le_of_ble_eq_true rfl, Nat.le_of_ble_eq_true rfl⟩ (fun v1 Φ2 sz1 st1 hp1 hs1 => ?_)
  obtain ⟨rfl, hq1, fr1, h_8, h_9⟩ := hp1
  replace hq1 : sz1 = sz := hq1
  subst sz1
  replace hs1 : st1 = [] := hs1
  subst st1
  have h_10 : Φ2 (x + 11) = some (ai_ G 9 (upd (upd (upd (upd (upd (upd (upd (upd (upd (upd (upd (upd (upd (upd (upd (upd (upd (fun _ => 0) (0 : Int32).toNatClampNeg 0) (1 : Int32).toNatClampNeg 1) (2 : Int32).toNatClampNeg 2) (3 : Int32).toNatClampNeg 3) (4 : Int32).toNatClampNeg 4) (5 : Int32).toNatClampNeg 5) (6 : Int32).toNatClampNeg 6) (7 : Int32).toNatClampNeg 7) (8 : Int32).toNatClampNeg 8) (0 : Int32).toNatClampNeg 0) (1 : Int32).toNatClampNeg 1) (2 : Int32).toNatClampNeg 3) (3 : Int32).toNatClampNeg 4) (4 : Int32).toNatClampNeg 5) (5 : Int32).toNatClampNeg 6) (6 : Int32).toNatClampNeg 7) (7 : Int32).toNatClampNeg 8)) := h_8
  have h_11 : Φ2 (x + 10) = some (o_ 12 [.ref (x + 11), .int 8, .int 507, .int 27]) := h_9
  refine z_iinc (k := 0) (v := 1) (lv' := [(2, .int 1), (0, .ref (x + 3)), (1, .int 507)]) B dX1_support_28 rfl rfl (Nat.le_of_ble_eq_true rfl) rfl ?_
  refine z_goto (tgt := 7) B dX1_support_31 rfl ?_
  refine z_iload_n B dX1_support_7 rfl 0 rfl ?_
  refine z_iconst (v := 4) B dX1_support_8 rfl ?_
  refine z_icmp_ge (tgt := 34) B dX1_support_9 rfl (fun h9 => absurd h9 (by decide)) (fun c_2 => ?_)
  refine z_aload_n B dX1_support_12 rfl 1 rfl ?_
  have h_12 : Φ2 (x + 3) = some (o_ 3 [.ref (x + 4), .ref (x + 5), .ref (x + 6), .ref (x + 7), .int 1, .int 507]) := ((fr1 (x + 3) (ne_off (x := x) (i := 3) (j := 11) rfl) (ne_off (x := x) (i := 3) (j := 10) rfl)).trans h_1)
  refine z_get (ref := "FlowExporter$Config") (C := RX1) (T := TX1) (N := 6) (ci := 3) (v := .ref (x + 7)) B (by decide +kernel) rfl 3 (by decide) (by decide +kernel) rfl h_12 rfl dX1_support_13 ?_
  refine z_iload_n B dX1_support_16 rfl 0 rfl ?_
  have h_13 : Φ2 (x + 7) = some (aq_ G 4 4 (va_up (va_up (va_up (va_up (fun _ => none) (0 : Int32).toNatClampNeg (some (x + 10))) (1 : Int32).toNatClampNeg (some (x + 14))) (2 : Int32).toNatClampNeg (some (x + 18))) (3 : Int32).toNatClampNeg (some (x + 22)))) := ((fr1 (x + 7) (ne_off (x := x) (i := 7) (j := 11) rfl) (ne_off (x := x) (i := 7) (j := 10) rfl)).trans h_2)
  refine z_aald (b := x + 14) B rfl h_13 (vin rfl) rfl dX1_support_17 ?_
  refine z_aload_n B dX1_support_18 rfl 1 rfl ?_
  refine z_get (ref := "FlowExporter$Config") (C := RX1) (T := TX1) (N := 6) (ci := 3) (v := .ref (x + 6)) B (by decide +kernel) rfl 2 (by decide) (by decide +kernel) rfl h_12 rfl dX1_support_19 ?_
  refine z_iload_n B dX1_support_22 rfl 0 rfl ?_
  have h_14 : Φ2 (x + 6) = some (aq_ G 4 4 (va_up (va_up (va_up (va_up (fun _ => none) (0 : Int32).toNatClampNeg (some (x + 8))) (1 : Int32).toNatClampNeg (some (x + 12))) (2 : Int32).toNatClampNeg (some (x + 16))) (3 : Int32).toNatClampNeg (some (x + 20)))) := ((fr1 (x + 6) (ne_off (x := x) (i := 6) (j := 11) rfl) (ne_off (x := x) (i := 6) (j := 10) rfl)).trans h_3)
  refine z_aald (b := x + 12) B rfl h_14 (vin rfl) rfl dX1_support_23 ?_
  refine z_iload_n B dX1_support_24 rfl 2 rfl ?_
  have h_15 : Φ2 (x + 14) = some (o_ 12 [.ref (x + 15), .int 0, .int 0, .int 0]) := ((fr1 (x + 14) (ne_off (x := x) (i := 14) (j := 11) rfl) (ne_off (x := x) (i := 14) (j := 10) rfl)).trans ((fset_fr hΦ1 (ne_off (x := x) (i := 14) (j := 3) rfl)).trans hc14_))
  have h_16 : Φ2 (x + 12) = some (o_ 12 [.ref (x + 13), .int 0, .int 0, .int 0]) := ((fr1 (x + 12) (ne_off (x := x) (i := 12) (j := 11) rfl) (ne_off (x := x) (i := 12) (j := 10) rfl)).trans ((fset_fr hΦ1 (ne_off (x := x) (i := 12) (j := 3) rfl)).trans hc12_))
  refine z_callV (As := [.ref (x + 12), .int 507]) (rest := []) B (c_X10_copyFrom_z2 G l Φ2 sz (x + 14) (x + 15) 0 0 0 (x + 12) (x + 13) 0 0 h_15 h_16 (ne_off (x := x) (i := 14) (j := 12) rfl) (Nat.le_trans hna (Nat.le_add_right x 14))) (cwV 2 B.1.2.2.2.2 gX1_support_X10_copyFrom rfl rfl rfl (by decide +kernel) ⟨Nat.le_of_ble_eq_true rfl, Nat.le_of_ble_eq_true rfl⟩) h_15 rfl rfl rfl rfl (Nat.le_of_ble_eq_true rfl) dX1_support_25 ⟨Nat.le_of_ble_eq_true rfl, Nat.le_of_ble_eq_true rfl⟩ (fun v2 Φ3 sz2 st2 hp2 hs2 => ?_)
  obtain ⟨rfl, hq2, fr2, h_17⟩ := hp2
  replace hq2 : sz2 = sz := hq2
  subst sz2
  replace hs2 : st2 = [] := hs2
  subst st2
  have h_18 : Φ3 (x + 14) = some (o_ 12 [.ref (x + 15), .int 0, .int 0, .int 0]) := h_17
  refine z_iinc (k := 0) (v := 2) (lv' := [(2, .int 2), (0, .ref (x + 3)), (1, .int 507)]) B dX1_support_28 rfl rfl (Nat.le_of_ble_eq_true rfl) rfl ?_
  refine z_goto (tgt := 7) B dX1_support_31 rfl ?_
  refine z_iload_n B dX1_support_7 rfl 0 rfl ?_
  refine z_iconst (v := 4) B dX1_support_8 rfl ?_
  refine z_icmp_ge (tgt := 34) B dX1_support_9 rfl (fun h9 => absurd h9 (by decide)) (fun c_3 => ?_)
  refine z_aload_n B dX1_support_12 rfl 1 rfl ?_
  have h_19 : Φ3 (x + 3) = some (o_ 3 [.ref (x + 4), .ref (x + 5), .ref (x + 6), .ref (x + 7), .int 1, .int 507]) := ((fr2 (x + 3) (ne_off (x := x) (i := 3) (j := 14) rfl)).trans h_12)
  refine z_get (ref := "FlowExporter$Config") (C := RX1) (T := TX1) (N := 6) (ci := 3) (v := .ref (x + 7)) B (by decide +kernel) rfl 3 (by decide) (by decide +kernel) rfl h_19 rfl dX1_support_13 ?_
  refine z_iload_n B dX1_support_16 rfl 0 rfl ?_
  have h_20 : Φ3 (x + 7) = some (aq_ G 4 4 (va_up (va_up (va_up (va_up (fun _ => none) (0 : Int32).toNatClampNeg (some (x + 10))) (1 : Int32).toNatClampNeg (some (x + 14))) (2 : Int32).toNatClampNeg (some (x + 18))) (3 : Int32).toNatClampNeg (some (x + 22)))) := ((fr2 (x + 7) (ne_off (x := x) (i := 7) (j := 14) rfl)).trans h_13)
  refine z_aald (b := x + 18) B rfl h_20 (vin rfl) rfl dX1_support_17 ?_
  refine z_aload_n B dX1_support_18 rfl 1 rfl ?_
  refine z_get (ref := "FlowExporter$Config") (C := RX1) (T := TX1) (N := 6) (ci := 3) (v := .ref (x + 6)) B (by decide +kernel) rfl 2 (by decide) (by decide +kernel) rfl h_19 rfl dX1_support_19 ?_
  refine z_iload_n B dX1_support_22 rfl 0 rfl ?_
  have h_21 : Φ3 (x + 6) = some (aq_ G 4 4 (va_up (va_up (va_up (va_up (fun _ => none) (0 : Int32).toNatClampNeg (some (x + 8))) (1 : Int32).toNatClampNeg (some (x + 12))) (2 : Int32).toNatClampNeg (some (x + 16))) (3 : Int32).toNatClampNeg (some (x + 20)))) := ((fr2 (x + 6) (ne_off (x := x) (i := 6) (j := 14) rfl)).trans h_14)
  refine z_aald (b := x + 16) B rfl h_21 (vin rfl) rfl dX1_support_23 ?_
  refine z_iload_n B dX1_support_24 rfl 2 rfl ?_
  have h_22 : Φ3 (x + 18) = some (o_ 12 [.ref (x + 19), .int 0, .int 0, .int 0]) := ((fr2 (x + 18) (ne_off (x := x) (i := 18) (j := 14) rfl)).trans ((fr1 (x + 18) (ne_off (x := x) (i := 18) (j := 11) rfl) (ne_off (x := x) (i := 18) (j := 10) rfl)).trans ((fset_fr hΦ1 (ne_off (x := x) (i := 18) (j := 3) rfl)).trans hc18_)))
  have h_23 : Φ3 (x + 16) = some (o_ 12 [.ref (x + 17), .int 0, .int 0, .int 0]) := ((fr2 (x + 16) (ne_off (x := x) (i := 16) (j := 14) rfl)).trans ((fr1 (x + 16) (ne_off (x := x) (i := 16) (j := 11) rfl) (ne_off (x := x) (i := 16) (j := 10) rfl)).trans ((fset_fr hΦ1 (ne_off (x := x) (i := 16) (j := 3) rfl)).trans hc16_)))
  refine z_callV (As := [.ref (x + 16), .int 507]) (rest := []) B (c_X10_copyFrom_z2 G l Φ3 sz (x + 18) (x + 19) 0 0 0 (x + 16) (x + 17) 0 0 h_22 h_23 (ne_off (x := x) (i := 18) (j := 16) rfl) (Nat.le_trans hna (Nat.le_add_right x 18))) (cwV 2 B.1.2.2.2.2 gX1_support_X10_copyFrom rfl rfl rfl (by decide +kernel) ⟨Nat.le_of_ble_eq_true rfl, Nat.le_of_ble_eq_true rfl⟩) h_22 rfl rfl rfl rfl (Nat.le_of_ble_eq_true rfl) dX1_support_25 ⟨Nat.le_of_ble_eq_true rfl, Nat.le_of_ble_eq_true rfl⟩ (fun v3 Φ4 sz3 st3 hp3 hs3 => ?_)
  obtain ⟨rfl, hq3, fr3, h_24⟩ := hp3
  replace hq3 : sz3 = sz := hq3
  subst sz3
  replace hs3 : st3 = [] := hs3
  subst st3
  have h_25 : Φ4 (x + 18) = some (o_ 12 [.ref (x + 19), .int 0, .int 0, .int 0]) := h_24
  refine z_iinc (k := 0) (v := 3) (lv' := [(2, .int 3), (0, .ref (x + 3)), (1, .int 507)]) B dX1_support_28 rfl rfl (Nat.le_of_ble_eq_true rfl) rfl ?_
  refine z_goto (tgt := 7) B dX1_support_31 rfl ?_
  refine z_iload_n B dX1_support_7 rfl 0 rfl ?_
  refine z_iconst (v := 4) B dX1_support_8 rfl ?_
  refine z_icmp_ge (tgt := 34) B dX1_support_9 rfl (fun h9 => absurd h9 (by decide)) (fun c_4 => ?_)
  refine z_aload_n B dX1_support_12 rfl 1 rfl ?_
  have h_26 : Φ4 (x + 3) = some (o_ 3 [.ref (x + 4), .ref (x + 5), .ref (x + 6), .ref (x + 7), .int 1, .int 507]) := ((fr3 (x + 3) (ne_off (x := x) (i := 3) (j := 18) rfl)).trans h_19)
  refine z_get (ref := "FlowExporter$Config") (C := RX1) (T := TX1) (N := 6) (ci := 3) (v := .ref (x + 7)) B (by decide +kernel) rfl 3 (by decide) (by decide +kernel) rfl h_26 rfl dX1_support_13 ?_
  refine z_iload_n B dX1_support_16 rfl 0 rfl ?_
  have h_27 : Φ4 (x + 7) = some (aq_ G 4 4 (va_up (va_up (va_up (va_up (fun _ => none) (0 : Int32).toNatClampNeg (some (x + 10))) (1 : Int32).toNatClampNeg (some (x + 14))) (2 : Int32).toNatClampNeg (some (x + 18))) (3 : Int32).toNatClampNeg (some (x + 22)))) := ((fr3 (x + 7) (ne_off (x := x) (i := 7) (j := 18) rfl)).trans h_20)
  refine z_aald (b := x + 22) B rfl h_27 (vin rfl) rfl dX1_support_17 ?_
  refine z_aload_n B dX1_support_18 rfl 1 rfl ?_
  refine z_get (ref := "FlowExporter$Config") (C := RX1) (T := TX1) (N := 6) (ci := 3) (v := .ref (x + 6)) B (by decide +kernel) rfl 2 (by decide) (by decide +kernel) rfl h_26 rfl dX1_support_19 ?_
  refine z_iload_n B dX1_support_22 rfl 0 rfl ?_
  have h_28 : Φ4 (x + 6) = some (aq_ G 4 4 (va_up (va_up (va_up (va_up (fun _ => none) (0 : Int32).toNatClampNeg (some (x + 8))) (1 : Int32).toNatClampNeg (some (x + 12))) (2 : Int32).toNatClampNeg (some (x + 16))) (3 : Int32).toNatClampNeg (some (x + 20)))) := ((fr3 (x + 6) (ne_off (x := x) (i := 6) (j := 18) rfl)).trans h_21)
  refine z_aald (b := x + 20) B rfl h_28 (vin rfl) rfl dX1_support_23 ?_
  refine z_iload_n B dX1_support_24 rfl 2 rfl ?_
  have h_29 : Φ4 (x + 22) = some (o_ 12 [.ref (x + 23), .int 0, .int 0, .int 0]) := ((fr3 (x + 22) (ne_off (x := x) (i := 22) (j := 18) rfl)).trans ((fr2 (x + 22) (ne_off (x := x) (i := 22) (j := 14) rfl)).trans ((fr1 (x + 22) (ne_off (x := x) (i := 22) (j := 11) rfl) (ne_off (x := x) (i := 22) (j := 10) rfl)).trans ((fset_fr hΦ1 (ne_off (x := x) (i := 22) (j := 3) rfl)).trans hc22_))))
  have h_30 : Φ4 (x + 20) = some (o_ 12 [.ref (x + 21), .int 0, .int 0, .int 0]) := ((fr3 (x + 20) (ne_off (x := x) (i := 20) (j := 18) rfl)).trans ((fr2 (x + 20) (ne_off (x := x) (i := 20) (j := 14) rfl)).trans ((fr1 (x + 20) (ne_off (x := x) (i := 20) (j := 11) rfl) (ne_off (x := x) (i := 20) (j := 10) rfl)).trans ((fset_fr hΦ1 (ne_off (x := x) (i := 20) (j := 3) rfl)).trans hc20_))))
  refine z_callV (As := [.ref (x + 20), .int 507]) (rest := []) B (c_X10_copyFrom_z2 G l Φ4 sz (x + 22) (x + 23) 0 0 0 (x + 20) (x + 21) 0 0 h_29 h_30 (ne_off (x := x) (i := 22) (j := 20) rfl) (Nat.le_trans hna (Nat.le_add_right x 22))) (cwV 2 B.1.2.2.2.2 gX1_support_X10_copyFrom rfl rfl rfl (by decide +kernel) ⟨Nat.le_of_ble_eq_true rfl, Nat.le_of_ble_eq_true rfl⟩) h_29 rfl rfl rfl rfl (Nat.le_of_ble_eq_true rfl) dX1_support_25 ⟨Nat.le_of_ble_eq_true rfl, Nat.le_of_ble_eq_true rfl⟩ (fun v4 Φ5 sz4 st4 hp4 hs4 => ?_)
  obtain ⟨rfl, hq4, fr4, h_31⟩ := hp4
  replace hq4 : sz4 = sz := hq4
  subst sz4
  replace hs4 : st4 = [] := hs4
  subst st4
  have h_32 : Φ5 (x + 22) = some (o_ 12 [.ref (x + 23), .int 0, .int 0, .int 0]) := h_31
  refine z_iinc (k := 0) (v := 4) (lv' := [(2, .int 4), (0, .ref (x + 3)), (1, .int 507)]) B dX1_support_28 rfl rfl (Nat.le_of_ble_eq_true rfl) rfl ?_
  refine z_goto (tgt := 7) B dX1_support_31 rfl ?_
  refine z_iload_n B dX1_support_7 rfl 0 rfl ?_
  refine z_iconst (v := 4) B dX1_support_8 rfl ?_
  refine z_icmp_ge (tgt := 34) B dX1_support_9 rfl (fun c_5 => ?_) (fun h9 => absurd (by decide) h9)
  have h_33 : Φ5 (x + 10) = some (o_ 12 [.ref (x + 11), .int 8, .int 507, .int 27]) := ((fr4 (x + 10) (ne_off (x := x) (i := 10) (j := 22) rfl)).trans ((fr3 (x + 10) (ne_off (x := x) (i := 10) (j := 18) rfl)).trans ((fr2 (x + 10) (ne_off (x := x) (i := 10) (j := 14) rfl)).trans h_11)))
  have h_34 : Φ5 (x + 11) = some (ai_ G 9 (upd (upd (upd (upd (upd (upd (upd (upd (upd (upd (upd (upd (upd (upd (upd (upd (upd (fun _ => 0) (0 : Int32).toNatClampNeg 0) (1 : Int32).toNatClampNeg 1) (2 : Int32).toNatClampNeg 2) (3 : Int32).toNatClampNeg 3) (4 : Int32).toNatClampNeg 4) (5 : Int32).toNatClampNeg 5) (6 : Int32).toNatClampNeg 6) (7 : Int32).toNatClampNeg 7) (8 : Int32).toNatClampNeg 8) (0 : Int32).toNatClampNeg 0) (1 : Int32).toNatClampNeg 1) (2 : Int32).toNatClampNeg 3) (3 : Int32).toNatClampNeg 4) (4 : Int32).toNatClampNeg 5) (5 : Int32).toNatClampNeg 6) (6 : Int32).toNatClampNeg 7) (7 : Int32).toNatClampNeg 8)) := ((fr4 (x + 11) (ne_off (x := x) (i := 11) (j := 22) rfl)).trans ((fr3 (x + 11) (ne_off (x := x) (i := 11) (j := 18) rfl)).trans ((fr2 (x + 11) (ne_off (x := x) (i := 11) (j := 14) rfl)).trans h_10)))
  have h_35 : Φ5 (x + 14) = some (o_ 12 [.ref (x + 15), .int 0, .int 0, .int 0]) := ((fr4 (x + 14) (ne_off (x := x) (i := 14) (j := 22) rfl)).trans ((fr3 (x + 14) (ne_off (x := x) (i := 14) (j := 18) rfl)).trans h_18))
  have h_36 : Φ5 (x + 18) = some (o_ 12 [.ref (x + 19), .int 0, .int 0, .int 0]) := ((fr4 (x + 18) (ne_off (x := x) (i := 18) (j := 22) rfl)).trans h_25)
  have h_37 : Φ5 (x + 3) = some (o_ 3 [.ref (x + 4), .ref (x + 5), .ref (x + 6), .ref (x + 7), .int 1, .int 507]) := ((fr4 (x + 3) (ne_off (x := x) (i := 3) (j := 22) rfl)).trans h_26)
  exact z_ret_v B dX1_support_34 ⟨rfl, rfl, (fun b9 h9a h9b h9c h9d h9e h9f => ((fr4 b9 h9e).trans ((fr3 b9 h9d).trans ((fr2 b9 h9c).trans ((fr1 b9 h9b h9a).trans ((fset_fr hΦ1 h9f).trans rfl)))))), h_33, h_34, h_35, h_36, h_32, h_37⟩

set_option maxHeartbeats 4000000 in
set_option maxRecDepth 100000 in
theorem c_X10_copyFrom_s3 (G : EnvG) (l : Launch) (Φ : Hm) (sz : Nat) (h : Nat) (f : Nat) (a : Int32) (b : Int32) (d : Int32) (g : Nat → Int32) (h2 : Nat) (f2 : Nat) (b2 : Int32) (d2 : Int32) (g2 : Nat → Int32) (hc0 : Φ h = some (o_ 12 [.ref f, .int a, .int b, .int d])) (hc1 : Φ f = some (ai_ G 9 g)) (hc2 : Φ h2 = some (o_ 12 [.ref f2, .int 9, .int b2, .int d2])) (hc3 : Φ f2 = some (ai_ G 9 g2)) (hne_h_h2 : h ≠ h2) (hne_f_f2 : f ≠ f2) (hne_h_f : h ≠ f) (hne_h2_f : h2 ≠ f) (hne_h_f2 : h ≠ f2) (hne_h2_f2 : h2 ≠ f2) (hna_h : G.2.2.2 ≤ h) (hna_f : G.2.2.2 ≤ f) (hg0 : g2 0 = 0) (hg1 : g2 1 = 1) (hg2 : g2 2 = 2) (hg3 : g2 3 = 3) (hg4 : g2 4 = 4) (hg5 : g2 5 = 5) (hg6 : g2 6 = 6) (hg7 : g2 7 = 7) (hg8 : g2 8 = 8) : Ct G l yX10_copyFrom wsX10_copyFrom ({ frames := 1, cells := 0, slots := 0, locals := 21 }) 0 0 [.ref h, .ref h2, .int 503] Φ sz (fun v Φ1 sz1 => v = none ∧ sz1 = sz ∧ (∀ b9 : Nat, b9 ≠ f → b9 ≠ h → Φ1 b9 = Φ b9) ∧ Φ1 f = some (ai_ G 9 (upd (upd (upd (upd (upd (upd (upd (upd g (0 : Int32).toNatClampNeg 0) (1 : Int32).toNatClampNeg 1) (2 : Int32).toNatClampNeg 2) (3 : Int32).toNatClampNeg 4) (4 : Int32).toNatClampNeg 5) (5 : Int32).toNatClampNeg 6) (6 : Int32).toNatClampNeg 7) (7 : Int32).toNatClampNeg 8)) ∧ Φ1 h = some (o_ 12 [.ref f, .int 8, .int 503, .int 28])) := by
  refine Ct.of (cc := cX10_copyFrom) (maxL := 5) (ret := none) (by decide) rfl (Nat.le_of_ble_eq_true rfl) ?_
  intro p9 e9 s9 m9 w9 t9 k9 B
  show Z p9 l e9 _ s9 m9 _ w9 t9 k9 _ G 5 0 [(0, .ref h), (1, .ref h2), (2, .int 503)] [] Φ (sz) 0 0
  refine z_aload_n B dX10_copyFrom_0 rfl 0 rfl ?_
  refine z_callV (As := []) (rest := []) B (c_X10_clear G l Φ sz h f a b d hc0 hna_h) (cwV 0 B.1.2.2.2.2 gX10_copyFrom_X10_clear rfl rfl rfl (by decide +kernel) ⟨Nat.le_of_ble_eq_true rfl, Nat.le_of_ble_eq_true rfl⟩) hc0 rfl rfl rfl rfl (Nat.le_of_ble_eq_true rfl) dX10_copyFrom_1 ⟨Nat.le_of_ble_eq_true rfl, Nat.le_of_ble_eq_true rfl⟩ (fun v1 Φ1 sz1 st1 hp1 hs1 => ?_)
  obtain ⟨rfl, hq1, fr1, h_1⟩ := hp1
  replace hq1 : sz1 = sz := hq1
  subst sz1
  replace hs1 : st1 = [] := hs1
  subst st1
  have h_2 : Φ1 h = some (o_ 12 [.ref f, .int 0, .int 0, .int 0]) := h_1
  refine z_iconst (v := 0) B dX10_copyFrom_4 rfl ?_
  refine z_istore_n (lv' := [(3, .int 0), (0, .ref h), (1, .ref h2), (2, .int 503)]) B dX10_copyFrom_5 rfl (Nat.le_of_ble_eq_true rfl) rfl ?_
  refine z_iload_n B dX10_copyFrom_6 rfl 0 rfl ?_
  refine z_aload_n B dX10_copyFrom_7 rfl 2 rfl ?_
  have h_3 : Φ1 h2 = some (o_ 12 [.ref f2, .int 9, .int b2, .int d2]) := ((fr1 h2 (Ne.symm hne_h_h2)).trans hc2)
  refine z_get (ref := "FlowExporter$Template") (C := RX10) (T := TX10) (N := 4) (ci := 12) (v := .int 9) B (by decide +kernel) rfl 1 (by decide) (by decide +kernel) rfl h_3 rfl dX10_copyFrom_8 ?_
  refine z_icmp_ge (tgt := 43) B dX10_copyFrom_11 rfl (fun h9 => absurd h9 (by decide)) (fun c_1 => ?_)
  refine z_aload_n B dX10_copyFrom_14 rfl 2 rfl ?_
  refine z_iload_n B dX10_copyFrom_15 rfl 0 rfl ?_
  have h_4 : Φ1 f2 = some (ai_ G 9 g2) := ((fr1 f2 (Ne.symm hne_h_f2)).trans hc3)
  refine z_callV (As := [.int 0]) (rest := []) B (c_X10_field G l Φ1 sz h2 f2 9 b2 d2 g2 0 h_3 h_4 (by decide) (by decide) (vin rfl)) (cwV 1 B.1.2.2.2.2 gX10_copyFrom_X10_field rfl rfl rfl (by decide +kernel) ⟨Nat.le_of_ble_eq_true rfl, Nat.le_of_ble_eq_true rfl⟩) h_3 rfl rfl rfl rfl (Nat.le_of_ble_eq_true rfl) dX10_copyFrom_16 ⟨Nat.le_of_ble_eq_true rfl, Nat.le_of_ble_eq_true rfl⟩ (fun v2 Φ2 sz2 st2 hp2 hs2 => ?_)
  obtain ⟨rfl, hq2, fr2⟩ := hp2
  replace hq2 : sz2 = sz := hq2
  subst sz2
  replace hs2 : st2 = [.int (g2 (0 : Int32).toNatClampNeg)] := hs2
  subst st2
  refine z_top (st1 := [.int 0]) (by rw [show g2 ((0 : Int32).toNatClampNeg) = 0 from hg0]) ?_
  refine z_istore (lv' := [(4, .int 0), (3, .int 0), (0, .ref h), (1, .ref h2), (2, .int 503)]) B dX10_copyFrom_19 (Nat.le_of_ble_eq_true rfl) rfl ?_
  refine z_iload_n B dX10_copyFrom_21 rfl 4 rfl ?_
  refine z_iload B dX10_copyFrom_22 0 rfl ?_
  refine z_ishr B dX10_copyFrom_24 ?_
  refine z_top (st1 := [.int 503]) (congrArg (fun w9 : Int32 => ([.int w9] : List Value)) (show ((503 : Int32) >>> ((0 : Int32) &&& (31 : Int32)) : Int32) = 503 by decide +kernel)) ?_
  refine z_iconst (v := 1) B dX10_copyFrom_25 rfl ?_
  refine z_iand B dX10_copyFrom_26 ?_
  refine z_top (st1 := [.int 1]) (congrArg (fun w9 : Int32 => ([.int w9] : List Value)) (show (503 &&& 1 : Int32) = 1 by decide +kernel)) ?_
  refine z_iconst (v := 1) B dX10_copyFrom_27 rfl ?_
  refine z_icmp_ne (tgt := 37) B dX10_copyFrom_28 rfl (fun h9 => absurd (by decide) h9) (fun c_2 => ?_)
  refine z_aload_n B dX10_copyFrom_31 rfl 2 rfl ?_
  refine z_iload B dX10_copyFrom_32 0 rfl ?_
  have h_5 : Φ2 h = some (o_ 12 [.ref f, .int 0, .int 0, .int 0]) := ((fr2 h).trans h_2)
  have h_6 : Φ2 f = some (ai_ G 9 g) := ((fr2 f).trans ((fr1 f (Ne.symm hne_h_f)).trans hc1))
  refine z_callV (As := [.int 0]) (rest := []) B (c_X10_addField G l Φ2 sz h f 0 0 0 g 0 h_5 h_6 hne_h_f hna_h hna_f (by decide) (by decide) (by decide) (by decide) (vin rfl) (vin rfl)) (cwV 1 B.1.2.2.2.2 gX10_copyFrom_X10_addField rfl rfl rfl (by decide +kernel) ⟨Nat.le_of_ble_eq_true rfl, Nat.le_of_ble_eq_true rfl⟩) h_5 rfl rfl rfl rfl (Nat.le_of_ble_eq_true rfl) dX10_copyFrom_34 ⟨Nat.le_of_ble_eq_true rfl, Nat.le_of_ble_eq_true rfl⟩ (fun v3 Φ3 sz3 st3 hp3 hs3 => ?_)
  obtain ⟨rfl, hq3, fr3, h_7, h_8⟩ := hp3
  replace hq3 : sz3 = sz := hq3
  subst sz3
  replace hs3 : st3 = [] := hs3
  subst st3
  have h_9 : Φ3 f = some (ai_ G 9 (upd g (0 : Int32).toNatClampNeg 0)) := h_7
  have h_10 : Φ3 h = some (o_ 12 [.ref f, .int 1, .int 1, .int 1]) := h_8
  refine z_iinc (k := 1) (v := 1) (lv' := [(3, .int 1), (4, .int 0), (0, .ref h), (1, .ref h2), (2, .int 503)]) B dX10_copyFrom_37 rfl rfl (Nat.le_of_ble_eq_true rfl) rfl ?_
  refine z_goto (tgt := 6) B dX10_copyFrom_40 rfl ?_
  refine z_iload_n B dX10_copyFrom_6 rfl 0 rfl ?_
  refine z_aload_n B dX10_copyFrom_7 rfl 3 rfl ?_
  have h_11 : Φ3 h2 = some (o_ 12 [.ref f2, .int 9, .int b2, .int d2]) := ((fr3 h2 hne_h2_f (Ne.symm hne_h_h2)).trans ((fr2 h2).trans h_3))
  refine z_get (ref := "FlowExporter$Template") (C := RX10) (T := TX10) (N := 4) (ci := 12) (v := .int 9) B (by decide +kernel) rfl 1 (by decide) (by decide +kernel) rfl h_11 rfl dX10_copyFrom_8 ?_
  refine z_icmp_ge (tgt := 43) B dX10_copyFrom_11 rfl (fun h9 => absurd h9 (by decide)) (fun c_3 => ?_)
  refine z_aload_n B dX10_copyFrom_14 rfl 3 rfl ?_
  refine z_iload_n B dX10_copyFrom_15 rfl 0 rfl ?_
  have h_12 : Φ3 f2 = some (ai_ G 9 g2) := ((fr3 f2 (Ne.symm hne_f_f2) (Ne.symm hne_h_f2)).trans ((fr2 f2).trans h_4))
  refine z_callV (As := [.int 1]) (rest := []) B (c_X10_field G l Φ3 sz h2 f2 9 b2 d2 g2 1 h_11 h_12 (by decide) (by decide) (vin rfl)) (cwV 1 B.1.2.2.2.2 gX10_copyFrom_X10_field rfl rfl rfl (by decide +kernel) ⟨Nat.le_of_ble_eq_true rfl, Nat.le_of_ble_eq_true rfl⟩) h_11 rfl rfl rfl rfl (Nat.le_of_ble_eq_true rfl) dX10_copyFrom_16 ⟨Nat.le_of_ble_eq_true rfl, Nat.le_of_ble_eq_true rfl⟩ (fun v4 Φ4 sz4 st4 hp4 hs4 => ?_)
  obtain ⟨rfl, hq4, fr4⟩ := hp4
  replace hq4 : sz4 = sz := hq4
  subst sz4
  replace hs4 : st4 = [.int (g2 (1 : Int32).toNatClampNeg)] := hs4
  subst st4
  refine z_top (st1 := [.int 1]) (by rw [show g2 ((1 : Int32).toNatClampNeg) = 1 from hg1]) ?_
  refine z_istore (lv' := [(4, .int 1), (3, .int 1), (0, .ref h), (1, .ref h2), (2, .int 503)]) B dX10_copyFrom_19 (Nat.le_of_ble_eq_true rfl) rfl ?_
  refine z_iload_n B dX10_copyFrom_21 rfl 4 rfl ?_
  refine z_iload B dX10_copyFrom_22 0 rfl ?_
  refine z_ishr B dX10_copyFrom_24 ?_
  refine z_top (st1 := [.int 251]) (congrArg (fun w9 : Int32 => ([.int w9] : List Value)) (show ((503 : Int32) >>> ((1 : Int32) &&& (31 : Int32)) : Int32) = 251 by decide +kernel)) ?_
  refine z_iconst (v := 1) B dX10_copyFrom_25 rfl ?_
  refine z_iand B dX10_copyFrom_26 ?_
  refine z_top (st1 := [.int 1]) (congrArg (fun w9 : Int32 => ([.int w9] : List Value)) (show (251 &&& 1 : Int32) = 1 by decide +kernel)) ?_
  refine z_iconst (v := 1) B dX10_copyFrom_27 rfl ?_
  refine z_icmp_ne (tgt := 37) B dX10_copyFrom_28 rfl (fun h9 => absurd (by decide) h9) (fun c_4 => ?_)
  refine z_aload_n B dX10_copyFrom_31 rfl 2 rfl ?_
  refine z_iload B dX10_copyFrom_32 0 rfl ?_
  have h_13 : Φ4 h = some (o_ 12 [.ref f, .int 1, .int 1, .int 1]) := ((fr4 h).trans h_10)
  have h_14 : Φ4 f = some (ai_ G 9 (upd g (0 : Int32).toNatClampNeg 0)) := ((fr4 f).trans h_9)
  refine z_callV (As := [.int 1]) (rest := []) B (c_X10_addField G l Φ4 sz h f 1 1 1 (upd g (0 : Int32).toNatClampNeg 0) 1 h_13 h_14 hne_h_f hna_h hna_f (by decide) (by decide) (by decide) (by decide) (vin rfl) (vin rfl)) (cwV 1 B.1.2.2.2.2 gX10_copyFrom_X10_addField rfl rfl rfl (by decide +kernel) ⟨Nat.le_of_ble_eq_true rfl, Nat.le_of_ble_eq_true rfl⟩) h_13 rfl rfl rfl rfl (Nat.le_of_ble_eq_true rfl) dX10_copyFrom_34 ⟨Nat.le_of_ble_eq_true rfl, Nat.le_of_ble_eq_true rfl⟩ (fun v5 Φ5 sz5 st5 hp5 hs5 => ?_)
  obtain ⟨rfl, hq5, fr5, h_15, h_16⟩ := hp5
  replace hq5 : sz5 = sz := hq5
  subst sz5
  replace hs5 : st5 = [] := hs5
  subst st5
  have h_17 : Φ5 f = some (ai_ G 9 (upd (upd g (0 : Int32).toNatClampNeg 0) (1 : Int32).toNatClampNeg 1)) := h_15
  have h_18 : Φ5 h = some (o_ 12 [.ref f, .int 2, .int 3, .int 2]) := h_16
  refine z_iinc (k := 1) (v := 2) (lv' := [(3, .int 2), (4, .int 1), (0, .ref h), (1, .ref h2), (2, .int 503)]) B dX10_copyFrom_37 rfl rfl (Nat.le_of_ble_eq_true rfl) rfl ?_
  refine z_goto (tgt := 6) B dX10_copyFrom_40 rfl ?_
  refine z_iload_n B dX10_copyFrom_6 rfl 0 rfl ?_
  refine z_aload_n B dX10_copyFrom_7 rfl 3 rfl ?_
  have h_19 : Φ5 h2 = some (o_ 12 [.ref f2, .int 9, .int b2, .int d2]) := ((fr5 h2 hne_h2_f (Ne.symm hne_h_h2)).trans ((fr4 h2).trans h_11))
  refine z_get (ref := "FlowExporter$Template") (C := RX10) (T := TX10) (N := 4) (ci := 12) (v := .int 9) B (by decide +kernel) rfl 1 (by decide) (by decide +kernel) rfl h_19 rfl dX10_copyFrom_8 ?_
  refine z_icmp_ge (tgt := 43) B dX10_copyFrom_11 rfl (fun h9 => absurd h9 (by decide)) (fun c_5 => ?_)
  refine z_aload_n B dX10_copyFrom_14 rfl 3 rfl ?_
  refine z_iload_n B dX10_copyFrom_15 rfl 0 rfl ?_
  have h_20 : Φ5 f2 = some (ai_ G 9 g2) := ((fr5 f2 (Ne.symm hne_f_f2) (Ne.symm hne_h_f2)).trans ((fr4 f2).trans h_12))
  refine z_callV (As := [.int 2]) (rest := []) B (c_X10_field G l Φ5 sz h2 f2 9 b2 d2 g2 2 h_19 h_20 (by decide) (by decide) (vin rfl)) (cwV 1 B.1.2.2.2.2 gX10_copyFrom_X10_field rfl rfl rfl (by decide +kernel) ⟨Nat.le_of_ble_eq_true rfl, Nat.le_of_ble_eq_true rfl⟩) h_19 rfl rfl rfl rfl (Nat.le_of_ble_eq_true rfl) dX10_copyFrom_16 ⟨Nat.le_of_ble_eq_true rfl, Nat.le_of_ble_eq_true rfl⟩ (fun v6 Φ6 sz6 st6 hp6 hs6 => ?_)
  obtain ⟨rfl, hq6, fr6⟩ := hp6
  replace hq6 : sz6 = sz := hq6
  subst sz6
  replace hs6 : st6 = [.int (g2 (2 : Int32).toNatClampNeg)] := hs6
  subst st6
  refine z_top (st1 := [.int 2]) (by rw [show g2 ((2 : Int32).toNatClampNeg) = 2 from hg2]) ?_
  refine z_istore (lv' := [(4, .int 2), (3, .int 2), (0, .ref h), (1, .ref h2), (2, .int 503)]) B dX10_copyFrom_19 (Nat.le_of_ble_eq_true rfl) rfl ?_
  refine z_iload_n B dX10_copyFrom_21 rfl 4 rfl ?_
  refine z_iload B dX10_copyFrom_22 0 rfl ?_
  refine z_ishr B dX10_copyFrom_24 ?_
  refine z_top (st1 := [.int 125]) (congrArg (fun w9 : Int32 => ([.int w9] : List Value)) (show ((503 : Int32) >>> ((2 : Int32) &&& (31 : Int32)) : Int32) = 125 by decide +kernel)) ?_
  refine z_iconst (v := 1) B dX10_copyFrom_25 rfl ?_
  refine z_iand B dX10_copyFrom_26 ?_
  refine z_top (st1 := [.int 1]) (congrArg (fun w9 : Int32 => ([.int w9] : List Value)) (show (125 &&& 1 : Int32) = 1 by decide +kernel)) ?_
  refine z_iconst (v := 1) B dX10_copyFrom_27 rfl ?_
  refine z_icmp_ne (tgt := 37) B dX10_copyFrom_28 rfl (fun h9 => absurd (by decide) h9) (fun c_6 => ?_)
  refine z_aload_n B dX10_copyFrom_31 rfl 2 rfl ?_
  refine z_iload B dX10_copyFrom_32 0 rfl ?_
  have h_21 : Φ6 h = some (o_ 12 [.ref f, .int 2, .int 3, .int 2]) := ((fr6 h).trans h_18)
  have h_22 : Φ6 f = some (ai_ G 9 (upd (upd g (0 : Int32).toNatClampNeg 0) (1 : Int32).toNatClampNeg 1)) := ((fr6 f).trans h_17)
  refine z_callV (As := [.int 2]) (rest := []) B (c_X10_addField G l Φ6 sz h f 2 3 2 (upd (upd g (0 : Int32).toNatClampNeg 0) (1 : Int32).toNatClampNeg 1) 2 h_21 h_22 hne_h_f hna_h hna_f (by decide) (by decide) (by decide) (by decide) (vin rfl) (vin rfl)) (cwV 1 B.1.2.2.2.2 gX10_copyFrom_X10_addField rfl rfl rfl (by decide +kernel) ⟨Nat.le_of_ble_eq_true rfl, Nat.le_of_ble_eq_true rfl⟩) h_21 rfl rfl rfl rfl (Nat.le_of_ble_eq_true rfl) dX10_copyFrom_34 ⟨Nat.le_of_ble_eq_true rfl, Nat.le_of_ble_eq_true rfl⟩ (fun v7 Φ7 sz7 st7 hp7 hs7 => ?_)
  obtain ⟨rfl, hq7, fr7, h_23, h_24⟩ := hp7
  replace hq7 : sz7 = sz := hq7
  subst sz7
  replace hs7 : st7 = [] := hs7
  subst st7
  have h_25 : Φ7 f = some (ai_ G 9 (upd (upd (upd g (0 : Int32).toNatClampNeg 0) (1 : Int32).toNatClampNeg 1) (2 : Int32).toNatClampNeg 2)) := h_23
  have h_26 : Φ7 h = some (o_ 12 [.ref f, .int 3, .int 7, .int 4]) := h_24
  refine z_iinc (k := 1) (v := 3) (lv' := [(3, .int 3), (4, .int 2), (0, .ref h), (1, .ref h2), (2, .int 503)]) B dX10_copyFrom_37 rfl rfl (Nat.le_of_ble_eq_true rfl) rfl ?_
  refine z_goto (tgt := 6) B dX10_copyFrom_40 rfl ?_
  refine z_iload_n B dX10_copyFrom_6 rfl 0 rfl ?_
  refine z_aload_n B dX10_copyFrom_7 rfl 3 rfl ?_
  have h_27 : Φ7 h2 = some (o_ 12 [.ref f2, .int 9, .int b2, .int d2]) := ((fr7 h2 hne_h2_f (Ne.symm hne_h_h2)).trans ((fr6 h2).trans h_19))
  refine z_get (ref := "FlowExporter$Template") (C := RX10) (T := TX10) (N := 4) (ci := 12) (v := .int 9) B (by decide +kernel) rfl 1 (by decide) (by decide +kernel) rfl h_27 rfl dX10_copyFrom_8 ?_
  refine z_icmp_ge (tgt := 43) B dX10_copyFrom_11 rfl (fun h9 => absurd h9 (by decide)) (fun c_7 => ?_)
  refine z_aload_n B dX10_copyFrom_14 rfl 3 rfl ?_
  refine z_iload_n B dX10_copyFrom_15 rfl 0 rfl ?_
  have h_28 : Φ7 f2 = some (ai_ G 9 g2) := ((fr7 f2 (Ne.symm hne_f_f2) (Ne.symm hne_h_f2)).trans ((fr6 f2).trans h_20))
  refine z_callV (As := [.int 3]) (rest := []) B (c_X10_field G l Φ7 sz h2 f2 9 b2 d2 g2 3 h_27 h_28 (by decide) (by decide) (vin rfl)) (cwV 1 B.1.2.2.2.2 gX10_copyFrom_X10_field rfl rfl rfl (by decide +kernel) ⟨Nat.le_of_ble_eq_true rfl, Nat.le_of_ble_eq_true rfl⟩) h_27 rfl rfl rfl rfl (Nat.le_of_ble_eq_true rfl) dX10_copyFrom_16 ⟨Nat.le_of_ble_eq_true rfl, Nat.le_of_ble_eq_true rfl⟩ (fun v8 Φ8 sz8 st8 hp8 hs8 => ?_)
  obtain ⟨rfl, hq8, fr8⟩ := hp8
  replace hq8 : sz8 = sz := hq8
  subst sz8
  replace hs8 : st8 = [.int (g2 (3 : Int32).toNatClampNeg)] := hs8
  subst st8
  refine z_top (st1 := [.int 3]) (by rw [show g2 ((3 : Int32).toNatClampNeg) = 3 from hg3]) ?_
  refine z_istore (lv' := [(4, .int 3), (3, .int 3), (0, .ref h), (1, .ref h2), (2, .int 503)]) B dX10_copyFrom_19 (Nat.le_of_ble_eq_true rfl) rfl ?_
  refine z_iload_n B dX10_copyFrom_21 rfl 4 rfl ?_
  refine z_iload B dX10_copyFrom_22 0 rfl ?_
  refine z_ishr B dX10_copyFrom_24 ?_
  refine z_top (st1 := [.int 62]) (congrArg (fun w9 : Int32 => ([.int w9] : List Value)) (show ((503 : Int32) >>> ((3 : Int32) &&& (31 : Int32)) : Int32) = 62 by decide +kernel)) ?_
  refine z_iconst (v := 1) B dX10_copyFrom_25 rfl ?_
  refine z_iand B dX10_copyFrom_26 ?_
  refine z_top (st1 := [.int 0]) (congrArg (fun w9 : Int32 => ([.int w9] : List Value)) (show (62 &&& 1 : Int32) = 0 by decide +kernel)) ?_
  refine z_iconst (v := 1) B dX10_copyFrom_27 rfl ?_
  refine z_icmp_ne (tgt := 37) B dX10_copyFrom_28 rfl (fun c_8 => ?_) (fun h9 => absurd h9 (by decide))
  refine z_iinc (k := 1) (v := 4) (lv' := [(3, .int 4), (4, .int 3), (0, .ref h), (1, .ref h2), (2, .int 503)]) B dX10_copyFrom_37 rfl rfl (Nat.le_of_ble_eq_true rfl) rfl ?_
  refine z_goto (tgt := 6) B dX10_copyFrom_40 rfl ?_
  refine z_iload_n B dX10_copyFrom_6 rfl 0 rfl ?_
  refine z_aload_n B dX10_copyFrom_7 rfl 3 rfl ?_
  have h_29 : Φ8 h2 = some (o_ 12 [.ref f2, .int 9, .int b2, .int d2]) := ((fr8 h2).trans h_27)
  refine z_get (ref := "FlowExporter$Template") (C := RX10) (T := TX10) (N := 4) (ci := 12) (v := .int 9) B (by decide +kernel) rfl 1 (by decide) (by decide +kernel) rfl h_29 rfl dX10_copyFrom_8 ?_
  refine z_icmp_ge (tgt := 43) B dX10_copyFrom_11 rfl (fun h9 => absurd h9 (by decide)) (fun c_9 => ?_)
  refine z_aload_n B dX10_copyFrom_14 rfl 3 rfl ?_
  refine z_iload_n B dX10_copyFrom_15 rfl 0 rfl ?_
  have h_30 : Φ8 f2 = some (ai_ G 9 g2) := ((fr8 f2).trans h_28)
  refine z_callV (As := [.int 4]) (rest := []) B (c_X10_field G l Φ8 sz h2 f2 9 b2 d2 g2 4 h_29 h_30 (by decide) (by decide) (vin rfl)) (cwV 1 B.1.2.2.2.2 gX10_copyFrom_X10_field rfl rfl rfl (by decide +kernel) ⟨Nat.le_of_ble_eq_true rfl, Nat.le_of_ble_eq_true rfl⟩) h_29 rfl rfl rfl rfl (Nat.le_of_ble_eq_true rfl) dX10_copyFrom_16 ⟨Nat.le_of_ble_eq_true rfl, Nat.le_of_ble_eq_true rfl⟩ (fun v9 Φ9 sz9 st9 hp9 hs9 => ?_)
  obtain ⟨rfl, hq9, fr9⟩ := hp9
  replace hq9 : sz9 = sz := hq9
  subst sz9
  replace hs9 : st9 = [.int (g2 (4 : Int32).toNatClampNeg)] := hs9
  subst st9
  refine z_top (st1 := [.int 4]) (by rw [show g2 ((4 : Int32).toNatClampNeg) = 4 from hg4]) ?_
  refine z_istore (lv' := [(4, .int 4), (3, .int 4), (0, .ref h), (1, .ref h2), (2, .int 503)]) B dX10_copyFrom_19 (Nat.le_of_ble_eq_true rfl) rfl ?_
  refine z_iload_n B dX10_copyFrom_21 rfl 4 rfl ?_
  refine z_iload B dX10_copyFrom_22 0 rfl ?_
  refine z_ishr B dX10_copyFrom_24 ?_
  refine z_top (st1 := [.int 31]) (congrArg (fun w9 : Int32 => ([.int w9] : List Value)) (show ((503 : Int32) >>> ((4 : Int32) &&& (31 : Int32)) : Int32) = 31 by decide +kernel)) ?_
  refine z_iconst (v := 1) B dX10_copyFrom_25 rfl ?_
  refine z_iand B dX10_copyFrom_26 ?_
  refine z_top (st1 := [.int 1]) (congrArg (fun w9 : Int32 => ([.int w9] : List Value)) (show (31 &&& 1 : Int32) = 1 by decide +kernel)) ?_
  refine z_iconst (v := 1) B dX10_copyFrom_27 rfl ?_
  refine z_icmp_ne (tgt := 37) B dX10_copyFrom_28 rfl (fun h9 => absurd (by decide) h9) (fun c_10 => ?_)
  refine z_aload_n B dX10_copyFrom_31 rfl 2 rfl ?_
  refine z_iload B dX10_copyFrom_32 0 rfl ?_
  have h_31 : Φ9 h = some (o_ 12 [.ref f, .int 3, .int 7, .int 4]) := ((fr9 h).trans ((fr8 h).trans h_26))
  have h_32 : Φ9 f = some (ai_ G 9 (upd (upd (upd g (0 : Int32).toNatClampNeg 0) (1 : Int32).toNatClampNeg 1) (2 : Int32).toNatClampNeg 2)) := ((fr9 f).trans ((fr8 f).trans h_25))
  refine z_callV (As := [.int 4]) (rest := []) B (c_X10_addField G l Φ9 sz h f 3 7 4 (upd (upd (upd g (0 : Int32).toNatClampNeg 0) (1 : Int32).toNatClampNeg 1) (2 : Int32).toNatClampNeg 2) 4 h_31 h_32 hne_h_f hna_h hna_f (by decide) (by decide) (by decide) (by decide) (vin rfl) (vin rfl)) (cwV 1 B.1.2.2.2.2 gX10_copyFrom_X10_addField rfl rfl rfl (by decide +kernel) ⟨Nat.le_of_ble_eq_true rfl, Nat.le_of_ble_eq_true rfl⟩) h_31 rfl rfl rfl rfl (Nat.le_of_ble_eq_true rfl) dX10_copyFrom_34 ⟨Nat.le_of_ble_eq_true rfl, Nat.le_of_ble_eq_true rfl⟩ (fun v10 Φ10 sz10 st10 hp10 hs10 => ?_)
  obtain ⟨rfl, hq10, fr10, h_33, h_34⟩ := hp10
  replace hq10 : sz10 = sz := hq10
  subst sz10
  replace hs10 : st10 = [] := hs10
  subst st10
  have h_35 : Φ10 f = some (ai_ G 9 (upd (upd (upd (upd g (0 : Int32).toNatClampNeg 0) (1 : Int32).toNatClampNeg 1) (2 : Int32).toNatClampNeg 2) (3 : Int32).toNatClampNeg 4)) := h_33
  have h_36 : Φ10 h = some (o_ 12 [.ref f, .int 4, .int 23, .int 8]) := h_34
  refine z_iinc (k := 1) (v := 5) (lv' := [(3, .int 5), (4, .int 4), (0, .ref h), (1, .ref h2), (2, .int 503)]) B dX10_copyFrom_37 rfl rfl (Nat.le_of_ble_eq_true rfl) rfl ?_
  refine z_goto (tgt := 6) B dX10_copyFrom_40 rfl ?_
  refine z_iload_n B dX10_copyFrom_6 rfl 0 rfl ?_
  refine z_aload_n B dX10_copyFrom_7 rfl 3 rfl ?_
  have h_37 : Φ10 h2 = some (o_ 12 [.ref f2, .int 9, .int b2, .int d2]) := ((fr10 h2 hne_h2_f (Ne.symm hne_h_h2)).trans ((fr9 h2).trans h_29))
  refine z_get (ref := "FlowExporter$Template") (C := RX10) (T := TX10) (N := 4) (ci := 12) (v := .int 9) B (by decide +kernel) rfl 1 (by decide) (by decide +kernel) rfl h_37 rfl dX10_copyFrom_8 ?_
  refine z_icmp_ge (tgt := 43) B dX10_copyFrom_11 rfl (fun h9 => absurd h9 (by decide)) (fun c_11 => ?_)
  refine z_aload_n B dX10_copyFrom_14 rfl 3 rfl ?_
  refine z_iload_n B dX10_copyFrom_15 rfl 0 rfl ?_
  have h_38 : Φ10 f2 = some (ai_ G 9 g2) := ((fr10 f2 (Ne.symm hne_f_f2) (Ne.symm hne_h_f2)).trans ((fr9 f2).trans h_30))
  refine z_callV (As := [.int 5]) (rest := []) B (c_X10_field G l Φ10 sz h2 f2 9 b2 d2 g2 5 h_37 h_38 (by decide) (by decide) (vin rfl)) (cwV 1 B.1.2.2.2.2 gX10_copyFrom_X10_field rfl rfl rfl (by decide +kernel) ⟨Nat.le_of_ble_eq_true rfl, Nat.le_of_ble_eq_true rfl⟩) h_37 rfl rfl rfl rfl (Nat.le_of_ble_eq_true rfl) dX10_copyFrom_16 ⟨Nat.le_of_ble_eq_true rfl, Nat.le_of_ble_eq_true rfl⟩ (fun v11 Φ11 sz11 st11 hp11 hs11 => ?_)
  obtain ⟨rfl, hq11, fr11⟩ := hp11
  replace hq11 : sz11 = sz := hq11
  subst sz11
  replace hs11 : st11 = [.int (g2 (5 : Int32).toNatClampNeg)] := hs11
  subst st11
  refine z_top (st1 := [.int 5]) (by rw [show g2 ((5 : Int32).toNatClampNeg) = 5 from hg5]) ?_
  refine z_istore (lv' := [(4, .int 5), (3, .int 5), (0, .ref h), (1, .ref h2), (2, .int 503)]) B dX10_copyFrom_19 (Nat.le_of_ble_eq_true rfl) rfl ?_
  refine z_iload_n B dX10_copyFrom_21 rfl 4 rfl ?_
  refine z_iload B dX10_copyFrom_22 0 rfl ?_
  refine z_ishr B dX10_copyFrom_24 ?_
  refine z_top (st1 := [.int 15]) (congrArg (fun w9 : Int32 => ([.int w9] : List Value)) (show ((503 : Int32) >>> ((5 : Int32) &&& (31 : Int32)) : Int32) = 15 by decide +kernel)) ?_
  refine z_iconst (v := 1) B dX10_copyFrom_25 rfl ?_
  refine z_iand B dX10_copyFrom_26 ?_
  refine z_top (st1 := [.int 1]) (congrArg (fun w9 : Int32 => ([.int w9] : List Value)) (show (15 &&& 1 : Int32) = 1 by decide +kernel)) ?_
  refine z_iconst (v := 1) B dX10_copyFrom_27 rfl ?_
  refine z_icmp_ne (tgt := 37) B dX10_copyFrom_28 rfl (fun h9 => absurd (by decide) h9) (fun c_12 => ?_)
  refine z_aload_n B dX10_copyFrom_31 rfl 2 rfl ?_
  refine z_iload B dX10_copyFrom_32 0 rfl ?_
  have h_39 : Φ11 h = some (o_ 12 [.ref f, .int 4, .int 23, .int 8]) := ((fr11 h).trans h_36)
  have h_40 : Φ11 f = some (ai_ G 9 (upd (upd (upd (upd g (0 : Int32).toNatClampNeg 0) (1 : Int32).toNatClampNeg 1) (2 : Int32).toNatClampNeg 2) (3 : Int32).toNatClampNeg 4)) := ((fr11 f).trans h_35)
  refine z_callV (As := [.int 5]) (rest := []) B (c_X10_addField G l Φ11 sz h f 4 23 8 (upd (upd (upd (upd g (0 : Int32).toNatClampNeg 0) (1 : Int32).toNatClampNeg 1) (2 : Int32).toNatClampNeg 2) (3 : Int32).toNatClampNeg 4) 5 h_39 h_40 hne_h_f hna_h hna_f (by decide) (by decide) (by decide) (by decide) (vin rfl) (vin rfl)) (cwV 1 B.1.2.2.2.2 gX10_copyFrom_X10_addField rfl rfl rfl (by decide +kernel) ⟨Nat.le_of_ble_eq_true rfl, Nat.le_of_ble_eq_true rfl⟩) h_39 rfl rfl rfl rfl (Nat.le_of_ble_eq_true rfl) dX10_copyFrom_34 ⟨Nat.le_of_ble_eq_true rfl, Nat.le_of_ble_eq_true rfl⟩ (fun v12 Φ12 sz12 st12 hp12 hs12 => ?_)
  obtain ⟨rfl, hq12, fr12, h_41, h_42⟩ := hp12
  replace hq12 : sz12 = sz := hq12
  subst sz12
  replace hs12 : st12 = [] := hs12
  subst st12
  have h_43 : Φ12 f = some (ai_ G 9 (upd (upd (upd (upd (upd g (0 : Int32).toNatClampNeg 0) (1 : Int32).toNatClampNeg 1) (2 : Int32).toNatClampNeg 2) (3 : Int32).toNatClampNeg 4) (4 : Int32).toNatClampNeg 5)) := h_41
  have h_44 : Φ12 h = some (o_ 12 [.ref f, .int 5, .int 55, .int 16]) := h_42
  refine z_iinc (k := 1) (v := 6) (lv' := [(3, .int 6), (4, .int 5), (0, .ref h), (1, .ref h2), (2, .int 503)]) B dX10_copyFrom_37 rfl rfl (Nat.le_of_ble_eq_true rfl) rfl ?_
  refine z_goto (tgt := 6) B dX10_copyFrom_40 rfl ?_
  refine z_iload_n B dX10_copyFrom_6 rfl 0 rfl ?_
  refine z_aload_n B dX10_copyFrom_7 rfl 3 rfl ?_
  have h_45 : Φ12 h2 = some (o_ 12 [.ref f2, .int 9, .int b2, .int d2]) := ((fr12 h2 hne_h2_f (Ne.symm hne_h_h2)).trans ((fr11 h2).trans h_37))
  refine z_get (ref := "FlowExporter$Template") (C := RX10) (T := TX10) (N := 4) (ci := 12) (v := .int 9) B (by decide +kernel) rfl 1 (by decide) (by decide +kernel) rfl h_45 rfl dX10_copyFrom_8 ?_
  refine z_icmp_ge (tgt := 43) B dX10_copyFrom_11 rfl (fun h9 => absurd h9 (by decide)) (fun c_13 => ?_)
  refine z_aload_n B dX10_copyFrom_14 rfl 3 rfl ?_
  refine z_iload_n B dX10_copyFrom_15 rfl 0 rfl ?_
  have h_46 : Φ12 f2 = some (ai_ G 9 g2) := ((fr12 f2 (Ne.symm hne_f_f2) (Ne.symm hne_h_f2)).trans ((fr11 f2).trans h_38))
  refine z_callV (As := [.int 6]) (rest := []) B (c_X10_field G l Φ12 sz h2 f2 9 b2 d2 g2 6 h_45 h_46 (by decide) (by decide) (vin rfl)) (cwV 1 B.1.2.2.2.2 gX10_copyFrom_X10_field rfl rfl rfl (by decide +kernel) ⟨Nat.le_of_ble_eq_true rfl, Nat.le_of_ble_eq_true rfl⟩) h_45 rfl rfl rfl rfl (Nat.le_of_ble_eq_true rfl) dX10_copyFrom_16 ⟨Nat.le_of_ble_eq_true rfl, Nat.le_of_ble_eq_true rfl⟩ (fun v13 Φ13 sz13 st13 hp13 hs13 => ?_)
  obtain ⟨rfl, hq13, fr13⟩ := hp13
  replace hq13 : sz13 = sz := hq13
  subst sz13
  replace hs13 : st13 = [.int (g2 (6 : Int32).toNatClampNeg)] := hs13
  subst st13
  refine z_top (st1 := [.int 6]) (by rw [show g2 ((6 : Int32).toNatClampNeg) = 6 from hg6]) ?_
  refine z_istore (lv' := [(4, .int 6), (3, .int 6), (0, .ref h), (1, .ref h2), (2, .int 503)]) B dX10_copyFrom_19 (Nat.le_of_ble_eq_true rfl) rfl ?_
  refine z_iload_n B dX10_copyFrom_21 rfl 4 rfl ?_
  refine z_iload B dX10_copyFrom_22 0 rfl ?_
  refine z_ishr B dX10_copyFrom_24 ?_
  refine z_top (st1 := [.int 7]) (congrArg (fun w9 : Int32 => ([.int w9] : List Value)) (show ((503 : Int32) >>> ((6 : Int32) &&& (31 : Int32)) : Int32) = 7 by decide +kernel)) ?_
  refine z_iconst (v := 1) B dX10_copyFrom_25 rfl ?_
  refine z_iand B dX10_copyFrom_26 ?_
  refine z_top (st1 := [.int 1]) (congrArg (fun w9 : Int32 => ([.int w9] : List Value)) (show (7 &&& 1 : Int32) = 1 by decide +kernel)) ?_
  refine z_iconst (v := 1) B dX10_copyFrom_27 rfl ?_
  refine z_icmp_ne (tgt := 37) B dX10_copyFrom_28 rfl (fun h9 => absurd (by decide) h9) (fun c_14 => ?_)
  refine z_aload_n B dX10_copyFrom_31 rfl 2 rfl ?_
  refine z_iload B dX10_copyFrom_32 0 rfl ?_
  have h_47 : Φ13 h = some (o_ 12 [.ref f, .int 5, .int 55, .int 16]) := ((fr13 h).trans h_44)
  have h_48 : Φ13 f = some (ai_ G 9 (upd (upd (upd (upd (upd g (0 : Int32).toNatClampNeg 0) (1 : Int32).toNatClampNeg 1) (2 : Int32).toNatClampNeg 2) (3 : Int32).toNatClampNeg 4) (4 : Int32).toNatClampNeg 5)) := ((fr13 f).trans h_43)
  refine z_callV (As := [.int 6]) (rest := []) B (c_X10_addField G l Φ13 sz h f 5 55 16 (upd (upd (upd (upd (upd g (0 : Int32).toNatClampNeg 0) (1 : Int32).toNatClampNeg 1) (2 : Int32).toNatClampNeg 2) (3 : Int32).toNatClampNeg 4) (4 : Int32).toNatClampNeg 5) 6 h_47 h_48 hne_h_f hna_h hna_f (by decide) (by decide) (by decide) (by decide) (vin rfl) (vin rfl)) (cwV 1 B.1.2.2.2.2 gX10_copyFrom_X10_addField rfl rfl rfl (by decide +kernel) ⟨Nat.le_of_ble_eq_true rfl, Nat.le_of_ble_eq_true rfl⟩) h_47 rfl rfl rfl rfl (Nat.le_of_ble_eq_true rfl) dX10_copyFrom_34 ⟨Nat.le_of_ble_eq_true rfl, Nat.le_of_ble_eq_true rfl⟩ (fun v14 Φ14 sz14 st14 hp14 hs14 => ?_)
  obtain ⟨rfl, hq14, fr14, h_49, h_50⟩ := hp14
  replace hq14 : sz14 = sz := hq14
  subst sz14
  replace hs14 : st14 = [] := hs14
  subst st14
  have h_51 : Φ14 f = some (ai_ G 9 (upd (upd (upd (upd (upd (upd g (0 : Int32).toNatClampNeg 0) (1 : Int32).toNatClampNeg 1) (2 : Int32).toNatClampNeg 2) (3 : Int32).toNatClampNeg 4) (4 : Int32).toNatClampNeg 5) (5 : Int32).toNatClampNeg 6)) := h_49
  have h_52 : Φ14 h = some (o_ 12 [.ref f, .int 6, .int 119, .int 20]) := h_50
  refine z_iinc (k := 1) (v := 7) (lv' := [(3, .int 7), (4, .int 6), (0, .ref h), (1, .ref h2), (2, .int 503)]) B dX10_copyFrom_37 rfl rfl (Nat.le_of_ble_eq_true rfl) rfl ?_
  refine z_goto (tgt := 6) B dX10_copyFrom_40 rfl ?_
  refine z_iload_n B dX10_copyFrom_6 rfl 0 rfl ?_
  refine z_aload_n B dX10_copyFrom_7 rfl 3 rfl ?_
  have h_53 : Φ14 h2 = some (o_ 12 [.ref f2, .int 9, .int b2, .int d2]) := ((fr14 h2 hne_h2_f (Ne.symm hne_h_h2)).trans ((fr13 h2).trans h_45))
  refine z_get (ref := "FlowExporter$Template") (C := RX10) (T := TX10) (N := 4) (ci := 12) (v := .int 9) B (by decide +kernel) rfl 1 (by decide) (by decide +kernel) rfl h_53 rfl dX10_copyFrom_8 ?_
  refine z_icmp_ge (tgt := 43) B dX10_copyFrom_11 rfl (fun h9 => absurd h9 (by decide)) (fun c_15 => ?_)
  refine z_aload_n B dX10_copyFrom_14 rfl 3 rfl ?_
  refine z_iload_n B dX10_copyFrom_15 rfl 0 rfl ?_
  have h_54 : Φ14 f2 = some (ai_ G 9 g2) := ((fr14 f2 (Ne.symm hne_f_f2) (Ne.symm hne_h_f2)).trans ((fr13 f2).trans h_46))
  refine z_callV (As := [.int 7]) (rest := []) B (c_X10_field G l Φ14 sz h2 f2 9 b2 d2 g2 7 h_53 h_54 (by decide) (by decide) (vin rfl)) (cwV 1 B.1.2.2.2.2 gX10_copyFrom_X10_field rfl rfl rfl (by decide +kernel) ⟨Nat.le_of_ble_eq_true rfl, Nat.le_of_ble_eq_true rfl⟩) h_53 rfl rfl rfl rfl (Nat.le_of_ble_eq_true rfl) dX10_copyFrom_16 ⟨Nat.le_of_ble_eq_true rfl, Nat.le_of_ble_eq_true rfl⟩ (fun v15 Φ15 sz15 st15 hp15 hs15 => ?_)
  obtain ⟨rfl, hq15, fr15⟩ := hp15
  replace hq15 : sz15 = sz := hq15
  subst sz15
  replace hs15 : st15 = [.int (g2 (7 : Int32).toNatClampNeg)] := hs15
  subst st15
  refine z_top (st1 := [.int 7]) (by rw [show g2 ((7 : Int32).toNatClampNeg) = 7 from hg7]) ?_
  refine z_istore (lv' := [(4, .int 7), (3, .int 7), (0, .ref h), (1, .ref h2), (2, .int 503)]) B dX10_copyFrom_19 (Nat.le_of_ble_eq_true rfl) rfl ?_
  refine z_iload_n B dX10_copyFrom_21 rfl 4 rfl ?_
  refine z_iload B dX10_copyFrom_22 0 rfl ?_
  refine z_ishr B dX10_copyFrom_24 ?_
  refine z_top (st1 := [.int 3]) (congrArg (fun w9 : Int32 => ([.int w9] : List Value)) (show ((503 : Int32) >>> ((7 : Int32) &&& (31 : Int32)) : Int32) = 3 by decide +kernel)) ?_
  refine z_iconst (v := 1) B dX10_copyFrom_25 rfl ?_
  refine z_iand B dX10_copyFrom_26 ?_
  refine z_top (st1 := [.int 1]) (congrArg (fun w9 : Int32 => ([.int w9] : List Value)) (show (3 &&& 1 : Int32) = 1 by decide +kernel)) ?_
  refine z_iconst (v := 1) B dX10_copyFrom_27 rfl ?_
  refine z_icmp_ne (tgt := 37) B dX10_copyFrom_28 rfl (fun h9 => absurd (by decide) h9) (fun c_16 => ?_)
  refine z_aload_n B dX10_copyFrom_31 rfl 2 rfl ?_
  refine z_iload B dX10_copyFrom_32 0 rfl ?_
  have h_55 : Φ15 h = some (o_ 12 [.ref f, .int 6, .int 119, .int 20]) := ((fr15 h).trans h_52)
  have h_56 : Φ15 f = some (ai_ G 9 (upd (upd (upd (upd (upd (upd g (0 : Int32).toNatClampNeg 0) (1 : Int32).toNatClampNeg 1) (2 : Int32).toNatClampNeg 2) (3 : Int32).toNatClampNeg 4) (4 : Int32).toNatClampNeg 5) (5 : Int32).toNatClampNeg 6)) := ((fr15 f).trans h_51)
  refine z_callV (As := [.int 7]) (rest := []) B (c_X10_addField G l Φ15 sz h f 6 119 20 (upd (upd (upd (upd (upd (upd g (0 : Int32).toNatClampNeg 0) (1 : Int32).toNatClampNeg 1) (2 : Int32).toNatClampNeg 2) (3 : Int32).toNatClampNeg 4) (4 : Int32).toNatClampNeg 5) (5 : Int32).toNatClampNeg 6) 7 h_55 h_56 hne_h_f hna_h hna_f (by decide) (by decide) (by decide) (by decide) (vin rfl) (vin rfl)) (cwV 1 B.1.2.2.2.2 gX10_copyFrom_X10_addField rfl rfl rfl (by decide +kernel) ⟨Nat.le_of_ble_eq_true rfl, Nat.le_of_ble_eq_true rfl⟩) h_55 rfl rfl rfl rfl (Nat.le_of_ble_eq_true rfl) dX10_copyFrom_34 ⟨Nat.le_of_ble_eq_true rfl, Nat.le_of_ble_eq_true rfl⟩ (fun v16 Φ16 sz16 st16 hp16 hs16 => ?_)
  obtain ⟨rfl, hq16, fr16, h_57, h_58⟩ := hp16
  replace hq16 : sz16 = sz := hq16
  subst sz16
  replace hs16 : st16 = [] := hs16
  subst st16
  have h_59 : Φ16 f = some (ai_ G 9 (upd (upd (upd (upd (upd (upd (upd g (0 : Int32).toNatClampNeg 0) (1 : Int32).toNatClampNeg 1) (2 : Int32).toNatClampNeg 2) (3 : Int32).toNatClampNeg 4) (4 : Int32).toNatClampNeg 5) (5 : Int32).toNatClampNeg 6) (6 : Int32).toNatClampNeg 7)) := h_57
  have h_60 : Φ16 h = some (o_ 12 [.ref f, .int 7, .int 247, .int 24]) := h_58
  refine z_iinc (k := 1) (v := 8) (lv' := [(3, .int 8), (4, .int 7), (0, .ref h), (1, .ref h2), (2, .int 503)]) B dX10_copyFrom_37 rfl rfl (Nat.le_of_ble_eq_true rfl) rfl ?_
  refine z_goto (tgt := 6) B dX10_copyFrom_40 rfl ?_
  refine z_iload_n B dX10_copyFrom_6 rfl 0 rfl ?_
  refine z_aload_n B dX10_copyFrom_7 rfl 3 rfl ?_
  have h_61 : Φ16 h2 = some (o_ 12 [.ref f2, .int 9, .int b2, .int d2]) := ((fr16 h2 hne_h2_f (Ne.symm hne_h_h2)).trans ((fr15 h2).trans h_53))
  refine z_get (ref := "FlowExporter$Template") (C := RX10) (T := TX10) (N := 4) (ci := 12) (v := .int 9) B (by decide +kernel) rfl 1 (by decide) (by decide +kernel) rfl h_61 rfl dX10_copyFrom_8 ?_
  refine z_icmp_ge (tgt := 43) B dX10_copyFrom_11 rfl (fun h9 => absurd h9 (by decide)) (fun c_17 => ?_)
  refine z_aload_n B dX10_copyFrom_14 rfl 3 rfl ?_
  refine z_iload_n B dX10_copyFrom_15 rfl 0 rfl ?_
  have h_62 : Φ16 f2 = some (ai_ G 9 g2) := ((fr16 f2 (Ne.symm hne_f_f2) (Ne.symm hne_h_f2)).trans ((fr15 f2).trans h_54))
  refine z_callV (As := [.int 8]) (rest := []) B (c_X10_field G l Φ16 sz h2 f2 9 b2 d2 g2 8 h_61 h_62 (by decide) (by decide) (vin rfl)) (cwV 1 B.1.2.2.2.2 gX10_copyFrom_X10_field rfl rfl rfl (by decide +kernel) ⟨Nat.le_of_ble_eq_true rfl, Nat.le_of_ble_eq_true rfl⟩) h_61 rfl rfl rfl rfl (Nat.le_of_ble_eq_true rfl) dX10_copyFrom_16 ⟨Nat.le_of_ble_eq_true rfl, Nat.le_of_ble_eq_true rfl⟩ (fun v17 Φ17 sz17 st17 hp17 hs17 => ?_)
  obtain ⟨rfl, hq17, fr17⟩ := hp17
  replace hq17 : sz17 = sz := hq17
  subst sz17
  replace hs17 : st17 = [.int (g2 (8 : Int32).toNatClampNeg)] := hs17
  subst st17
  refine z_top (st1 := [.int 8]) (by rw [show g2 ((8 : Int32).toNatClampNeg) = 8 from hg8]) ?_
  refine z_istore (lv' := [(4, .int 8), (3, .int 8), (0, .ref h), (1, .ref h2), (2, .int 503)]) B dX10_copyFrom_19 (Nat.le_of_ble_eq_true rfl) rfl ?_
  refine z_iload_n B dX10_copyFrom_21 rfl 4 rfl ?_
  refine z_iload B dX10_copyFrom_22 0 rfl ?_
  refine z_ishr B dX10_copyFrom_24 ?_
  refine z_top (st1 := [.int 1]) (congrArg (fun w9 : Int32 => ([.int w9] : List Value)) (show ((503 : Int32) >>> ((8 : Int32) &&& (31 : Int32)) : Int32) = 1 by decide +kernel)) ?_
  refine z_iconst (v := 1) B dX10_copyFrom_25 rfl ?_
  refine z_iand B dX10_copyFrom_26 ?_
  refine z_top (st1 := [.int 1]) (congrArg (fun w9 : Int32 => ([.int w9] : List Value)) (show (1 &&& 1 : Int32) = 1 by decide +kernel)) ?_
  refine z_iconst (v := 1) B dX10_copyFrom_27 rfl ?_
  refine z_icmp_ne (tgt := 37) B dX10_copyFrom_28 rfl (fun h9 => absurd (by decide) h9) (fun c_18 => ?_)
  refine z_aload_n B dX10_copyFrom_31 rfl 2 rfl ?_
  refine z_iload B dX10_copyFrom_32 0 rfl ?_
  have h_63 : Φ17 h = some (o_ 12 [.ref f, .int 7, .int 247, .int 24]) := ((fr17 h).trans h_60)
  have h_64 : Φ17 f = some (ai_ G 9 (upd (upd (upd (upd (upd (upd (upd g (0 : Int32).toNatClampNeg 0) (1 : Int32).toNatClampNeg 1) (2 : Int32).toNatClampNeg 2) (3 : Int32).toNatClampNeg 4) (4 : Int32).toNatClampNeg 5) (5 : Int32).toNatClampNeg 6) (6 : Int32).toNatClampNeg 7)) := ((fr17 f).trans h_59)
  refine z_callV (As := [.int 8]) (rest := []) B (c_X10_addField G l Φ17 sz h f 7 247 24 (upd (upd (upd (upd (upd (upd (upd g (0 : Int32).toNatClampNeg 0) (1 : Int32).toNatClampNeg 1) (2 : Int32).toNatClampNeg 2) (3 : Int32).toNatClampNeg 4) (4 : Int32).toNatClampNeg 5) (5 : Int32).toNatClampNeg 6) (6 : Int32).toNatClampNeg 7) 8 h_63 h_64 hne_h_f hna_h hna_f (by decide) (by decide) (by decide) (by decide) (vin rfl) (vin rfl)) (cwV 1 B.1.2.2.2.2 gX10_copyFrom_X10_addField rfl rfl rfl (by decide +kernel) ⟨Nat.le_of_ble_eq_true rfl, Nat.le_of_ble_eq_true rfl⟩) h_63 rfl rfl rfl rfl (Nat.le_of_ble_eq_true rfl) dX10_copyFrom_34 ⟨Nat.le_of_ble_eq_true rfl, Nat.le_of_ble_eq_true rfl⟩ (fun v18 Φ18 sz18 st18 hp18 hs18 => ?_)
  obtain ⟨rfl, hq18, fr18, h_65, h_66⟩ := hp18
  replace hq18 : sz18 = sz := hq18
  subst sz18
  replace hs18 : st18 = [] := hs18
  subst st18
  have h_67 : Φ18 f = some (ai_ G 9 (upd (upd (upd (upd (upd (upd (upd (upd g (0 : Int32).toNatClampNeg 0) (1 : Int32).toNatClampNeg 1) (2 : Int32).toNatClampNeg 2) (3 : Int32).toNatClampNeg 4) (4 : Int32).toNatClampNeg 5) (5 : Int32).toNatClampNeg 6) (6 : Int32).toNatClampNeg 7) (7 : Int32).toNatClampNeg 8)) := h_65
  have h_68 : Φ18 h = some (o_ 12 [.ref f, .int 8, .int 503, .int 28]) := h_66
  refine z_iinc (k := 1) (v := 9) (lv' := [(3, .int 9), (4, .int 8), (0, .ref h), (1, .ref h2), (2, .int 503)]) B dX10_copyFrom_37 rfl rfl (Nat.le_of_ble_eq_true rfl) rfl ?_
  refine z_goto (tgt := 6) B dX10_copyFrom_40 rfl ?_
  refine z_iload_n B dX10_copyFrom_6 rfl 0 rfl ?_
  refine z_aload_n B dX10_copyFrom_7 rfl 3 rfl ?_
  have h_69 : Φ18 h2 = some (o_ 12 [.ref f2, .int 9, .int b2, .int d2]) := ((fr18 h2 hne_h2_f (Ne.symm hne_h_h2)).trans ((fr17 h2).trans h_61))
  refine z_get (ref := "FlowExporter$Template") (C := RX10) (T := TX10) (N := 4) (ci := 12) (v := .int 9) B (by decide +kernel) rfl 1 (by decide) (by decide +kernel) rfl h_69 rfl dX10_copyFrom_8 ?_
  refine z_icmp_ge (tgt := 43) B dX10_copyFrom_11 rfl (fun c_19 => ?_) (fun h9 => absurd (by decide) h9)
  exact z_ret_v B dX10_copyFrom_43 ⟨rfl, rfl, (fun b9 h9a h9b => ((fr18 b9 h9a h9b).trans ((fr17 b9).trans ((fr16 b9 h9a h9b).trans ((fr15 b9).trans ((fr14 b9 h9a h9b).trans ((fr13 b9).trans ((fr12 b9 h9a h9b).trans ((fr11 b9).trans ((fr10 b9 h9a h9b).trans ((fr9 b9).trans ((fr8 b9).trans ((fr7 b9 h9a h9b).trans ((fr6 b9).trans ((fr5 b9 h9a h9b).trans ((fr4 b9).trans ((fr3 b9 h9a h9b).trans ((fr2 b9).trans ((fr1 b9 h9b).trans rfl))))))))))))))))))), h_67, h_68⟩

set_option maxHeartbeats 4000000 in
set_option maxRecDepth 100000 in
theorem c_X10_copyFrom_z3 (G : EnvG) (l : Launch) (Φ : Hm) (sz : Nat) (h : Nat) (f : Nat) (a : Int32) (b : Int32) (d : Int32) (h2 : Nat) (f2 : Nat) (b2 : Int32) (d2 : Int32) (hc0 : Φ h = some (o_ 12 [.ref f, .int a, .int b, .int d])) (hc1 : Φ h2 = some (o_ 12 [.ref f2, .int 0, .int b2, .int d2])) (hne_h_h2 : h ≠ h2) (hna_h : G.2.2.2 ≤ h) : Ct G l yX10_copyFrom wsX10_copyFrom ({ frames := 1, cells := 0, slots := 0, locals := 20 }) 0 0 [.ref h, .ref h2, .int 503] Φ sz (fun v Φ1 sz1 => v = none ∧ sz1 = sz ∧ (∀ b9 : Nat, b9 ≠ h → Φ1 b9 = Φ b9) ∧ Φ1 h = some (o_ 12 [.ref f, .int 0, .int 0, .int 0])) := by
  refine Ct.of (cc := cX10_copyFrom) (maxL := 5) (ret := none) (by decide) rfl (Nat.le_of_ble_eq_true rfl) ?_
  intro p9 e9 s9 m9 w9 t9 k9 B
  show Z p9 l e9 _ s9 m9 _ w9 t9 k9 _ G 5 0 [(0, .ref h), (1, .ref h2), (2, .int 503)] [] Φ (sz) 0 0
  refine z_aload_n B dX10_copyFrom_0 rfl 0 rfl ?_
  refine z_callV (As := []) (rest := []) B (c_X10_clear G l Φ sz h f a b d hc0 hna_h) (cwV 0 B.1.2.2.2.2 gX10_copyFrom_X10_clear rfl rfl rfl (by decide +kernel) ⟨Nat.le_of_ble_eq_true rfl, Nat.le_of_ble_eq_true rfl⟩) hc0 rfl rfl rfl rfl (Nat.le_of_ble_eq_true rfl) dX10_copyFrom_1 ⟨Nat.le_of_ble_eq_true rfl, Nat.le_of_ble_eq_true rfl⟩ (fun v1 Φ1 sz1 st1 hp1 hs1 => ?_)
  obtain ⟨rfl, hq1, fr1, h_1⟩ := hp1
  replace hq1 : sz1 = sz := hq1
  subst sz1
  replace hs1 : st1 = [] := hs1
  subst st1
  have h_2 : Φ1 h = some (o_ 12 [.ref f, .int 0, .int 0, .int 0]) := h_1
  refine z_iconst (v := 0) B dX10_copyFrom_4 rfl ?_
  refine z_istore_n (lv' := [(3, .int 0), (0, .ref h), (1, .ref h2), (2, .int 503)]) B dX10_copyFrom_5 rfl (Nat.le_of_ble_eq_true rfl) rfl ?_
  refine z_iload_n B dX10_copyFrom_6 rfl 0 rfl ?_
  refine z_aload_n B dX10_copyFrom_7 rfl 2 rfl ?_
  have h_3 : Φ1 h2 = some (o_ 12 [.ref f2, .int 0, .int b2, .int d2]) := ((fr1 h2 (Ne.symm hne_h_h2)).trans hc1)
  refine z_get (ref := "FlowExporter$Template") (C := RX10) (T := TX10) (N := 4) (ci := 12) (v := .int 0) B (by decide +kernel) rfl 1 (by decide) (by decide +kernel) rfl h_3 rfl dX10_copyFrom_8 ?_
  refine z_icmp_ge (tgt := 43) B dX10_copyFrom_11 rfl (fun c_1 => ?_) (fun h9 => absurd (by decide) h9)
  exact z_ret_v B dX10_copyFrom_43 ⟨rfl, rfl, (fun b9 h9a => ((fr1 b9 h9a).trans rfl)), h_2⟩

set_option maxHeartbeats 4000000 in
set_option maxRecDepth 100000 in
theorem f_X1_support_s3 (G : EnvG) (l : Launch) (Φ : Hm) (sz : Nat) (x : Nat) (hc3_ : Φ (x + 3) = some (o_ 3 [.ref (x + 4), .ref (x + 5), .ref (x + 6), .ref (x + 7), .int 1, .int 511])) (hc6_ : Φ (x + 6) = some (aq_ G 4 4 (va_up (va_up (va_up (va_up (fun _ => none) (0 : Int32).toNatClampNeg (some (x + 8))) (1 : Int32).toNatClampNeg (some (x + 12))) (2 : Int32).toNatClampNeg (some (x + 16))) (3 : Int32).toNatClampNeg (some (x + 20))))) (hc7_ : Φ (x + 7) = some (aq_ G 4 4 (va_up (va_up (va_up (va_up (fun _ => none) (0 : Int32).toNatClampNeg (some (x + 10))) (1 : Int32).toNatClampNeg (some (x + 14))) (2 : Int32).toNatClampNeg (some (x + 18))) (3 : Int32).toNatClampNeg (some (x + 22))))) (hc8_ : Φ (x + 8) = some (o_ 12 [.ref (x + 9), .int 9, .int 511, .int 29])) (hc9_ : Φ (x + 9) = some (ai_ G 9 (upd (upd (upd (upd (upd (upd (upd (upd (upd (fun _ => 0) (0 : Int32).toNatClampNeg 0) (1 : Int32).toNatClampNeg 1) (2 : Int32).toNatClampNeg 2) (3 : Int32).toNatClampNeg 3) (4 : Int32).toNatClampNeg 4) (5 : Int32).toNatClampNeg 5) (6 : Int32).toNatClampNeg 6) (7 : Int32).toNatClampNeg 7) (8 : Int32).toNatClampNeg 8))) (hc10_ : Φ (x + 10) = some (o_ 12 [.ref (x + 11), .int 9, .int 511, .int 29])) (hc11_ : Φ (x + 11) = some (ai_ G 9 (upd (upd (upd (upd (upd (upd (upd (upd (upd (fun _ => 0) (0 : Int32).toNatClampNeg 0) (1 : Int32).toNatClampNeg 1) (2 : Int32).toNatClampNeg 2) (3 : Int32).toNatClampNeg 3) (4 : Int32).toNatClampNeg 4) (5 : Int32).toNatClampNeg 5) (6 : Int32).toNatClampNeg 6) (7 : Int32).toNatClampNeg 7) (8 : Int32).toNatClampNeg 8))) (hc12_ : Φ (x + 12) = some (o_ 12 [.ref (x + 13), .int 0, .int 0, .int 0])) (hc14_ : Φ (x + 14) = some (o_ 12 [.ref (x + 15), .int 0, .int 0, .int 0])) (hc16_ : Φ (x + 16) = some (o_ 12 [.ref (x + 17), .int 0, .int 0, .int 0])) (hc18_ : Φ (x + 18) = some (o_ 12 [.ref (x + 19), .int 0, .int 0, .int 0])) (hc20_ : Φ (x + 20) = some (o_ 12 [.ref (x + 21), .int 0, .int 0, .int 0])) (hc22_ : Φ (x + 22) = some (o_ 12 [.ref (x + 23), .int 0, .int 0, .int 0])) (hna : G.2.2.2 ≤ x) : Ct G l yX1_support wsX1_support ({ frames := 2, cells := 0, slots := 0, locals := 45 }) 0 0 [.ref (x + 3), .int 503] Φ sz (fun v Φ1 sz1 => v = none ∧ sz1 = sz ∧ (∀ b9 : Nat, b9 ≠ x + 10 → b9 ≠ x + 11 → b9 ≠ x + 14 → b9 ≠ x + 18 → b9 ≠ x + 22 → b9 ≠ x + 3 → Φ1 b9 = Φ b9) ∧ Φ1 (x + 10) = some (o_ 12 [.ref (x + 11), .int 8, .int 503, .int 28]) ∧ Φ1 (x + 11) = some (ai_ G 9 (upd (upd (upd (upd (upd (upd (upd (upd (upd (upd (upd (upd (upd (upd (upd (upd (upd (fun _ => 0) (0 : Int32).toNatClampNeg 0) (1 : Int32).toNatClampNeg 1) (2 : Int32).toNatClampNeg 2) (3 : Int32).toNatClampNeg 3) (4 : Int32).toNatClampNeg 4) (5 : Int32).toNatClampNeg 5) (6 : Int32).toNatClampNeg 6) (7 : Int32).toNatClampNeg 7) (8 : Int32).toNatClampNeg 8) (0 : Int32).toNatClampNeg 0) (1 : Int32).toNatClampNeg 1) (2 : Int32).toNatClampNeg 2) (3 : Int32).toNatClampNeg 4) (4 : Int32).toNatClampNeg 5) (5 : Int32).toNatClampNeg 6) (6 : Int32).toNatClampNeg 7) (7 : Int32).toNatClampNeg 8)) ∧ Φ1 (x + 14) = some (o_ 12 [.ref (x + 15), .int 0, .int 0, .int 0]) ∧ Φ1 (x + 18) = some (o_ 12 [.ref (x + 19), .int 0, .int 0, .int 0]) ∧ Φ1 (x + 22) = some (o_ 12 [.ref (x + 23), .int 0, .int 0, .int 0]) ∧ Φ1 (x + 3) = some (o_ 3 [.ref (x + 4), .ref (x + 5), .ref (x + 6), .ref (x + 7), .int 1, .int 503])) := by
  refine Ct.of (cc := cX1_support) (maxL := 3) (ret := none) (by decide) rfl (Nat.le_of_ble_eq_true rfl) ?_
  intro p9 e9 s9 m9 w9 t9 k9 B
  show Z p9 l e9 _ s9 m9 _ w9 t9 k9 _ G 3 0 [(0, .ref (x + 3)), (1, .int 503)] [] Φ sz 0 0
  refine z_aload_n B dX1_support_0 rfl 0 rfl ?_
  refine z_iload_n B dX1_support_1 rfl 1 rfl ?_
  refine z_put (ref := "FlowExporter$Config") (C := RX1) (T := TX1) (N := 6) (ci := 3) (v := .int 503) B (by decide +kernel) tyX1 tyX1_ok nmX1 rfl 5 (by decide) (by decide +kernel) rfl (Or.inl rfl) hc3_ (Nat.le_trans hna (Nat.le_add_right x 3)) rfl rfl (Nat.le_of_ble_eq_true rfl) dX1_support_2 (fun Φ1 hΦ1 => ?_)
  have h_1 : Φ1 (x + 3) = some (o_ 3 [.ref (x + 4), .ref (x + 5), .ref (x + 6), .ref (x + 7), .int 1, .int 503]) := fset_at hΦ1
  refine z_iconst (v := 0) B dX1_support_5 rfl ?_
  refine z_istore_n (lv' := [(2, .int 0), (0, .ref (x + 3)), (1, .int 503)]) B dX1_support_6 rfl (Nat.le_of_ble_eq_true rfl) rfl ?_
  refine z_iload_n B dX1_support_7 rfl 0 rfl ?_
  refine z_iconst (v := 4) B dX1_support_8 rfl ?_
  refine z_icmp_ge (tgt := 34) B dX1_support_9 rfl (fun h9 => absurd h9 (by decide)) (fun c_1 => ?_)
  refine z_aload_n B dX1_support_12 rfl 1 rfl ?_
  refine z_get (ref := "FlowExporter$Config") (C := RX1) (T := TX1) (N := 6) (ci := 3) (v := .ref (x + 7)) B (by decide +kernel) rfl 3 (by decide) (by decide +kernel) rfl h_1 rfl dX1_support_13 ?_
  refine z_iload_n B dX1_support_16 rfl 0 rfl ?_
  have h_2 : Φ1 (x + 7) = some (aq_ G 4 4 (va_up (va_up (va_up (va_up (fun _ => none) (0 : Int32).toNatClampNeg (some (x + 10))) (1 : Int32).toNatClampNeg (some (x + 14))) (2 : Int32).toNatClampNeg (some (x + 18))) (3 : Int32).toNatClampNeg (some (x + 22)))) := ((fset_fr hΦ1 (ne_off (x := x) (i := 7) (j := 3) rfl)).trans hc7_)
  refine z_aald (b := x + 10) B rfl h_2 (vin rfl) rfl dX1_support_17 ?_
  refine z_aload_n B dX1_support_18 rfl 1 rfl ?_
  refine z_get (ref := "FlowExporter$Config") (C := RX1) (T := TX1) (N := 6) (ci := 3) (v := .ref (x + 6)) B (by decide +kernel) rfl 2 (by decide) (by decide +kernel) rfl h_1 rfl dX1_support_19 ?_
  refine z_iload_n B dX1_support_22 rfl 0 rfl ?_
  have h_3 : Φ1 (x + 6) = some (aq_ G 4 4 (va_up (va_up (va_up (va_up (fun _ => none) (0 : Int32).toNatClampNeg (some (x + 8))) (1 : Int32).toNatClampNeg (some (x + 12))) (2 : Int32).toNatClampNeg (some (x + 16))) (3 : Int32).toNatClampNeg (some (x + 20)))) := ((fset_fr hΦ1 (ne_off (x := x) (i := 6) (j := 3) rfl)).trans hc6_)
  refine z_aald (b := x + 8) B rfl h_3 (vin rfl) rfl dX1_support_23 ?_
  refine z_iload_n B dX1_support_24 rfl 2 rfl ?_
  have h_4 : Φ1 (x + 10) = some (o_ 12 [.ref (x + 11), .int 9, .int 511, .int 29]) := ((fset_fr hΦ1 (ne_off (x := x) (i := 10) (j := 3) rfl)).trans hc10_)
  have h_5 : Φ1 (x + 11) = some (ai_ G 9 (upd (upd (upd (upd (upd (upd (upd (upd (upd (fun _ => 0) (0 : Int32).toNatClampNeg 0) (1 : Int32).toNatClampNeg 1) (2 : Int32).toNatClampNeg 2) (3 : Int32).toNatClampNeg 3) (4 : Int32).toNatClampNeg 4) (5 : Int32).toNatClampNeg 5) (6 : Int32).toNatClampNeg 6) (7 : Int32).toNatClampNeg 7) (8 : Int32).toNatClampNeg 8)) := ((fset_fr hΦ1 (ne_off (x := x) (i := 11) (j := 3) rfl)).trans hc11_)
  have h_6 : Φ1 (x + 8) = some (o_ 12 [.ref (x + 9), .int 9, .int 511, .int 29]) := ((fset_fr hΦ1 (ne_off (x := x) (i := 8) (j := 3) rfl)).trans hc8_)
  have h_7 : Φ1 (x + 9) = some (ai_ G 9 (upd (upd (upd (upd (upd (upd (upd (upd (upd (fun _ => 0) (0 : Int32).toNatClampNeg 0) (1 : Int32).toNatClampNeg 1) (2 : Int32).toNatClampNeg 2) (3 : Int32).toNatClampNeg 3) (4 : Int32).toNatClampNeg 4) (5 : Int32).toNatClampNeg 5) (6 : Int32).toNatClampNeg 6) (7 : Int32).toNatClampNeg 7) (8 : Int32).toNatClampNeg 8)) := ((fset_fr hΦ1 (ne_off (x := x) (i := 9) (j := 3) rfl)).trans hc9_)
  refine z_callV (As := [.ref (x + 8), .int 503]) (rest := []) B (c_X10_copyFrom_s3 G l Φ1 sz (x + 10) (x + 11) 9 511 29 (upd (upd (upd (upd (upd (upd (upd (upd (upd (fun _ => 0) (0 : Int32).toNatClampNeg 0) (1 : Int32).toNatClampNeg 1) (2 : Int32).toNatClampNeg 2) (3 : Int32).toNatClampNeg 3) (4 : Int32).toNatClampNeg 4) (5 : Int32).toNatClampNeg 5) (6 : Int32).toNatClampNeg 6) (7 : Int32).toNatClampNeg 7) (8 : Int32).toNatClampNeg 8) (x + 8) (x + 9) 511 29 (upd (upd (upd (upd (upd (upd (upd (upd (upd (fun _ => 0) (0 : Int32).toNatClampNeg 0) (1 : Int32).toNatClampNeg 1) (2 : Int32).toNatClampNeg 2) (3 : Int32).toNatClampNeg 3) (4 : Int32).toNatClampNeg 4) (5 : Int32).toNatClampNeg 5) (6 : Int32).toNatClampNeg 6) (7 : Int32).toNatClampNeg 7) (8 : Int32).toNatClampNeg 8) h_4 h_5 h_6 h_7 (ne_off (x := x) (i := 10) (j := 8) rfl) (ne_off (x := x) (i := 11) (j := 9) rfl) (ne_off (x := x) (i := 10) (j := 11) rfl) (ne_off (x := x) (i := 8) (j := 11) rfl) (ne_off (x := x) (i := 10) (j := 9) rfl) (ne_off (x := x) (i := 8) (j := 9) rfl) (Nat.le_trans hna (Nat.le_add_right x 10)) (Nat.le_trans hna (Nat.le_add_right x 11)) rfl rfl rfl rfl rfl rfl rfl rfl rfl) (cwV 2 B.1.2.2.2.2 gX1_support_X10_copyFrom rfl rfl rfl (by decide +kernel) ⟨Nat.le_of_ble_eq_true rfl, Nat.le_of_ble_eq_true rfl⟩) h_4 rfl rfl rfl rfl (Nat.le_of_ble_eq_true rfl) dX1_support_25 ⟨Nat.le_of_ble_eq_true rfl, Nat.le_of_ble_eq_true rfl⟩ (fun v1 Φ2 sz1 st1 hp1 hs1 => ?_)
  obtain ⟨rfl, hq1, fr1, h_8, h_9⟩ := hp1
  replace hq1 : sz1 = sz := hq1
  subst sz1
  replace hs1 : st1 = [] := hs1
  subst st1
  have h_10 : Φ2 (x + 11) = some (ai_ G 9 (upd (upd (upd (upd (upd (upd (upd (upd (upd (upd (upd (upd (upd (upd (upd (upd (upd (fun _ => 0) (0 : Int32).toNatClampNeg 0) (1 : Int32).toNatClampNeg 1) (2 : Int32).toNatClampNeg 2) (3 : Int32).toNatClampNeg 3) (4 : Int32).toNatClampNeg 4) (5 : Int32).toNatClampNeg 5) (6 : Int32).toNatClampNeg 6) (7 : Int32).toNatClampNeg 7) (8 : Int32).toNatClampNeg 8) (0 : Int32).toNatClampNeg 0) (1 : Int32).toNatClampNeg 1) (2 : Int32).toNatClampNeg 2) (3 : Int32).toNatClampNeg 4) (4 : Int32).toNatClampNeg 5) (5 : Int32).toNatClampNeg 6) (6 : Int32).toNatClampNeg 7) (7 : Int32).toNatClampNeg 8)) := h_8
  have h_11 : Φ2 (x + 10) = some (o_ 12 [.ref (x + 11), .int 8, .int 503, .int 28]) := h_9
  refine z_iinc (k := 0) (v := 1) (lv' := [(2, .int 1), (0, .ref (x + 3)), (1, .int 503)]) B dX1_support_28 rfl rfl (Nat.le_of_ble_eq_true rfl) rfl ?_
  refine z_goto (tgt := 7) B dX1_support_31 rfl ?_
  refine z_iload_n B dX1_support_7 rfl 0 rfl ?_
  refine z_iconst (v := 4) B dX1_support_8 rfl ?_
  refine z_icmp_ge (tgt := 34) B dX1_support_9 rfl (fun h9 => absurd h9 (by decide)) (fun c_2 => ?_)
  refine z_aload_n B dX1_support_12 rfl 1 rfl ?_
  have h_12 : Φ2 (x + 3) = some (o_ 3 [.ref (x + 4), .ref (x + 5), .ref (x + 6), .ref (x + 7), .int 1, .int 503]) := ((fr1 (x + 3) (ne_off (x := x) (i := 3) (j := 11) rfl) (ne_off (x := x) (i := 3) (j := 10) rfl)).trans h_1)
  refine z_get (ref := "FlowExporter$Config") (C := RX1) (T := TX1) (N := 6) (ci := 3) (v := .ref (x + 7)) B (by decide +kernel) rfl 3 (by decide) (by decide +kernel) rfl h_12 rfl dX1_support_13 ?_
  refine z_iload_n B dX1_support_16 rfl 0 rfl ?_
  have h_13 : Φ2 (x + 7) = some (aq_ G 4 4 (va_up (va_up (va_up (va_up (fun _ => none) (0 : Int32).toNatClampNeg (some (x + 10))) (1 : Int32).toNatClampNeg (some (x + 14))) (2 : Int32).toNatClampNeg (some (x + 18))) (3 : Int32).toNatClampNeg (some (x + 22)))) := ((fr1 (x + 7) (ne_off (x := x) (i := 7) (j := 11) rfl) (ne_off (x := x) (i := 7) (j := 10) rfl)).trans h_2)
  refine z_aald (b := x + 14) B rfl h_13 (vin rfl) rfl dX1_support_17 ?_
  refine z_aload_n B dX1_support_18 rfl 1 rfl ?_
  refine z_get (ref := "FlowExporter$Config") (C := RX1) (T := TX1) (N := 6) (ci := 3) (v := .ref (x + 6)) B (by decide +kernel) rfl 2 (by decide) (by decide +kernel) rfl h_12 rfl dX1_support_19 ?_
  refine z_iload_n B dX1_support_22 rfl 0 rfl ?_
  have h_14 : Φ2 (x + 6) = some (aq_ G 4 4 (va_up (va_up (va_up (va_up (fun _ => none) (0 : Int32).toNatClampNeg (some (x + 8))) (1 : Int32).toNatClampNeg (some (x + 12))) (2 : Int32).toNatClampNeg (some (x + 16))) (3 : Int32).toNatClampNeg (some (x + 20)))) := ((fr1 (x + 6) (ne_off (x := x) (i := 6) (j := 11) rfl) (ne_off (x := x) (i := 6) (j := 10) rfl)).trans h_3)
  refine z_aald (b := x + 12) B rfl h_14 (vin rfl) rfl dX1_support_23 ?_
  refine z_iload_n B dX1_support_24 rfl 2 rfl ?_
  have h_15 : Φ2 (x + 14) = some (o_ 12 [.ref (x + 15), .int 0, .int 0, .int 0]) := ((fr1 (x + 14) (ne_off (x := x) (i := 14) (j := 11) rfl) (ne_off (x := x) (i := 14) (j := 10) rfl)).trans ((fset_fr hΦ1 (ne_off (x := x) (i := 14) (j := 3) rfl)).trans hc14_))
  have h_16 : Φ2 (x + 12) = some (o_ 12 [.ref (x + 13), .int 0, .int 0, .int 0]) := ((fr1 (x + 12) (ne_off (x := x) (i := 12) (j := 11) rfl) (ne_off (x := x) (i := 12) (j := 10) rfl)).trans ((fset_fr hΦ1 (ne_off (x := x) (i := 12) (j := 3) rfl)).trans hc12_))
  refine z_callV (As := [.ref (x + 12), .int 503]) (rest := []) B (c_X10_copyFrom_z3 G l Φ2 sz (x + 14) (x + 15) 0 0 0 (x + 12) (x + 13) 0 0 h_15 h_16 (ne_off (x := x) (i := 14) (j := 12) rfl) (Nat.le_trans hna (Nat.le_add_right x 14))) (cwV 2 B.1.2.2.2.2 gX1_support_X10_copyFrom rfl rfl rfl (by decide +kernel) ⟨Nat.le_of_ble_eq_true rfl, Nat.le_of_ble_eq_true rfl⟩) h_15 rfl rfl rfl rfl (Nat.le_of_ble_eq_true rfl) dX1_support_25 ⟨Nat.le_of_ble_eq_true rfl, Nat.le_of_ble_eq_true rfl⟩ (fun v2 Φ3 sz2 st2 hp2 hs2 => ?_)
  obtain ⟨rfl, hq2, fr2, h_17⟩ := hp2
  replace hq2 : sz2 = sz := hq2
  subst sz2
  replace hs2 : st2 = [] := hs2
  subst st2
  have h_18 : Φ3 (x + 14) = some (o_ 12 [.ref (x + 15), .int 0, .int 0, .int 0]) := h_17
  refine z_iinc (k := 0) (v := 2) (lv' := [(2, .int 2), (0, .ref (x + 3)), (1, .int 503)]) B dX1_support_28 rfl rfl (Nat.le_of_ble_eq_true rfl) rfl ?_
  refine z_goto (tgt := 7) B dX1_support_31 rfl ?_
  refine z_iload_n B dX1_support_7 rfl 0 rfl ?_
  refine z_iconst (v := 4) B dX1_support_8 rfl ?_
  refine z_icmp_ge (tgt := 34) B dX1_support_9 rfl (fun h9 => absurd h9 (by decide)) (fun c_3 => ?_)
  refine z_aload_n B dX1_support_12 rfl 1 rfl ?_
  have h_19 : Φ3 (x + 3) = some (o_ 3 [.ref (x + 4), .ref (x + 5), .ref (x + 6), .ref (x + 7), .int 1, .int 503]) := ((fr2 (x + 3) (ne_off (x := x) (i := 3) (j := 14) rfl)).trans h_12)
  refine z_get (ref := "FlowExporter$Config") (C := RX1) (T := TX1) (N := 6) (ci := 3) (v := .ref (x + 7)) B (by decide +kernel) rfl 3 (by decide) (by decide +kernel) rfl h_19 rfl dX1_support_13 ?_
  refine z_iload_n B dX1_support_16 rfl 0 rfl ?_
  have h_20 : Φ3 (x + 7) = some (aq_ G 4 4 (va_up (va_up (va_up (va_up (fun _ => none) (0 : Int32).toNatClampNeg (some (x + 10))) (1 : Int32).toNatClampNeg (some (x + 14))) (2 : Int32).toNatClampNeg (some (x + 18))) (3 : Int32).toNatClampNeg (some (x + 22)))) := ((fr2 (x + 7) (ne_off (x := x) (i := 7) (j := 14) rfl)).trans h_13)
  refine z_aald (b := x + 18) B rfl h_20 (vin rfl) rfl dX1_support_17 ?_
  refine z_aload_n B dX1_support_18 rfl 1 rfl ?_
  refine z_get (ref := "FlowExporter$Config") (C := RX1) (T := TX1) (N := 6) (ci := 3) (v := .ref (x + 6)) B (by decide +kernel) rfl 2 (by decide) (by decide +kernel) rfl h_19 rfl dX1_support_19 ?_
  refine z_iload_n B dX1_support_22 rfl 0 rfl ?_
  have h_21 : Φ3 (x + 6) = some (aq_ G 4 4 (va_up (va_up (va_up (va_up (fun _ => none) (0 : Int32).toNatClampNeg (some (x + 8))) (1 : Int32).toNatClampNeg (some (x + 12))) (2 : Int32).toNatClampNeg (some (x + 16))) (3 : Int32).toNatClampNeg (some (x + 20)))) := ((fr2 (x + 6) (ne_off (x := x) (i := 6) (j := 14) rfl)).trans h_14)
  refine z_aald (b := x + 16) B rfl h_21 (vin rfl) rfl dX1_support_23 ?_
  refine z_iload_n B dX1_support_24 rfl 2 rfl ?_
  have h_22 : Φ3 (x + 18) = some (o_ 12 [.ref (x + 19), .int 0, .int 0, .int 0]) := ((fr2 (x + 18) (ne_off (x := x) (i := 18) (j := 14) rfl)).trans ((fr1 (x + 18) (ne_off (x := x) (i := 18) (j := 11) rfl) (ne_off (x := x) (i := 18) (j := 10) rfl)).trans ((fset_fr hΦ1 (ne_off (x := x) (i := 18) (j := 3) rfl)).trans hc18_)))
  have h_23 : Φ3 (x + 16) = some (o_ 12 [.ref (x + 17), .int 0, .int 0, .int 0]) := ((fr2 (x + 16) (ne_off (x := x) (i := 16) (j := 14) rfl)).trans ((fr1 (x + 16) (ne_off (x := x) (i := 16) (j := 11) rfl) (ne_off (x := x) (i := 16) (j := 10) rfl)).trans ((fset_fr hΦ1 (ne_off (x := x) (i := 16) (j := 3) rfl)).trans hc16_)))
  refine z_callV (As := [.ref (x + 16), .int 503]) (rest := []) B (c_X10_copyFrom_z3 G l Φ3 sz (x + 18) (x + 19) 0 0 0 (x + 16) (x + 17) 0 0 h_22 h_23 (ne_off (x := x) (i := 18) (j := 16) rfl) (Nat.le_trans hna (Nat.le_add_right x 18))) (cwV 2 B.1.2.2.2.2 gX1_support_X10_copyFrom rfl rfl rfl (by decide +kernel) ⟨Nat.le_of_ble_eq_true rfl, Nat.le_of_ble_eq_true rfl⟩) h_22 rfl rfl rfl rfl (Nat.le_of_ble_eq_true rfl) dX1_support_25 ⟨Nat.le_of_ble_eq_true rfl, Nat.le_of_ble_eq_true rfl⟩ (fun v3 Φ4 sz3 st3 hp3 hs3 => ?_)
  obtain ⟨rfl, hq3, fr3, h_24⟩ := hp3
  replace hq3 : sz3 = sz := hq3
  subst sz3
  replace hs3 : st3 = [] := hs3
  subst st3
  have h_25 : Φ4 (x + 18) = some (o_ 12 [.ref (x + 19), .int 0, .int 0, .int 0]) := h_24
  refine z_iinc (k := 0) (v := 3) (lv' := [(2, .int 3), (0, .ref (x + 3)), (1, .int 503)]) B dX1_support_28 rfl rfl (Nat.le_of_ble_eq_true rfl) rfl ?_
  refine z_goto (tgt := 7) B dX1_support_31 rfl ?_
  refine z_iload_n B dX1_support_7 rfl 0 rfl ?_
  refine z_iconst (v := 4) B dX1_support_8 rfl ?_
  refine z_icmp_ge (tgt := 34) B dX1_support_9 rfl (fun h9 => absurd h9 (by decide)) (fun c_4 => ?_)
  refine z_aload_n B dX1_support_12 rfl 1 rfl ?_
  have h_26 : Φ4 (x + 3) = some (o_ 3 [.ref (x + 4), .ref (x + 5), .ref (x + 6), .ref (x + 7), .int 1, .int 503]) := ((fr3 (x + 3) (ne_off (x := x) (i := 3) (j := 18) rfl)).trans h_19)
  refine z_get (ref := "FlowExporter$Config") (C := RX1) (T := TX1) (N := 6) (ci := 3) (v := .ref (x + 7)) B (by decide +kernel) rfl 3 (by decide) (by decide +kernel) rfl h_26 rfl dX1_support_13 ?_
  refine z_iload_n B dX1_support_16 rfl 0 rfl ?_
  have h_27 : Φ4 (x + 7) = some (aq_ G 4 4 (va_up (va_up (va_up (va_up (fun _ => none) (0 : Int32).toNatClampNeg (some (x + 10))) (1 : Int32).toNatClampNeg (some (x + 14))) (2 : Int32).toNatClampNeg (some (x + 18))) (3 : Int32).toNatClampNeg (some (x + 22)))) := ((fr3 (x + 7) (ne_off (x := x) (i := 7) (j := 18) rfl)).trans h_20)
  refine z_aald (b := x + 22) B rfl h_27 (vin rfl) rfl dX1_support_17 ?_
  refine z_aload_n B dX1_support_18 rfl 1 rfl ?_
  refine z_get (ref := "FlowExporter$Config") (C := RX1) (T := TX1) (N := 6) (ci := 3) (v := .ref (x + 6)) B (by decide +kernel) rfl 2 (by decide) (by decide +kernel) rfl h_26 rfl dX1_support_19 ?_
  refine z_iload_n B dX1_support_22 rfl 0 rfl ?_
  have h_28 : Φ4 (x + 6) = some (aq_ G 4 4 (va_up (va_up (va_up (va_up (fun _ => none) (0 : Int32).toNatClampNeg (some (x + 8))) (1 : Int32).toNatClampNeg (some (x + 12))) (2 : Int32).toNatClampNeg (some (x + 16))) (3 : Int32).toNatClampNeg (some (x + 20)))) := ((fr3 (x + 6) (ne_off (x := x) (i := 6) (j := 18) rfl)).trans h_21)
  refine z_aald (b := x + 20) B rfl h_28 (vin rfl) rfl dX1_support_23 ?_
  refine z_iload_n B dX1_support_24 rfl 2 rfl ?_
  have h_29 : Φ4 (x + 22) = some (o_ 12 [.ref (x + 23), .int 0, .int 0, .int 0]) := ((fr3 (x + 22) (ne_off (x := x) (i := 22) (j := 18) rfl)).trans ((fr2 (x + 22) (ne_off (x := x) (i := 22) (j := 14) rfl)).trans ((fr1 (x + 22) (ne_off (x := x) (i := 22) (j := 11) rfl) (ne_off (x := x) (i := 22) (j := 10) rfl)).trans ((fset_fr hΦ1 (ne_off (x := x) (i := 22) (j := 3) rfl)).trans hc22_))))
  have h_30 : Φ4 (x + 20) = some (o_ 12 [.ref (x + 21), .int 0, .int 0, .int 0]) := ((fr3 (x + 20) (ne_off (x := x) (i := 20) (j := 18) rfl)).trans ((fr2 (x + 20) (ne_off (x := x) (i := 20) (j := 14) rfl)).trans ((fr1 (x + 20) (ne_off (x := x) (i := 20) (j := 11) rfl) (ne_off (x := x) (i := 20) (j := 10) rfl)).trans ((fset_fr hΦ1 (ne_off (x := x) (i := 20) (j := 3) rfl)).trans hc20_))))
  refine z_callV (As := [.ref (x + 20), .int 503]) (rest := []) B (c_X10_copyFrom_z3 G l Φ4 sz (x + 22) (x + 23) 0 0 0 (x + 20) (x + 21) 0 0 h_29 h_30 (ne_off (x := x) (i := 22) (j := 20) rfl) (Nat.le_trans hna (Nat.le_add_right x 22))) (cwV 2 B.1.2.2.2.2 gX1_support_X10_copyFrom rfl rfl rfl (by decide +kernel) ⟨Nat.le_of_ble_eq_true rfl, Nat.le_of_ble_eq_true rfl⟩) h_29 rfl rfl rfl rfl (Nat.le_of_ble_eq_true rfl) dX1_support_25 ⟨Nat.le_of_ble_eq_true rfl, Nat.le_of_ble_eq_true rfl⟩ (fun v4 Φ5 sz4 st4 hp4 hs4 => ?_)
  obtain ⟨rfl, hq4, fr4, h_31⟩ := hp4
  replace hq4 : sz4 = sz := hq4
  subst sz4
  replace hs4 : st4 = [] := hs4
  subst st4
  have h_32 : Φ5 (x + 22) = some (o_ 12 [.ref (x + 23), .int 0, .int 0, .int 0]) := h_31
  refine z_iinc (k := 0) (v := 4) (lv' := [(2, .int 4), (0, .ref (x + 3)), (1, .int 503)]) B dX1_support_28 rfl rfl (Nat.le_of_ble_eq_true rfl) rfl ?_
  refine z_goto (tgt := 7) B dX1_support_31 rfl ?_
  refine z_iload_n B dX1_support_7 rfl 0 rfl ?_
  refine z_iconst (v := 4) B dX1_support_8 rfl ?_
  refine z_icmp_ge (tgt := 34) B dX1_support_9 rfl (fun c_5 => ?_) (fun h9 => absurd (by decide) h9)
  have h_33 : Φ5 (x + 10) = some (o_ 12 [.ref (x + 11), .int 8, .int 503, .int 28]) := ((fr4 (x + 10) (ne_off (x := x) (i := 10) (j := 22) rfl)).trans ((fr3 (x + 10) (ne_off (x := x) (i := 10) (j := 18) rfl)).trans ((fr2 (x + 10) (ne_off (x := x) (i := 10) (j := 14) rfl)).trans h_11)))
  have h_34 : Φ5 (x + 11) = some (ai_ G 9 (upd (upd (upd (upd (upd (upd (upd (upd (upd (upd (upd (upd (upd (upd (upd (upd (upd (fun _ => 0) (0 : Int32).toNatClampNeg 0) (1 : Int32).toNatClampNeg 1) (2 : Int32).toNatClampNeg 2) (3 : Int32).toNatClampNeg 3) (4 : Int32).toNatClampNeg 4) (5 : Int32).toNatClampNeg 5) (6 : Int32).toNatClampNeg 6) (7 : Int32).toNatClampNeg 7) (8 : Int32).toNatClampNeg 8) (0 : Int32).toNatClampNeg 0) (1 : Int32).toNatClampNeg 1) (2 : Int32).toNatClampNeg 2) (3 : Int32).toNatClampNeg 4) (4 : Int32).toNatClampNeg 5) (5 : Int32).toNatClampNeg 6) (6 : Int32).toNatClampNeg 7) (7 : Int32).toNatClampNeg 8)) := ((fr4 (x + 11) (ne_off (x := x) (i := 11) (j := 22) rfl)).trans ((fr3 (x + 11) (ne_off (x := x) (i := 11) (j := 18) rfl)).trans ((fr2 (x + 11) (ne_off (x := x) (i := 11) (j := 14) rfl)).trans h_10)))
  have h_35 : Φ5 (x + 14) = some (o_ 12 [.ref (x + 15), .int 0, .int 0, .int 0]) := ((fr4 (x + 14) (ne_off (x := x) (i := 14) (j := 22) rfl)).trans ((fr3 (x + 14) (ne_off (x := x) (i := 14) (j := 18) rfl)).trans h_18))
  have h_36 : Φ5 (x + 18) = some (o_ 12 [.ref (x + 19), .int 0, .int 0, .int 0]) := ((fr4 (x + 18) (ne_off (x := x) (i := 18) (j := 22) rfl)).trans h_25)
  have h_37 : Φ5 (x + 3) = some (o_ 3 [.ref (x + 4), .ref (x + 5), .ref (x + 6), .ref (x + 7), .int 1, .int 503]) := ((fr4 (x + 3) (ne_off (x := x) (i := 3) (j := 22) rfl)).trans h_26)
  exact z_ret_v B dX1_support_34 ⟨rfl, rfl, (fun b9 h9a h9b h9c h9d h9e h9f => ((fr4 b9 h9e).trans ((fr3 b9 h9d).trans ((fr2 b9 h9c).trans ((fr1 b9 h9b h9a).trans ((fset_fr hΦ1 h9f).trans rfl)))))), h_33, h_34, h_35, h_36, h_32, h_37⟩

set_option maxHeartbeats 4000000 in
set_option maxRecDepth 100000 in
theorem c_X10_copyFrom_s4 (G : EnvG) (l : Launch) (Φ : Hm) (sz : Nat) (h : Nat) (f : Nat) (a : Int32) (b : Int32) (d : Int32) (g : Nat → Int32) (h2 : Nat) (f2 : Nat) (b2 : Int32) (d2 : Int32) (g2 : Nat → Int32) (hc0 : Φ h = some (o_ 12 [.ref f, .int a, .int b, .int d])) (hc1 : Φ f = some (ai_ G 9 g)) (hc2 : Φ h2 = some (o_ 12 [.ref f2, .int 9, .int b2, .int d2])) (hc3 : Φ f2 = some (ai_ G 9 g2)) (hne_h_h2 : h ≠ h2) (hne_f_f2 : f ≠ f2) (hne_h_f : h ≠ f) (hne_h2_f : h2 ≠ f) (hne_h_f2 : h ≠ f2) (hne_h2_f2 : h2 ≠ f2) (hna_h : G.2.2.2 ≤ h) (hna_f : G.2.2.2 ≤ f) (hg0 : g2 0 = 0) (hg1 : g2 1 = 1) (hg2 : g2 2 = 2) (hg3 : g2 3 = 3) (hg4 : g2 4 = 4) (hg5 : g2 5 = 5) (hg6 : g2 6 = 6) (hg7 : g2 7 = 7) (hg8 : g2 8 = 8) : Ct G l yX10_copyFrom wsX10_copyFrom ({ frames := 1, cells := 0, slots := 0, locals := 21 }) 0 0 [.ref h, .ref h2, .int 495] Φ sz (fun v Φ1 sz1 => v = none ∧ sz1 = sz ∧ (∀ b9 : Nat, b9 ≠ f → b9 ≠ h → Φ1 b9 = Φ b9) ∧ Φ1 f = some (ai_ G 9 (upd (upd (upd (upd (upd (upd (upd (upd g (0 : Int32).toNatClampNeg 0) (1 : Int32).toNatClampNeg 1) (2 : Int32).toNatClampNeg 2) (3 : Int32).toNatClampNeg 3) (4 : Int32).toNatClampNeg 5) (5 : Int32).toNatClampNeg 6) (6 : Int32).toNatClampNeg 7) (7 : Int32).toNatClampNeg 8)) ∧ Φ1 h = some (o_ 12 [.ref f, .int 8, .int 495, .int 25])) := by
  refine Ct.of (cc := cX10_copyFrom) (maxL := 5) (ret := none) (by decide) rfl (Nat.le_of_ble_eq_true rfl) ?_
  intro p9 e9 s9 m9 w9 t9 k9 B
  show Z p9 l e9 _ s9 m9 _ w9 t9 k9 _ G 5 0 [(0, .ref h), (1, .ref h2), (2, .int 495)] [] Φ (sz) 0 0
  refine z_aload_n B dX10_copyFrom_0 rfl 0 rfl ?_
  refine z_callV (As := []) (rest := []) B (c_X10_clear G l Φ sz h f a b d hc0 hna_h) (cwV 0 B.1.2.2.2.2 gX10_copyFrom_X10_clear rfl rfl rfl (by decide +kernel) ⟨Nat.le_of_ble_eq_true rfl, Nat.le_of_ble_eq_true rfl⟩) hc0 rfl rfl rfl rfl (Nat.le_of_ble_eq_true rfl) dX10_copyFrom_1 ⟨Nat.le_of_ble_eq_true rfl, Nat.le_of_ble_eq_true rfl⟩ (fun v1 Φ1 sz1 st1 hp1 hs1 => ?_)
  obtain ⟨rfl, hq1, fr1, h_1⟩ := hp1
  replace hq1 : sz1 = sz := hq1
  subst sz1
  replace hs1 : st1 = [] := hs1
  subst st1
  have h_2 : Φ1 h = some (o_ 12 [.ref f, .int 0, .int 0, .int 0]) := h_1
  refine z_iconst (v := 0) B dX10_copyFrom_4 rfl ?_
  refine z_istore_n (lv' := [(3, .int 0), (0, .ref h), (1, .ref h2), (2, .int 495)]) B dX10_copyFrom_5 rfl (Nat.le_of_ble_eq_true rfl) rfl ?_
  refine z_iload_n B dX10_copyFrom_6 rfl 0 rfl ?_
  refine z_aload_n B dX10_copyFrom_7 rfl 2 rfl ?_
  have h_3 : Φ1 h2 = some (o_ 12 [.ref f2, .int 9, .int b2, .int d2]) := ((fr1 h2 (Ne.symm hne_h_h2)).trans hc2)
  refine z_get (ref := "FlowExporter$Template") (C := RX10) (T := TX10) (N := 4) (ci := 12) (v := .int 9) B (by decide +kernel) rfl 1 (by decide) (by decide +kernel) rfl h_3 rfl dX10_copyFrom_8 ?_
  refine z_icmp_ge (tgt := 43) B dX10_copyFrom_11 rfl (fun h9 => absurd h9 (by decide)) (fun c_1 => ?_)
  refine z_aload_n B dX10_copyFrom_14 rfl 2 rfl ?_
  refine z_iload_n B dX10_copyFrom_15 rfl 0 rfl ?_
  have h_4 : Φ1 f2 = some (ai_ G 9 g2) := ((fr1 f2 (Ne.symm hne_h_f2)).trans hc3)
  refine z_callV (As := [.int 0]) (rest := []) B (c_X10_field G l Φ1 sz h2 f2 9 b2 d2 g2 0 h_3 h_4 (by decide) (by decide) (vin rfl)) (cwV 1 B.1.2.2.2.2 gX10_copyFrom_X10_field rfl rfl rfl (by decide +kernel) ⟨Nat.le_of_ble_eq_true rfl, Nat.le_of_ble_eq_true rfl⟩) h_3 rfl rfl rfl rfl (Nat.le_of_ble_eq_true rfl) dX10_copyFrom_16 ⟨Nat.le_of_ble_eq_true rfl, Nat.le_of_ble_eq_true rfl⟩ (fun v2 Φ2 sz2 st2 hp2 hs2 => ?_)
  obtain ⟨rfl, hq2, fr2⟩ := hp2
  replace hq2 : sz2 = sz := hq2
  subst sz2
  replace hs2 : st2 = [.int (g2 (0 : Int32).toNatClampNeg)] := hs2
  subst st2
  refine z_top (st1 := [.int 0]) (by rw [show g2 ((0 : Int32).toNatClampNeg) = 0 from hg0]) ?_
  refine z_istore (lv' := [(4, .int 0), (3, .int 0), (0, .ref h), (1, .ref h2), (2, .int 495)]) B dX10_copyFrom_19 (Nat.le_of_ble_eq_true rfl) rfl ?_
  refine z_iload_n B dX10_copyFrom_21 rfl 4 rfl ?_
  refine z_iload B dX10_copyFrom_22 0 rfl ?_
  refine z_ishr B dX10_copyFrom_24 ?_
  refine z_top (st1 := [.int 495]) (congrArg (fun w9 : Int32 => ([.int w9] : List Value)) (show ((495 : Int32) >>> ((0 : Int32) &&& (31 : Int32)) : Int32) = 495 by decide +kernel)) ?_
  refine z_iconst (v := 1) B dX10_copyFrom_25 rfl ?_
  refine z_iand B dX10_copyFrom_26 ?_
  refine z_top (st1 := [.int 1]) (congrArg (fun w9 : Int32 => ([.int w9] : List Value)) (show (495 &&& 1 : Int32) = 1 by decide +kernel)) ?_
  refine z_iconst (v := 1) B dX10_copyFrom_27 rfl ?_
  refine z_icmp_ne (tgt := 37) B dX10_copyFrom_28 rfl (fun h9 => absurd (by decide) h9) (fun c_2 => ?_)
  refine z_aload_n B dX10_copyFrom_31 rfl 2 rfl ?_
  refine z_iload B dX10_copyFrom_32 0 rfl ?_
  have h_5 : Φ2 h = some (o_ 12 [.ref f, .int 0, .int 0, .int 0]) := ((fr2 h).trans h_2)
  have h_6 : Φ2 f = some (ai_ G 9 g) := ((fr2 f).trans ((fr1 f (Ne.symm hne_h_f)).trans hc1))
  refine z_callV (As := [.int 0]) (rest := []) B (c_X10_addField G l Φ2 sz h f 0 0 0 g 0 h_5 h_6 hne_h_f hna_h hna_f (by decide) (by decide) (by decide) (by decide) (vin rfl) (vin rfl)) (cwV 1 B.1.2.2.2.2 gX10_copyFrom_X10_addField rfl rfl rfl (by decide +kernel) ⟨Nat.le_of_ble_eq_true rfl, Nat.le_of_ble_eq_true rfl⟩) h_5 rfl rfl rfl rfl (Nat.le_of_ble_eq_true rfl) dX10_copyFrom_34 ⟨Nat.le_of_ble_eq_true rfl, Nat.le_of_ble_eq_true rfl⟩ (fun v3 Φ3 sz3 st3 hp3 hs3 => ?_)
  obtain ⟨rfl, hq3, fr3, h_7, h_8⟩ := hp3
  replace hq3 : sz3 = sz := hq3
  subst sz3
  replace hs3 : st3 = [] := hs3
  subst st3
  have h_9 : Φ3 f = some (ai_ G 9 (upd g (0 : Int32).toNatClampNeg 0)) := h_7
  have h_10 : Φ3 h = some (o_ 12 [.ref f, .int 1, .int 1, .int 1]) := h_8
  refine z_iinc (k := 1) (v := 1) (lv' := [(3, .int 1), (4, .int 0), (0, .ref h), (1, .ref h2), (2, .int 495)]) B dX10_copyFrom_37 rfl rfl (Nat.le_of_ble_eq_true rfl) rfl ?_
  refine z_goto (tgt := 6) B dX10_copyFrom_40 rfl ?_
  refine z_iload_n B dX10_copyFrom_6 rfl 0 rfl ?_
  refine z_aload_n B dX10_copyFrom_7 rfl 3 rfl ?_
  have h_11 : Φ3 h2 = some (o_ 12 [.ref f2, .int 9, .int b2, .int d2]) := ((fr3 h2 hne_h2_f (Ne.symm hne_h_h2)).trans ((fr2 h2).trans h_3))
  refine z_get (ref := "FlowExporter$Template") (C := RX10) (T := TX10) (N := 4) (ci := 12) (v := .int 9) B (by decide +kernel) rfl 1 (by decide) (by decide +kernel) rfl h_11 rfl dX10_copyFrom_8 ?_
  refine z_icmp_ge (tgt := 43) B dX10_copyFrom_11 rfl (fun h9 => absurd h9 (by decide)) (fun c_3 => ?_)
  refine z_aload_n B dX10_copyFrom_14 rfl 3 rfl ?_
  refine z_iload_n B dX10_copyFrom_15 rfl 0 rfl ?_
  have h_12 : Φ3 f2 = some (ai_ G 9 g2) := ((fr3 f2 (Ne.symm hne_f_f2) (Ne.symm hne_h_f2)).trans ((fr2 f2).trans h_4))
  refine z_callV (As := [.int 1]) (rest := []) B (c_X10_field G l Φ3 sz h2 f2 9 b2 d2 g2 1 h_11 h_12 (by decide) (by decide) (vin rfl)) (cwV 1 B.1.2.2.2.2 gX10_copyFrom_X10_field rfl rfl rfl (by decide +kernel) ⟨Nat.le_of_ble_eq_true rfl, Nat.le_of_ble_eq_true rfl⟩) h_11 rfl rfl rfl rfl (Nat.le_of_ble_eq_true rfl) dX10_copyFrom_16 ⟨Nat.le_of_ble_eq_true rfl, Nat.le_of_ble_eq_true rfl⟩ (fun v4 Φ4 sz4 st4 hp4 hs4 => ?_)
  obtain ⟨rfl, hq4, fr4⟩ := hp4
  replace hq4 : sz4 = sz := hq4
  subst sz4
  replace hs4 : st4 = [.int (g2 (1 : Int32).toNatClampNeg)] := hs4
  subst st4
  refine z_top (st1 := [.int 1]) (by rw [show g2 ((1 : Int32).toNatClampNeg) = 1 from hg1]) ?_
  refine z_istore (lv' := [(4, .int 1), (3, .int 1), (0, .ref h), (1, .ref h2), (2, .int 495)]) B dX10_copyFrom_19 (Nat.le_of_ble_eq_true rfl) rfl ?_
  refine z_iload_n B dX10_copyFrom_21 rfl 4 rfl ?_
  refine z_iload B dX10_copyFrom_22 0 rfl ?_
  refine z_ishr B dX10_copyFrom_24 ?_
  refine z_top (st1 := [.int 247]) (congrArg (fun w9 : Int32 => ([.int w9] : List Value)) (show ((495 : Int32) >>> ((1 : Int32) &&& (31 : Int32)) : Int32) = 247 by decide +kernel)) ?_
  refine z_iconst (v := 1) B dX10_copyFrom_25 rfl ?_
  refine z_iand B dX10_copyFrom_26 ?_
  refine z_top (st1 := [.int 1]) (congrArg (fun w9 : Int32 => ([.int w9] : List Value)) (show (247 &&& 1 : Int32) = 1 by decide +kernel)) ?_
  refine z_iconst (v := 1) B dX10_copyFrom_27 rfl ?_
  refine z_icmp_ne (tgt := 37) B dX10_copyFrom_28 rfl (fun h9 => absurd (by decide) h9) (fun c_4 => ?_)
  refine z_aload_n B dX10_copyFrom_31 rfl 2 rfl ?_
  refine z_iload B dX10_copyFrom_32 0 rfl ?_
  have h_13 : Φ4 h = some (o_ 12 [.ref f, .int 1, .int 1, .int 1]) := ((fr4 h).trans h_10)
  have h_14 : Φ4 f = some (ai_ G 9 (upd g (0 : Int32).toNatClampNeg 0)) := ((fr4 f).trans h_9)
  refine z_callV (As := [.int 1]) (rest := []) B (c_X10_addField G l Φ4 sz h f 1 1 1 (upd g (0 : Int32).toNatClampNeg 0) 1 h_13 h_14 hne_h_f hna_h hna_f (by decide) (by decide) (by decide) (by decide) (vin rfl) (vin rfl)) (cwV 1 B.1.2.2.2.2 gX10_copyFrom_X10_addField rfl rfl rfl (by decide +kernel) ⟨Nat.le_of_ble_eq_true rfl, Nat.le_of_ble_eq_true rfl⟩) h_13 rfl rfl rfl rfl (Nat.le_of_ble_eq_true rfl) dX10_copyFrom_34 ⟨Nat.le_of_ble_eq_true rfl, Nat.le_of_ble_eq_true rfl⟩ (fun v5 Φ5 sz5 st5 hp5 hs5 => ?_)
  obtain ⟨rfl, hq5, fr5, h_15, h_16⟩ := hp5
  replace hq5 : sz5 = sz := hq5
  subst sz5
  replace hs5 : st5 = [] := hs5
  subst st5
  have h_17 : Φ5 f = some (ai_ G 9 (upd (upd g (0 : Int32).toNatClampNeg 0) (1 : Int32).toNatClampNeg 1)) := h_15
  have h_18 : Φ5 h = some (o_ 12 [.ref f, .int 2, .int 3, .int 2]) := h_16
  refine z_iinc (k := 1) (v := 2) (lv' := [(3, .int 2), (4, .int 1), (0, .ref h), (1, .ref h2), (2, .int 495)]) B dX10_copyFrom_37 rfl rfl (Nat.le_of_ble_eq_true rfl) rfl ?_
  refine z_goto (tgt := 6) B dX10_copyFrom_40 rfl ?_
  refine z_iload_n B dX10_copyFrom_6 rfl 0 rfl ?_
  refine z_aload_n B dX10_copyFrom_7 rfl 3 rfl ?_
  have h_19 : Φ5 h2 = some (o_ 12 [.ref f2, .int 9, .int b2, .int d2]) := ((fr5 h2 hne_h2_f (Ne.symm hne_h_h2)).trans ((fr4 h2).trans h_11))
  refine z_get (ref := "FlowExporter$Template") (C := RX10) (T := TX10) (N := 4) (ci := 12) (v := .int 9) B (by decide +kernel) rfl 1 (by decide) (by decide +kernel) rfl h_19 rfl dX10_copyFrom_8 ?_
  refine z_icmp_ge (tgt := 43) B dX10_copyFrom_11 rfl (fun h9 => absurd h9 (by decide)) (fun c_5 => ?_)
  refine z_aload_n B dX10_copyFrom_14 rfl 3 rfl ?_
  refine z_iload_n B dX10_copyFrom_15 rfl 0 rfl ?_
  have h_20 : Φ5 f2 = some (ai_ G 9 g2) := ((fr5 f2 (Ne.symm hne_f_f2) (Ne.symm hne_h_f2)).trans ((fr4 f2).trans h_12))
  refine z_callV (As := [.int 2]) (rest := []) B (c_X10_field G l Φ5 sz h2 f2 9 b2 d2 g2 2 h_19 h_20 (by decide) (by decide) (vin rfl)) (cwV 1 B.1.2.2.2.2 gX10_copyFrom_X10_field rfl rfl rfl (by decide +kernel) ⟨Nat.le_of_ble_eq_true rfl, Nat.le_of_ble_eq_true rfl⟩) h_19 rfl rfl rfl rfl (Nat.le_of_ble_eq_true rfl) dX10_copyFrom_16 ⟨Nat.le_of_ble_eq_true rfl, Nat.le_of_ble_eq_true rfl⟩ (fun v6 Φ6 sz6 st6 hp6 hs6 => ?_)
  obtain ⟨rfl, hq6, fr6⟩ := hp6
  replace hq6 : sz6 = sz := hq6
  subst sz6
  replace hs6 : st6 = [.int (g2 (2 : Int32).toNatClampNeg)] := hs6
  subst st6
  refine z_top (st1 := [.int 2]) (by rw [show g2 ((2 : Int32).toNatClampNeg) = 2 from hg2]) ?_
  refine z_istore (lv' := [(4, .int 2), (3, .int 2), (0, .ref h), (1, .ref h2), (2, .int 495)]) B dX10_copyFrom_19 (Nat.le_of_ble_eq_true rfl) rfl ?_
  refine z_iload_n B dX10_copyFrom_21 rfl 4 rfl ?_
  refine z_iload B dX10_copyFrom_22 0 rfl ?_
  refine z_ishr B dX10_copyFrom_24 ?_
  refine z_top (st1 := [.int 123]) (congrArg (fun w9 : Int32 => ([.int w9] : List Value)) (show ((495 : Int32) >>> ((2 : Int32) &&& (31 : Int32)) : Int32) = 123 by decide +kernel)) ?_
  refine z_iconst (v := 1) B dX10_copyFrom_25 rfl ?_
  refine z_iand B dX10_copyFrom_26 ?_
  refine z_top (st1 := [.int 1]) (congrArg (fun w9 : Int32 => ([.int w9] : List Value)) (show (123 &&& 1 : Int32) = 1 by decide +kernel)) ?_
  refine z_iconst (v := 1) B dX10_copyFrom_27 rfl ?_
  refine z_icmp_ne (tgt := 37) B dX10_copyFrom_28 rfl (fun h9 => absurd (by decide) h9) (fun c_6 => ?_)
  refine z_aload_n B dX10_copyFrom_31 rfl 2 rfl ?_
  refine z_iload B dX10_copyFrom_32 0 rfl ?_
  have h_21 : Φ6 h = some (o_ 12 [.ref f, .int 2, .int 3, .int 2]) := ((fr6 h).trans h_18)
  have h_22 : Φ6 f = some (ai_ G 9 (upd (upd g (0 : Int32).toNatClampNeg 0) (1 : Int32).toNatClampNeg 1)) := ((fr6 f).trans h_17)
  refine z_callV (As := [.int 2]) (rest := []) B (c_X10_addField G l Φ6 sz h f 2 3 2 (upd (upd g (0 : Int32).toNatClampNeg 0) (1 : Int32).toNatClampNeg 1) 2 h_21 h_22 hne_h_f hna_h hna_f (by decide) (by decide) (by decide) (by decide) (vin rfl) (vin rfl)) (cwV 1 B.1.2.2.2.2 gX10_copyFrom_X10_addField rfl rfl rfl (by decide +kernel) ⟨Nat.le_of_ble_eq_true rfl, Nat.le_of_ble_eq_true rfl⟩) h_21 rfl rfl rfl rfl (Nat.le_of_ble_eq_true rfl) dX10_copyFrom_34 ⟨Nat.le_of_ble_eq_true rfl, Nat.le_of_ble_eq_true rfl⟩ (fun v7 Φ7 sz7 st7 hp7 hs7 => ?_)
  obtain ⟨rfl, hq7, fr7, h_23, h_24⟩ := hp7
  replace hq7 : sz7 = sz := hq7
  subst sz7
  replace hs7 : st7 = [] := hs7
  subst st7
  have h_25 : Φ7 f = some (ai_ G 9 (upd (upd (upd g (0 : Int32).toNatClampNeg 0) (1 : Int32).toNatClampNeg 1) (2 : Int32).toNatClampNeg 2)) := h_23
  have h_26 : Φ7 h = some (o_ 12 [.ref f, .int 3, .int 7, .int 4]) := h_24
  refine z_iinc (k := 1) (v := 3) (lv' := [(3, .int 3), (4, .int 2), (0, .ref h), (1, .ref h2), (2, .int 495)]) B dX10_copyFrom_37 rfl rfl (Nat.le_of_ble_eq_true rfl) rfl ?_
  refine z_goto (tgt := 6) B dX10_copyFrom_40 rfl ?_
  refine z_iload_n B dX10_copyFrom_6 rfl 0 rfl ?_
  refine z_aload_n B dX10_copyFrom_7 rfl 3 rfl ?_
  have h_27 : Φ7 h2 = some (o_ 12 [.ref f2, .int 9, .int b2, .int d2]) := ((fr7 h2 hne_h2_f (Ne.symm hne_h_h2)).trans ((fr6 h2).trans h_19))
  refine z_get (ref := "FlowExporter$Template") (C := RX10) (T := TX10) (N := 4) (ci := 12) (v := .int 9) B (by decide +kernel) rfl 1 (by decide) (by decide +kernel) rfl h_27 rfl dX10_copyFrom_8 ?_
  refine z_icmp_ge (tgt := 43) B dX10_copyFrom_11 rfl (fun h9 => absurd h9 (by decide)) (fun c_7 => ?_)
  refine z_aload_n B dX10_copyFrom_14 rfl 3 rfl ?_
  refine z_iload_n B dX10_copyFrom_15 rfl 0 rfl ?_
  have h_28 : Φ7 f2 = some (ai_ G 9 g2) := ((fr7 f2 (Ne.symm hne_f_f2) (Ne.symm hne_h_f2)).trans ((fr6 f2).trans h_20))
  refine z_callV (As := [.int 3]) (rest := []) B (c_X10_field G l Φ7 sz h2 f2 9 b2 d2 g2 3 h_27 h_28 (by decide) (by decide) (vin rfl)) (cwV 1 B.1.2.2.2.2 gX10_copyFrom_X10_field rfl rfl rfl (by decide +kernel) ⟨Nat.le_of_ble_eq_true rfl, Nat.le_of_ble_eq_true rfl⟩) h_27 rfl rfl rfl rfl (Nat.le_of_ble_eq_true rfl) dX10_copyFrom_16 ⟨Nat.le_of_ble_eq_true rfl, Nat.le_of_ble_eq_true rfl⟩ (fun v8 Φ8 sz8 st8 hp8 hs8 => ?_)
  obtain ⟨rfl, hq8, fr8⟩ := hp8
  replace hq8 : sz8 = sz := hq8
  subst sz8
  replace hs8 : st8 = [.int (g2 (3 : Int32).toNatClampNeg)] := hs8
  subst st8
  refine z_top (st1 := [.int 3]) (by rw [show g2 ((3 : Int32).toNatClampNeg) = 3 from hg3]) ?_
  refine z_istore (lv' := [(4, .int 3), (3, .int 3), (0, .ref h), (1, .ref h2), (2, .int 495)]) B dX10_copyFrom_19 (Nat.le_of_ble_eq_true rfl) rfl ?_
  refine z_iload_n B dX10_copyFrom_21 rfl 4 rfl ?_
  refine z_iload B dX10_copyFrom_22 0 rfl ?_
  refine z_ishr B dX10_copyFrom_24 ?_
  refine z_top (st1 := [.int 61]) (congrArg (fun w9 : Int32 => ([.int w9] : List Value)) (show ((495 : Int32) >>> ((3 : Int32) &&& (31 : Int32)) : Int32) = 61 by decide +kernel)) ?_
  refine z_iconst (v := 1) B dX10_copyFrom_25 rfl ?_
  refine z_iand B dX10_copyFrom_26 ?_
  refine z_top (st1 := [.int 1]) (congrArg (fun w9 : Int32 => ([.int w9] : List Value)) (show (61 &&& 1 : Int32) = 1 by decide +kernel)) ?_
  refine z_iconst (v := 1) B dX10_copyFrom_27 rfl ?_
  refine z_icmp_ne (tgt := 37) B dX10_copyFrom_28 rfl (fun h9 => absurd (by decide) h9) (fun c_8 => ?_)
  refine z_aload_n B dX10_copyFrom_31 rfl 2 rfl ?_
  refine z_iload B dX10_copyFrom_32 0 rfl ?_
  have h_29 : Φ8 h = some (o_ 12 [.ref f, .int 3, .int 7, .int 4]) := ((fr8 h).trans h_26)
  have h_30 : Φ8 f = some (ai_ G 9 (upd (upd (upd g (0 : Int32).toNatClampNeg 0) (1 : Int32).toNatClampNeg 1) (2 : Int32).toNatClampNeg 2)) := ((fr8 f).trans h_25)
  refine z_callV (As := [.int 3]) (rest := []) B (c_X10_addField G l Φ8 sz h f 3 7 4 (upd (upd (upd g (0 : Int32).toNatClampNeg 0) (1 : Int32).toNatClampNeg 1) (2 : Int32).toNatClampNeg 2) 3 h_29 h_30 hne_h_f hna_h hna_f (by decide) (by decide) (by decide) (by decide) (vin rfl) (vin rfl)) (cwV 1 B.1.2.2.2.2 gX10_copyFrom_X10_addField rfl rfl rfl (by decide +kernel) ⟨Nat.le_of_ble_eq_true rfl, Nat.le_of_ble_eq_true rfl⟩) h_29 rfl rfl rfl rfl (Nat.le_of_ble_eq_true rfl) dX10_copyFrom_34 ⟨Nat.le_of_ble_eq_true rfl, Nat.le_of_ble_eq_true rfl⟩ (fun v9 Φ9 sz9 st9 hp9 hs9 => ?_)
  obtain ⟨rfl, hq9, fr9, h_31, h_32⟩ := hp9
  replace hq9 : sz9 = sz := hq9
  subst sz9
  replace hs9 : st9 = [] := hs9
  subst st9
  have h_33 : Φ9 f = some (ai_ G 9 (upd (upd (upd (upd g (0 : Int32).toNatClampNeg 0) (1 : Int32).toNatClampNeg 1) (2 : Int32).toNatClampNeg 2) (3 : Int32).toNatClampNeg 3)) := h_31
  have h_34 : Φ9 h = some (o_ 12 [.ref f, .int 4, .int 15, .int 5]) := h_32
  refine z_iinc (k := 1) (v := 4) (lv' := [(3, .int 4), (4, .int 3), (0, .ref h), (1, .ref h2), (2, .int 495)]) B dX10_copyFrom_37 rfl rfl (Nat.le_of_ble_eq_true rfl) rfl ?_
  refine z_goto (tgt := 6) B dX10_copyFrom_40 rfl ?_
  refine z_iload_n B dX10_copyFrom_6 rfl 0 rfl ?_
  refine z_aload_n B dX10_copyFrom_7 rfl 3 rfl ?_
  have h_35 : Φ9 h2 = some (o_ 12 [.ref f2, .int 9, .int b2, .int d2]) := ((fr9 h2 hne_h2_f (Ne.symm hne_h_h2)).trans ((fr8 h2).trans h_27))
  refine z_get (ref := "FlowExporter$Template") (C := RX10) (T := TX10) (N := 4) (ci := 12) (v := .int 9) B (by decide +kernel) rfl 1 (by decide) (by decide +kernel) rfl h_35 rfl dX10_copyFrom_8 ?_
  refine z_icmp_ge (tgt := 43) B dX10_copyFrom_11 rfl (fun h9 => absurd h9 (by decide)) (fun c_9 => ?_)
  refine z_aload_n B dX10_copyFrom_14 rfl 3 rfl ?_
  refine z_iload_n B dX10_copyFrom_15 rfl 0 rfl ?_
  have h_36 : Φ9 f2 = some (ai_ G 9 g2) := ((fr9 f2 (Ne.symm hne_f_f2) (Ne.symm hne_h_f2)).trans ((fr8 f2).trans h_28))
  refine z_callV (As := [.int 4]) (rest := []) B (c_X10_field G l Φ9 sz h2 f2 9 b2 d2 g2 4 h_35 h_36 (by decide) (by decide) (vin rfl)) (cwV 1 B.1.2.2.2.2 gX10_copyFrom_X10_field rfl rfl rfl (by decide +kernel) ⟨Nat.le_of_ble_eq_true rfl, Nat.le_of_ble_eq_true rfl⟩) h_35 rfl rfl rfl rfl (Nat.le_of_ble_eq_true rfl) dX10_copyFrom_16 ⟨Nat.le_of_ble_eq_true rfl, Nat.le_of_ble_eq_true rfl⟩ (fun v10 Φ10 sz10 st10 hp10 hs10 => ?_)
  obtain ⟨rfl, hq10, fr10⟩ := hp10
  replace hq10 : sz10 = sz := hq10
  subst sz10
  replace hs10 : st10 = [.int (g2 (4 : Int32).toNatClampNeg)] := hs10
  subst st10
  refine z_top (st1 := [.int 4]) (by rw [show g2 ((4 : Int32).toNatClampNeg) = 4 from hg4]) ?_
  refine z_istore (lv' := [(4, .int 4), (3, .int 4), (0, .ref h), (1, .ref h2), (2, .int 495)]) B dX10_copyFrom_19 (Nat.le_of_ble_eq_true rfl) rfl ?_
  refine z_iload_n B dX10_copyFrom_21 rfl 4 rfl ?_
  refine z_iload B dX10_copyFrom_22 0 rfl ?_
  refine z_ishr B dX10_copyFrom_24 ?_
  refine z_top (st1 := [.int 30]) (congrArg (fun w9 : Int32 => ([.int w9] : List Value)) (show ((495 : Int32) >>> ((4 : Int32) &&& (31 : Int32)) : Int32) = 30 by decide +kernel)) ?_
  refine z_iconst (v := 1) B dX10_copyFrom_25 rfl ?_
  refine z_iand B dX10_copyFrom_26 ?_
  refine z_top (st1 := [.int 0]) (congrArg (fun w9 : Int32 => ([.int w9] : List Value)) (show (30 &&& 1 : Int32) = 0 by decide +kernel)) ?_
  refine z_iconst (v := 1) B dX10_copyFrom_27 rfl ?_
  refine z_icmp_ne (tgt := 37) B dX10_copyFrom_28 rfl (fun c_10 => ?_) (fun h9 => absurd h9 (by decide))
  refine z_iinc (k := 1) (v := 5) (lv' := [(3, .int 5), (4, .int 4), (0, .ref h), (1, .ref h2), (2, .int 495)]) B dX10_copyFrom_37 rfl rfl (Nat.le_of_ble_eq_true rfl) rfl ?_
  refine z_goto (tgt := 6) B dX10_copyFrom_40 rfl ?_
  refine z_iload_n B dX10_copyFrom_6 rfl 0 rfl ?_
  refine z_aload_n B dX10_copyFrom_7 rfl 3 rfl ?_
  have h_37 : Φ10 h2 = some (o_ 12 [.ref f2, .int 9, .int b2, .int d2]) := ((fr10 h2).trans h_35)
  refine z_get (ref := "FlowExporter$Template") (C := RX10) (T := TX10) (N := 4) (ci := 12) (v := .int 9) B (by decide +kernel) rfl 1 (by decide) (by decide +kernel) rfl h_37 rfl dX10_copyFrom_8 ?_
  refine z_icmp_ge (tgt := 43) B dX10_copyFrom_11 rfl (fun h9 => absurd h9 (by decide)) (fun c_11 => ?_)
  refine z_aload_n B dX10_copyFrom_14 rfl 3 rfl ?_
  refine z_iload_n B dX10_copyFrom_15 rfl 0 rfl ?_
  have h_38 : Φ10 f2 = some (ai_ G 9 g2) := ((fr10 f2).trans h_36)
  refine z_callV (As := [.int 5]) (rest := []) B (c_X10_field G l Φ10 sz h2 f2 9 b2 d2 g2 5 h_37 h_38 (by decide) (by decide) (vin rfl)) (cwV 1 B.1.2.2.2.2 gX10_copyFrom_X10_field rfl rfl rfl (by decide +kernel) ⟨Nat.le_of_ble_eq_true rfl, Nat.le_of_ble_eq_true rfl⟩) h_37 rfl rfl rfl rfl (Nat.le_of_ble_eq_true rfl) dX10_copyFrom_16 ⟨Nat.le_of_ble_eq_true rfl, Nat.le_of_ble_eq_true rfl⟩ (fun v11 Φ11 sz11 st11 hp11 hs11 => ?_)
  obtain ⟨rfl, hq11, fr11⟩ := hp11
  replace hq11 : sz11 = sz := hq11
  subst sz11
  replace hs11 : st11 = [.int (g2 (5 : Int32).toNatClampNeg)] := hs11
  subst st11
  refine z_top (st1 := [.int 5]) (by rw [show g2 ((5 : Int32).toNatClampNeg) = 5 from hg5]) ?_
  refine z_istore (lv' := [(4, .int 5), (3, .int 5), (0, .ref h), (1, .ref h2), (2, .int 495)]) B dX10_copyFrom_19 (Nat.le_of_ble_eq_true rfl) rfl ?_
  refine z_iload_n B dX10_copyFrom_21 rfl 4 rfl ?_
  refine z_iload B dX10_copyFrom_22 0 rfl ?_
  refine z_ishr B dX10_copyFrom_24 ?_
  refine z_top (st1 := [.int 15]) (congrArg (fun w9 : Int32 => ([.int w9] : List Value)) (show ((495 : Int32) >>> ((5 : Int32) &&& (31 : Int32)) : Int32) = 15 by decide +kernel)) ?_
  refine z_iconst (v := 1) B dX10_copyFrom_25 rfl ?_
  refine z_iand B dX10_copyFrom_26 ?_
  refine z_top (st1 := [.int 1]) (congrArg (fun w9 : Int32 => ([.int w9] : List Value)) (show (15 &&& 1 : Int32) = 1 by decide +kernel)) ?_
  refine z_iconst (v := 1) B dX10_copyFrom_27 rfl ?_
  refine z_icmp_ne (tgt := 37) B dX10_copyFrom_28 rfl (fun h9 => absurd (by decide) h9) (fun c_12 => ?_)
  refine z_aload_n B dX10_copyFrom_31 rfl 2 rfl ?_
  refine z_iload B dX10_copyFrom_32 0 rfl ?_
  have h_39 : Φ11 h = some (o_ 12 [.ref f, .int 4, .int 15, .int 5]) := ((fr11 h).trans ((fr10 h).trans h_34))
  have h_40 : Φ11 f = some (ai_ G 9 (upd (upd (upd (upd g (0 : Int32).toNatClampNeg 0) (1 : Int32).toNatClampNeg 1) (2 : Int32).toNatClampNeg 2) (3 : Int32).toNatClampNeg 3)) := ((fr11 f).trans ((fr10 f).trans h_33))
  refine z_callV (As := [.int 5]) (rest := []) B (c_X10_addField G l Φ11 sz h f 4 15 5 (upd (upd (upd (upd g (0 : Int32).toNatClampNeg 0) (1 : Int32).toNatClampNeg 1) (2 : Int32).toNatClampNeg 2) (3 : Int32).toNatClampNeg 3) 5 h_39 h_40 hne_h_f hna_h hna_f (by decide) (by decide) (by decide) (by decide) (vin rfl) (vin rfl)) (cwV 1 B.1.2.2.2.2 gX10_copyFrom_X10_addField rfl rfl rfl (by decide +kernel) ⟨Nat.le_of_ble_eq_true rfl, Nat.le_of_ble_eq_true rfl⟩) h_39 rfl rfl rfl rfl (Nat.le_of_ble_eq_true rfl) dX10_copyFrom_34 ⟨Nat.le_of_ble_eq_true rfl, Nat.le_of_ble_eq_true rfl⟩ (fun v12 Φ12 sz12 st12 hp12 hs12 => ?_)
  obtain ⟨rfl, hq12, fr12, h_41, h_42⟩ := hp12
  replace hq12 : sz12 = sz := hq12
  subst sz12
  replace hs12 : st12 = [] := hs12
  subst st12
  have h_43 : Φ12 f = some (ai_ G 9 (upd (upd (upd (upd (upd g (0 : Int32).toNatClampNeg 0) (1 : Int32).toNatClampNeg 1) (2 : Int32).toNatClampNeg 2) (3 : Int32).toNatClampNeg 3) (4 : Int32).toNatClampNeg 5)) := h_41
  have h_44 : Φ12 h = some (o_ 12 [.ref f, .int 5, .int 47, .int 13]) := h_42
  refine z_iinc (k := 1) (v := 6) (lv' := [(3, .int 6), (4, .int 5), (0, .ref h), (1, .ref h2), (2, .int 495)]) B dX10_copyFrom_37 rfl rfl (Nat.le_of_ble_eq_true rfl) rfl ?_
  refine z_goto (tgt := 6) B dX10_copyFrom_40 rfl ?_
  refine z_iload_n B dX10_copyFrom_6 rfl 0 rfl ?_
  refine z_aload_n B dX10_copyFrom_7 rfl 3 rfl ?_
  have h_45 : Φ12 h2 = some (o_ 12 [.ref f2, .int 9, .int b2, .int d2]) := ((fr12 h2 hne_h2_f (Ne.symm hne_h_h2)).trans ((fr11 h2).trans h_37))
  refine z_get (ref := "FlowExporter$Template") (C := RX10) (T := TX10) (N := 4) (ci := 12) (v := .int 9) B (by decide +kernel) rfl 1 (by decide) (by decide +kernel) rfl h_45 rfl dX10_copyFrom_8 ?_
  refine z_icmp_ge (tgt := 43) B dX10_copyFrom_11 rfl (fun h9 => absurd h9 (by decide)) (fun c_13 => ?_)
  refine z_aload_n B dX10_copyFrom_14 rfl 3 rfl ?_
  refine z_iload_n B dX10_copyFrom_15 rfl 0 rfl ?_
  have h_46 : Φ12 f2 = some (ai_ G 9 g2) := ((fr12 f2 (Ne.symm hne_f_f2) (Ne.symm hne_h_f2)).trans ((fr11 f2).trans h_38))
  refine z_callV (As := [.int 6]) (rest := []) B (c_X10_field G l Φ12 sz h2 f2 9 b2 d2 g2 6 h_45 h_46 (by decide) (by decide) (vin rfl)) (cwV 1 B.1.2.2.2.2 gX10_copyFrom_X10_field rfl rfl rfl (by decide +kernel) ⟨Nat.le_of_ble_eq_true rfl, Nat.le_of_ble_eq_true rfl⟩) h_45 rfl rfl rfl rfl (Nat.le_of_ble_eq_true rfl) dX10_copyFrom_16 ⟨Nat.le_of_ble_eq_true rfl, Nat.le_of_ble_eq_true rfl⟩ (fun v13 Φ13 sz13 st13 hp13 hs13 => ?_)
  obtain ⟨rfl, hq13, fr13⟩ := hp13
  replace hq13 : sz13 = sz := hq13
  subst sz13
  replace hs13 : st13 = [.int (g2 (6 : Int32).toNatClampNeg)] := hs13
  subst st13
  refine z_top (st1 := [.int 6]) (by rw [show g2 ((6 : Int32).toNatClampNeg) = 6 from hg6]) ?_
  refine z_istore (lv' := [(4, .int 6), (3, .int 6), (0, .ref h), (1, .ref h2), (2, .int 495)]) B dX10_copyFrom_19 (Nat.le_of_ble_eq_true rfl) rfl ?_
  refine z_iload_n B dX10_copyFrom_21 rfl 4 rfl ?_
  refine z_iload B dX10_copyFrom_22 0 rfl ?_
  refine z_ishr B dX10_copyFrom_24 ?_
  refine z_top (st1 := [.int 7]) (congrArg (fun w9 : Int32 => ([.int w9] : List Value)) (show ((495 : Int32) >>> ((6 : Int32) &&& (31 : Int32)) : Int32) = 7 by decide +kernel)) ?_
  refine z_iconst (v := 1) B dX10_copyFrom_25 rfl ?_
  refine z_iand B dX10_copyFrom_26 ?_
  refine z_top (st1 := [.int 1]) (congrArg (fun w9 : Int32 => ([.int w9] : List Value)) (show (7 &&& 1 : Int32) = 1 by decide +kernel)) ?_
  refine z_iconst (v := 1) B dX10_copyFrom_27 rfl ?_
  refine z_icmp_ne (tgt := 37) B dX10_copyFrom_28 rfl (fun h9 => absurd (by decide) h9) (fun c_14 => ?_)
  refine z_aload_n B dX10_copyFrom_31 rfl 2 rfl ?_
  refine z_iload B dX10_copyFrom_32 0 rfl ?_
  have h_47 : Φ13 h = some (o_ 12 [.ref f, .int 5, .int 47, .int 13]) := ((fr13 h).trans h_44)
  have h_48 : Φ13 f = some (ai_ G 9 (upd (upd (upd (upd (upd g (0 : Int32).toNatClampNeg 0) (1 : Int32).toNatClampNeg 1) (2 : Int32).toNatClampNeg 2) (3 : Int32).toNatClampNeg 3) (4 : Int32).toNatClampNeg 5)) := ((fr13 f).trans h_43)
  refine z_callV (As := [.int 6]) (rest := []) B (c_X10_addField G l Φ13 sz h f 5 47 13 (upd (upd (upd (upd (upd g (0 : Int32).toNatClampNeg 0) (1 : Int32).toNatClampNeg 1) (2 : Int32).toNatClampNeg 2) (3 : Int32).toNatClampNeg 3) (4 : Int32).toNatClampNeg 5) 6 h_47 h_48 hne_h_f hna_h hna_f (by decide) (by decide) (by decide) (by decide) (vin rfl) (vin rfl)) (cwV 1 B.1.2.2.2.2 gX10_copyFrom_X10_addField rfl rfl rfl (by decide +kernel) ⟨Nat.le_of_ble_eq_true rfl, Nat.le_of_ble_eq_true rfl⟩) h_47 rfl rfl rfl rfl (Nat.le_of_ble_eq_true rfl) dX10_copyFrom_34 ⟨Nat.le_of_ble_eq_true rfl, Nat.le_of_ble_eq_true rfl⟩ (fun v14 Φ14 sz14 st14 hp14 hs14 => ?_)
  obtain ⟨rfl, hq14, fr14, h_49, h_50⟩ := hp14
  replace hq14 : sz14 = sz := hq14
  subst sz14
  replace hs14 : st14 = [] := hs14
  subst st14
  have h_51 : Φ14 f = some (ai_ G 9 (upd (upd (upd (upd (upd (upd g (0 : Int32).toNatClampNeg 0) (1 : Int32).toNatClampNeg 1) (2 : Int32).toNatClampNeg 2) (3 : Int32).toNatClampNeg 3) (4 : Int32).toNatClampNeg 5) (5 : Int32).toNatClampNeg 6)) := h_49
  have h_52 : Φ14 h = some (o_ 12 [.ref f, .int 6, .int 111, .int 17]) := h_50
  refine z_iinc (k := 1) (v := 7) (lv' := [(3, .int 7), (4, .int 6), (0, .ref h), (1, .ref h2), (2, .int 495)]) B dX10_copyFrom_37 rfl rfl (Nat.le_of_ble_eq_true rfl) rfl ?_
  refine z_goto (tgt := 6) B dX10_copyFrom_40 rfl ?_
  refine z_iload_n B dX10_copyFrom_6 rfl 0 rfl ?_
  refine z_aload_n B dX10_copyFrom_7 rfl 3 rfl ?_
  have h_53 : Φ14 h2 = some (o_ 12 [.ref f2, .int 9, .int b2, .int d2]) := ((fr14 h2 hne_h2_f (Ne.symm hne_h_h2)).trans ((fr13 h2).trans h_45))
  refine z_get (ref := "FlowExporter$Template") (C := RX10) (T := TX10) (N := 4) (ci := 12) (v := .int 9) B (by decide +kernel) rfl 1 (by decide) (by decide +kernel) rfl h_53 rfl dX10_copyFrom_8 ?_
  refine z_icmp_ge (tgt := 43) B dX10_copyFrom_11 rfl (fun h9 => absurd h9 (by decide)) (fun c_15 => ?_)
  refine z_aload_n B dX10_copyFrom_14 rfl 3 rfl ?_
  refine z_iload_n B dX10_copyFrom_15 rfl 0 rfl ?_
  have h_54 : Φ14 f2 = some (ai_ G 9 g2) := ((fr14 f2 (Ne.symm hne_f_f2) (Ne.symm hne_h_f2)).trans ((fr13 f2).trans h_46))
  refine z_callV (As := [.int 7]) (rest := []) B (c_X10_field G l Φ14 sz h2 f2 9 b2 d2 g2 7 h_53 h_54 (by decide) (by decide) (vin rfl)) (cwV 1 B.1.2.2.2.2 gX10_copyFrom_X10_field rfl rfl rfl (by decide +kernel) ⟨Nat.le_of_ble_eq_true rfl, Nat.le_of_ble_eq_true rfl⟩) h_53 rfl rfl rfl rfl (Nat.le_of_ble_eq_true rfl) dX10_copyFrom_16 ⟨Nat.le_of_ble_eq_true rfl, Nat.le_of_ble_eq_true rfl⟩ (fun v15 Φ15 sz15 st15 hp15 hs15 => ?_)
  obtain ⟨rfl, hq15, fr15⟩ := hp15
  replace hq15 : sz15 = sz := hq15
  subst sz15
  replace hs15 : st15 = [.int (g2 (7 : Int32).toNatClampNeg)] := hs15
  subst st15
  refine z_top (st1 := [.int 7]) (by rw [show g2 ((7 : Int32).toNatClampNeg) = 7 from hg7]) ?_
  refine z_istore (lv' := [(4, .int 7), (3, .int 7), (0, .ref h), (1, .ref h2), (2, .int 495)]) B dX10_copyFrom_19 (Nat.le_of_ble_eq_true rfl) rfl ?_
  refine z_iload_n B dX10_copyFrom_21 rfl 4 rfl ?_
  refine z_iload B dX10_copyFrom_22 0 rfl ?_
  refine z_ishr B dX10_copyFrom_24 ?_
  refine z_top (st1 := [.int 3]) (congrArg (fun w9 : Int32 => ([.int w9] : List Value)) (show ((495 : Int32) >>> ((7 : Int32) &&& (31 : Int32)) : Int32) = 3 by decide +kernel)) ?_
  refine z_iconst (v := 1) B dX10_copyFrom_25 rfl ?_
  refine z_iand B dX10_copyFrom_26 ?_
  refine z_top (st1 := [.int 1]) (congrArg (fun w9 : Int32 => ([.int w9] : List Value)) (show (3 &&& 1 : Int32) = 1 by decide +kernel)) ?_
  refine z_iconst (v := 1) B dX10_copyFrom_27 rfl ?_
  refine z_icmp_ne (tgt := 37) B dX10_copyFrom_28 rfl (fun h9 => absurd (by decide) h9) (fun c_16 => ?_)
  refine z_aload_n B dX10_copyFrom_31 rfl 2 rfl ?_
  refine z_iload B dX10_copyFrom_32 0 rfl ?_
  have h_55 : Φ15 h = some (o_ 12 [.ref f, .int 6, .int 111, .int 17]) := ((fr15 h).trans h_52)
  have h_56 : Φ15 f = some (ai_ G 9 (upd (upd (upd (upd (upd (upd g (0 : Int32).toNatClampNeg 0) (1 : Int32).toNatClampNeg 1) (2 : Int32).toNatClampNeg 2) (3 : Int32).toNatClampNeg 3) (4 : Int32).toNatClampNeg 5) (5 : Int32).toNatClampNeg 6)) := ((fr15 f).trans h_51)
  refine z_callV (As := [.int 7]) (rest := []) B (c_X10_addField G l Φ15 sz h f 6 111 17 (upd (upd (upd (upd (upd (upd g (0 : Int32).toNatClampNeg 0) (1 : Int32).toNatClampNeg 1) (2 : Int32).toNatClampNeg 2) (3 : Int32).toNatClampNeg 3) (4 : Int32).toNatClampNeg 5) (5 : Int32).toNatClampNeg 6) 7 h_55 h_56 hne_h_f hna_h hna_f (by decide) (by decide) (by decide) (by decide) (vin rfl) (vin rfl)) (cwV 1 B.1.2.2.2.2 gX10_copyFrom_X10_addField rfl rfl rfl (by decide +kernel) ⟨Nat.le_of_ble_eq_true rfl, Nat.le_of_ble_eq_true rfl⟩) h_55 rfl rfl rfl rfl (Nat.le_of_ble_eq_true rfl) dX10_copyFrom_34 ⟨Nat.le_of_ble_eq_true rfl, Nat.le_of_ble_eq_true rfl⟩ (fun v16 Φ16 sz16 st16 hp16 hs16 => ?_)
  obtain ⟨rfl, hq16, fr16, h_57, h_58⟩ := hp16
  replace hq16 : sz16 = sz := hq16
  subst sz16
  replace hs16 : st16 = [] := hs16
  subst st16
  have h_59 : Φ16 f = some (ai_ G 9 (upd (upd (upd (upd (upd (upd (upd g (0 : Int32).toNatClampNeg 0) (1 : Int32).toNatClampNeg 1) (2 : Int32).toNatClampNeg 2) (3 : Int32).toNatClampNeg 3) (4 : Int32).toNatClampNeg 5) (5 : Int32).toNatClampNeg 6) (6 : Int32).toNatClampNeg 7)) := h_57
  have h_60 : Φ16 h = some (o_ 12 [.ref f, .int 7, .int 239, .int 21]) := h_58
  refine z_iinc (k := 1) (v := 8) (lv' := [(3, .int 8), (4, .int 7), (0, .ref h), (1, .ref h2), (2, .int 495)]) B dX10_copyFrom_37 rfl rfl (Nat.le_of_ble_eq_true rfl) rfl ?_
  refine z_goto (tgt := 6) B dX10_copyFrom_40 rfl ?_
  refine z_iload_n B dX10_copyFrom_6 rfl 0 rfl ?_
  refine z_aload_n B dX10_copyFrom_7 rfl 3 rfl ?_
  have h_61 : Φ16 h2 = some (o_ 12 [.ref f2, .int 9, .int b2, .int d2]) := ((fr16 h2 hne_h2_f (Ne.symm hne_h_h2)).trans ((fr15 h2).trans h_53))
  refine z_get (ref := "FlowExporter$Template") (C := RX10) (T := TX10) (N := 4) (ci := 12) (v := .int 9) B (by decide +kernel) rfl 1 (by decide) (by decide +kernel) rfl h_61 rfl dX10_copyFrom_8 ?_
  refine z_icmp_ge (tgt := 43) B dX10_copyFrom_11 rfl (fun h9 => absurd h9 (by decide)) (fun c_17 => ?_)
  refine z_aload_n B dX10_copyFrom_14 rfl 3 rfl ?_
  refine z_iload_n B dX10_copyFrom_15 rfl 0 rfl ?_
  have h_62 : Φ16 f2 = some (ai_ G 9 g2) := ((fr16 f2 (Ne.symm hne_f_f2) (Ne.symm hne_h_f2)).trans ((fr15 f2).trans h_54))
  refine z_callV (As := [.int 8]) (rest := []) B (c_X10_field G l Φ16 sz h2 f2 9 b2 d2 g2 8 h_61 h_62 (by decide) (by decide) (vin rfl)) (cwV 1 B.1.2.2.2.2 gX10_copyFrom_X10_field rfl rfl rfl (by decide +kernel) ⟨Nat.le_of_ble_eq_true rfl, Nat.le_of_ble_eq_true rfl⟩) h_61 rfl rfl rfl rfl (Nat.le_of_ble_eq_true rfl) dX10_copyFrom_16 ⟨Nat.le_of_ble_eq_true rfl, Nat.le_of_ble_eq_true rfl⟩ (fun v17 Φ17 sz17 st17 hp17 hs17 => ?_)
  obtain ⟨rfl, hq17, fr17⟩ := hp17
  replace hq17 : sz17 = sz := hq17
  subst sz17
  replace hs17 : st17 = [.int (g2 (8 : Int32).toNatClampNeg)] := hs17
  subst st17
  refine z_top (st1 := [.int 8]) (by rw [show g2 ((8 : Int32).toNatClampNeg) = 8 from hg8]) ?_
  refine z_istore (lv' := [(4, .int 8), (3, .int 8), (0, .ref h), (1, .ref h2), (2, .int 495)]) B dX10_copyFrom_19 (Nat.le_of_ble_eq_true rfl) rfl ?_
  refine z_iload_n B dX10_copyFrom_21 rfl 4 rfl ?_
  refine z_iload B dX10_copyFrom_22 0 rfl ?_
  refine z_ishr B dX10_copyFrom_24 ?_
  refine z_top (st1 := [.int 1]) (congrArg (fun w9 : Int32 => ([.int w9] : List Value)) (show ((495 : Int32) >>> ((8 : Int32) &&& (31 : Int32)) : Int32) = 1 by decide +kernel)) ?_
  refine z_iconst (v := 1) B dX10_copyFrom_25 rfl ?_
  refine z_iand B dX10_copyFrom_26 ?_
  refine z_top (st1 := [.int 1]) (congrArg (fun w9 : Int32 => ([.int w9] : List Value)) (show (1 &&& 1 : Int32) = 1 by decide +kernel)) ?_
  refine z_iconst (v := 1) B dX10_copyFrom_27 rfl ?_
  refine z_icmp_ne (tgt := 37) B dX10_copyFrom_28 rfl (fun h9 => absurd (by decide) h9) (fun c_18 => ?_)
  refine z_aload_n B dX10_copyFrom_31 rfl 2 rfl ?_
  refine z_iload B dX10_copyFrom_32 0 rfl ?_
  have h_63 : Φ17 h = some (o_ 12 [.ref f, .int 7, .int 239, .int 21]) := ((fr17 h).trans h_60)
  have h_64 : Φ17 f = some (ai_ G 9 (upd (upd (upd (upd (upd (upd (upd g (0 : Int32).toNatClampNeg 0) (1 : Int32).toNatClampNeg 1) (2 : Int32).toNatClampNeg 2) (3 : Int32).toNatClampNeg 3) (4 : Int32).toNatClampNeg 5) (5 : Int32).toNatClampNeg 6) (6 : Int32).toNatClampNeg 7)) := ((fr17 f).trans h_59)
  refine z_callV (As := [.int 8]) (rest := []) B (c_X10_addField G l Φ17 sz h f 7 239 21 (upd (upd (upd (upd (upd (upd (upd g (0 : Int32).toNatClampNeg 0) (1 : Int32).toNatClampNeg 1) (2 : Int32).toNatClampNeg 2) (3 : Int32).toNatClampNeg 3) (4 : Int32).toNatClampNeg 5) (5 : Int32).toNatClampNeg 6) (6 : Int32).toNatClampNeg 7) 8 h_63 h_64 hne_h_f hna_h hna_f (by decide) (by decide) (by decide) (by decide) (vin rfl) (vin rfl)) (cwV 1 B.1.2.2.2.2 gX10_copyFrom_X10_addField rfl rfl rfl (by decide +kernel) ⟨Nat.le_of_ble_eq_true rfl, Nat.le_of_ble_eq_true rfl⟩) h_63 rfl rfl rfl rfl (Nat.le_of_ble_eq_true rfl) dX10_copyFrom_34 ⟨Nat.le_of_ble_eq_true rfl, Nat.le_of_ble_eq_true rfl⟩ (fun v18 Φ18 sz18 st18 hp18 hs18 => ?_)
  obtain ⟨rfl, hq18, fr18, h_65, h_66⟩ := hp18
  replace hq18 : sz18 = sz := hq18
  subst sz18
  replace hs18 : st18 = [] := hs18
  subst st18
  have h_67 : Φ18 f = some (ai_ G 9 (upd (upd (upd (upd (upd (upd (upd (upd g (0 : Int32).toNatClampNeg 0) (1 : Int32).toNatClampNeg 1) (2 : Int32).toNatClampNeg 2) (3 : Int32).toNatClampNeg 3) (4 : Int32).toNatClampNeg 5) (5 : Int32).toNatClampNeg 6) (6 : Int32).toNatClampNeg 7) (7 : Int32).toNatClampNeg 8)) := h_65
  have h_68 : Φ18 h = some (o_ 12 [.ref f, .int 8, .int 495, .int 25]) := h_66
  refine z_iinc (k := 1) (v := 9) (lv' := [(3, .int 9), (4, .int 8), (0, .ref h), (1, .ref h2), (2, .int 495)]) B dX10_copyFrom_37 rfl rfl (Nat.le_of_ble_eq_true rfl) rfl ?_
  refine z_goto (tgt := 6) B dX10_copyFrom_40 rfl ?_
  refine z_iload_n B dX10_copyFrom_6 rfl 0 rfl ?_
  refine z_aload_n B dX10_copyFrom_7 rfl 3 rfl ?_
  have h_69 : Φ18 h2 = some (o_ 12 [.ref f2, .int 9, .int b2, .int d2]) := ((fr18 h2 hne_h2_f (Ne.symm hne_h_h2)).trans ((fr17 h2).trans h_61))
  refine z_get (ref := "FlowExporter$Template") (C := RX10) (T := TX10) (N := 4) (ci := 12) (v := .int 9) B (by decide +kernel) rfl 1 (by decide) (by decide +kernel) rfl h_69 rfl dX10_copyFrom_8 ?_
  refine z_icmp_ge (tgt := 43) B dX10_copyFrom_11 rfl (fun c_19 => ?_) (fun h9 => absurd (by decide) h9)
  exact z_ret_v B dX10_copyFrom_43 ⟨rfl, rfl, (fun b9 h9a h9b => ((fr18 b9 h9a h9b).trans ((fr17 b9).trans ((fr16 b9 h9a h9b).trans ((fr15 b9).trans ((fr14 b9 h9a h9b).trans ((fr13 b9).trans ((fr12 b9 h9a h9b).trans ((fr11 b9).trans ((fr10 b9).trans ((fr9 b9 h9a h9b).trans ((fr8 b9).trans ((fr7 b9 h9a h9b).trans ((fr6 b9).trans ((fr5 b9 h9a h9b).trans ((fr4 b9).trans ((fr3 b9 h9a h9b).trans ((fr2 b9).trans ((fr1 b9 h9b).trans rfl))))))))))))))))))), h_67, h_68⟩

set_option maxHeartbeats 4000000 in
set_option maxRecDepth 100000 in
theorem c_X10_copyFrom_z4 (G : EnvG) (l : Launch) (Φ : Hm) (sz : Nat) (h : Nat) (f : Nat) (a : Int32) (b : Int32) (d : Int32) (h2 : Nat) (f2 : Nat) (b2 : Int32) (d2 : Int32) (hc0 : Φ h = some (o_ 12 [.ref f, .int a, .int b, .int d])) (hc1 : Φ h2 = some (o_ 12 [.ref f2, .int 0, .int b2, .int d2])) (hne_h_h2 : h ≠ h2) (hna_h : G.2.2.2 ≤ h) : Ct G l yX10_copyFrom wsX10_copyFrom ({ frames := 1, cells := 0, slots := 0, locals := 20 }) 0 0 [.ref h, .ref h2, .int 495] Φ sz (fun v Φ1 sz1 => v = none ∧ sz1 = sz ∧ (∀ b9 : Nat, b9 ≠ h → Φ1 b9 = Φ b9) ∧ Φ1 h = some (o_ 12 [.ref f, .int 0, .int 0, .int 0])) := by
  refine Ct.of (cc := cX10_copyFrom) (maxL := 5) (ret := none) (by decide) rfl (Nat.le_of_ble_eq_true rfl) ?_
  intro p9 e9 s9 m9 w9 t9 k9 B
  show Z p9 l e9 _ s9 m9 _ w9 t9 k9 _ G 5 0 [(0, .ref h), (1, .ref h2), (2, .int 495)] [] Φ (sz) 0 0
  refine z_aload_n B dX10_copyFrom_0 rfl 0 rfl ?_
  refine z_callV (As := []) (rest := []) B (c_X10_clear G l Φ sz h f a b d hc0 hna_h) (cwV 0 B.1.2.2.2.2 gX10_copyFrom_X10_clear rfl rfl rfl (by decide +kernel) ⟨Nat.le_of_ble_eq_true rfl, Nat.le_of_ble_eq_true rfl⟩) hc0 rfl rfl rfl rfl (Nat.le_of_ble_eq_true rfl) dX10_copyFrom_1 ⟨Nat.le_of_ble_eq_true rfl, Nat.le_of_ble_eq_true rfl⟩ (fun v1 Φ1 sz1 st1 hp1 hs1 => ?_)
  obtain ⟨rfl, hq1, fr1, h_1⟩ := hp1
  replace hq1 : sz1 = sz := hq1
  subst sz1
  replace hs1 : st1 = [] := hs1
  subst st1
  have h_2 : Φ1 h = some (o_ 12 [.ref f, .int 0, .int 0, .int 0]) := h_1
  refine z_iconst (v := 0) B dX10_copyFrom_4 rfl ?_
  refine z_istore_n (lv' := [(3, .int 0), (0, .ref h), (1, .ref h2), (2, .int 495)]) B dX10_copyFrom_5 rfl (Nat.le_of_ble_eq_true rfl) rfl ?_
  refine z_iload_n B dX10_copyFrom_6 rfl 0 rfl ?_
  refine z_aload_n B dX10_copyFrom_7 rfl 2 rfl ?_
  have h_3 : Φ1 h2 = some (o_ 12 [.ref f2, .int 0, .int b2, .int d2]) := ((fr1 h2 (Ne.symm hne_h_h2)).trans hc1)
  refine z_get (ref := "FlowExporter$Template") (C := RX10) (T := TX10) (N := 4) (ci := 12) (v := .int 0) B (by decide +kernel) rfl 1 (by decide) (by decide +kernel) rfl h_3 rfl dX10_copyFrom_8 ?_
  refine z_icmp_ge (tgt := 43) B dX10_copyFrom_11 rfl (fun c_1 => ?_) (fun h9 => absurd (by decide) h9)
  exact z_ret_v B dX10_copyFrom_43 ⟨rfl, rfl, (fun b9 h9a => ((fr1 b9 h9a).trans rfl)), h_2⟩

set_option maxHeartbeats 4000000 in
set_option maxRecDepth 100000 in
theorem f_X1_support_s4 (G : EnvG) (l : Launch) (Φ : Hm) (sz : Nat) (x : Nat) (hc3_ : Φ (x + 3) = some (o_ 3 [.ref (x + 4), .ref (x + 5), .ref (x + 6), .ref (x + 7), .int 1, .int 511])) (hc6_ : Φ (x + 6) = some (aq_ G 4 4 (va_up (va_up (va_up (va_up (fun _ => none) (0 : Int32).toNatClampNeg (some (x + 8))) (1 : Int32).toNatClampNeg (some (x + 12))) (2 : Int32).toNatClampNeg (some (x + 16))) (3 : Int32).toNatClampNeg (some (x + 20))))) (hc7_ : Φ (x + 7) = some (aq_ G 4 4 (va_up (va_up (va_up (va_up (fun _ => none) (0 : Int32).toNatClampNeg (some (x + 10))) (1 : Int32).toNatClampNeg (some (x + 14))) (2 : Int32).toNatClampNeg (some (x + 18))) (3 : Int32).toNatClampNeg (some (x + 22))))) (hc8_ : Φ (x + 8) = some (o_ 12 [.ref (x + 9), .int 9, .int 511, .int 29])) (hc9_ : Φ (x + 9) = some (ai_ G 9 (upd (upd (upd (upd (upd (upd (upd (upd (upd (fun _ => 0) (0 : Int32).toNatClampNeg 0) (1 : Int32).toNatClampNeg 1) (2 : Int32).toNatClampNeg 2) (3 : Int32).toNatClampNeg 3) (4 : Int32).toNatClampNeg 4) (5 : Int32).toNatClampNeg 5) (6 : Int32).toNatClampNeg 6) (7 : Int32).toNatClampNeg 7) (8 : Int32).toNatClampNeg 8))) (hc10_ : Φ (x + 10) = some (o_ 12 [.ref (x + 11), .int 9, .int 511, .int 29])) (hc11_ : Φ (x + 11) = some (ai_ G 9 (upd (upd (upd (upd (upd (upd (upd (upd (upd (fun _ => 0) (0 : Int32).toNatClampNeg 0) (1 : Int32).toNatClampNeg 1) (2 : Int32).toNatClampNeg 2) (3 : Int32).toNatClampNeg 3) (4 : Int32).toNatClampNeg 4) (5 : Int32).toNatClampNeg 5) (6 : Int32).toNatClampNeg 6) (7 : Int32).toNatClampNeg 7) (8 : Int32).toNatClampNeg 8))) (hc12_ : Φ (x + 12) = some (o_ 12 [.ref (x + 13), .int 0, .int 0, .int 0])) (hc14_ : Φ (x + 14) = some (o_ 12 [.ref (x + 15), .int 0, .int 0, .int 0])) (hc16_ : Φ (x + 16) = some (o_ 12 [.ref (x + 17), .int 0, .int 0, .int 0])) (hc18_ : Φ (x + 18) = some (o_ 12 [.ref (x + 19), .int 0, .int 0, .int 0])) (hc20_ : Φ (x + 20) = some (o_ 12 [.ref (x + 21), .int 0, .int 0, .int 0])) (hc22_ : Φ (x + 22) = some (o_ 12 [.ref (x + 23), .int 0, .int 0, .int 0])) (hna : G.2.2.2 ≤ x) : Ct G l yX1_support wsX1_support ({ frames := 2, cells := 0, slots := 0, locals := 45 }) 0 0 [.ref (x + 3), .int 495] Φ sz (fun v Φ1 sz1 => v = none ∧ sz1 = sz ∧ (∀ b9 : Nat, b9 ≠ x + 10 → b9 ≠ x + 11 → b9 ≠ x + 14 → b9 ≠ x + 18 → b9 ≠ x + 22 → b9 ≠ x + 3 → Φ1 b9 = Φ b9) ∧ Φ1 (x + 10) = some (o_ 12 [.ref (x + 11), .int 8, .int 495, .int 25]) ∧ Φ1 (x + 11) = some (ai_ G 9 (upd (upd (upd (upd (upd (upd (upd (upd (upd (upd (upd (upd (upd (upd (upd (upd (upd (fun _ => 0) (0 : Int32).toNatClampNeg 0) (1 : Int32).toNatClampNeg 1) (2 : Int32).toNatClampNeg 2) (3 : Int32).toNatClampNeg 3) (4 : Int32).toNatClampNeg 4) (5 : Int32).toNatClampNeg 5) (6 : Int32).toNatClampNeg 6) (7 : Int32).toNatClampNeg 7) (8 : Int32).toNatClampNeg 8) (0 : Int32).toNatClampNeg 0) (1 : Int32).toNatClampNeg 1) (2 : Int32).toNatClampNeg 2) (3 : Int32).toNatClampNeg 3) (4 : Int32).toNatClampNeg 5) (5 : Int32).toNatClampNeg 6) (6 : Int32).toNatClampNeg 7) (7 : Int32).toNatClampNeg 8)) ∧ Φ1 (x + 14) = some (o_ 12 [.ref (x + 15), .int 0, .int 0, .int 0]) ∧ Φ1 (x + 18) = some (o_ 12 [.ref (x + 19), .int 0, .int 0, .int 0]) ∧ Φ1 (x + 22) = some (o_ 12 [.ref (x + 23), .int 0, .int 0, .int 0]) ∧ Φ1 (x + 3) = some (o_ 3 [.ref (x + 4), .ref (x + 5), .ref (x + 6), .ref (x + 7), .int 1, .int 495])) := by
  refine Ct.of (cc := cX1_support) (maxL := 3) (ret := none) (by decide) rfl (Nat.le_of_ble_eq_true rfl) ?_
  intro p9 e9 s9 m9 w9 t9 k9 B
  show Z p9 l e9 _ s9 m9 _ w9 t9 k9 _ G 3 0 [(0, .ref (x + 3)), (1, .int 495)] [] Φ sz 0 0
  refine z_aload_n B dX1_support_0 rfl 0 rfl ?_
  refine z_iload_n B dX1_support_1 rfl 1 rfl ?_
  refine z_put (ref := "FlowExporter$Config") (C := RX1) (T := TX1) (N := 6) (ci := 3) (v := .int 495) B (by decide +kernel) tyX1 tyX1_ok nmX1 rfl 5 (by decide) (by decide +kernel) rfl (Or.inl rfl) hc3_ (Nat.le_trans hna (Nat.le_add_right x 3)) rfl rfl (Nat.le_of_ble_eq_true rfl) dX1_support_2 (fun Φ1 hΦ1 => ?_)
  have h_1 : Φ1 (x + 3) = some (o_ 3 [.ref (x + 4), .ref (x + 5), .ref (x + 6), .ref (x + 7), .int 1, .int 495]) := fset_at hΦ1
  refine z_iconst (v := 0) B dX1_support_5 rfl ?_
  refine z_istore_n (lv' := [(2, .int 0), (0, .ref (x + 3)), (1, .int 495)]) B dX1_support_6 rfl (Nat.le_of_ble_eq_true rfl) rfl ?_
  refine z_iload_n B dX1_support_7 rfl 0 rfl ?_
  refine z_iconst (v := 4) B dX1_support_8 rfl ?_
  refine z_icmp_ge (tgt := 34) B dX1_support_9 rfl (fun h9 => absurd h9 (by decide)) (fun c_1 => ?_)
  refine z_aload_n B dX1_support_12 rfl 1 rfl ?_
  refine z_get (ref := "FlowExporter$Config") (C := RX1) (T := TX1) (N := 6) (ci := 3) (v := .ref (x + 7)) B (by decide +kernel) rfl 3 (by decide) (by decide +kernel) rfl h_1 rfl dX1_support_13 ?_
  refine z_iload_n B dX1_support_16 rfl 0 rfl ?_
  have h_2 : Φ1 (x + 7) = some (aq_ G 4 4 (va_up (va_up (va_up (va_up (fun _ => none) (0 : Int32).toNatClampNeg (some (x + 10))) (1 : Int32).toNatClampNeg (some (x + 14))) (2 : Int32).toNatClampNeg (some (x + 18))) (3 : Int32).toNatClampNeg (some (x + 22)))) := ((fset_fr hΦ1 (ne_off (x := x) (i := 7) (j := 3) rfl)).trans hc7_)
  refine z_aald (b := x + 10) B rfl h_2 (vin rfl) rfl dX1_support_17 ?_
  refine z_aload_n B dX1_support_18 rfl 1 rfl ?_
  refine z_get (ref := "FlowExporter$Config") (C := RX1) (T := TX1) (N := 6) (ci := 3) (v := .ref (x + 6)) B (by decide +kernel) rfl 2 (by decide) (by decide +kernel) rfl h_1 rfl dX1_support_19 ?_
  refine z_iload_n B dX1_support_22 rfl 0 rfl ?_
  have h_3 : Φ1 (x + 6) = some (aq_ G 4 4 (va_up (va_up (va_up (va_up (fun _ => none) (0 : Int32).toNatClampNeg (some (x + 8))) (1 : Int32).toNatClampNeg (some (x + 12))) (2 : Int32).toNatClampNeg (some (x + 16))) (3 : Int32).toNatClampNeg (some (x + 20)))) := ((fset_fr hΦ1 (ne_off (x := x) (i := 6) (j := 3) rfl)).trans hc6_)
  refine z_aald (b := x + 8) B rfl h_3 (vin rfl) rfl dX1_support_23 ?_
  refine z_iload_n B dX1_support_24 rfl 2 rfl ?_
  have h_4 : Φ1 (x + 10) = some (o_ 12 [.ref (x + 11), .int 9, .int 511, .int 29]) := ((fset_fr hΦ1 (ne_off (x := x) (i := 10) (j := 3) rfl)).trans hc10_)
  have h_5 : Φ1 (x + 11) = some (ai_ G 9 (upd (upd (upd (upd (upd (upd (upd (upd (upd (fun _ => 0) (0 : Int32).toNatClampNeg 0) (1 : Int32).toNatClampNeg 1) (2 : Int32).toNatClampNeg 2) (3 : Int32).toNatClampNeg 3) (4 : Int32).toNatClampNeg 4) (5 : Int32).toNatClampNeg 5) (6 : Int32).toNatClampNeg 6) (7 : Int32).toNatClampNeg 7) (8 : Int32).toNatClampNeg 8)) := ((fset_fr hΦ1 (ne_off (x := x) (i := 11) (j := 3) rfl)).trans hc11_)
  have h_6 : Φ1 (x + 8) = some (o_ 12 [.ref (x + 9), .int 9, .int 511, .int 29]) := ((fset_fr hΦ1 (ne_off (x := x) (i := 8) (j := 3) rfl)).trans hc8_)
  have h_7 : Φ1 (x + 9) = some (ai_ G 9 (upd (upd (upd (upd (upd (upd (upd (upd (upd (fun _ => 0) (0 : Int32).toNatClampNeg 0) (1 : Int32).toNatClampNeg 1) (2 : Int32).toNatClampNeg 2) (3 : Int32).toNatClampNeg 3) (4 : Int32).toNatClampNeg 4) (5 : Int32).toNatClampNeg 5) (6 : Int32).toNatClampNeg 6) (7 : Int32).toNatClampNeg 7) (8 : Int32).toNatClampNeg 8)) := ((fset_fr hΦ1 (ne_off (x := x) (i := 9) (j := 3) rfl)).trans hc9_)
  refine z_callV (As := [.ref (x + 8), .int 495]) (rest := []) B (c_X10_copyFrom_s4 G l Φ1 sz (x + 10) (x + 11) 9 511 29 (upd (upd (upd (upd (upd (upd (upd (upd (upd (fun _ => 0) (0 : Int32).toNatClampNeg 0) (1 : Int32).toNatClampNeg 1) (2 : Int32).toNatClampNeg 2) (3 : Int32).toNatClampNeg 3) (4 : Int32).toNatClampNeg 4) (5 : Int32).toNatClampNeg 5) (6 : Int32).toNatClampNeg 6) (7 : Int32).toNatClampNeg 7) (8 : Int32).toNatClampNeg 8) (x + 8) (x + 9) 511 29 (upd (upd (upd (upd (upd (upd (upd (upd (upd (fun _ => 0) (0 : Int32).toNatClampNeg 0) (1 : Int32).toNatClampNeg 1) (2 : Int32).toNatClampNeg 2) (3 : Int32).toNatClampNeg 3) (4 : Int32).toNatClampNeg 4) (5 : Int32).toNatClampNeg 5) (6 : Int32).toNatClampNeg 6) (7 : Int32).toNatClampNeg 7) (8 : Int32).toNatClampNeg 8) h_4 h_5 h_6 h_7 (ne_off (x := x) (i := 10) (j := 8) rfl) (ne_off (x := x) (i := 11) (j := 9) rfl) (ne_off (x := x) (i := 10) (j := 11) rfl) (ne_off (x := x) (i := 8) (j := 11) rfl) (ne_off (x := x) (i := 10) (j := 9) rfl) (ne_off (x := x) (i := 8) (j := 9) rfl) (Nat.le_trans hna (Nat.le_add_right x 10)) (Nat.le_trans hna (Nat.le_add_right x 11)) rfl rfl rfl rfl rfl rfl rfl rfl rfl) (cwV 2 B.1.2.2.2.2 gX1_support_X10_copyFrom rfl rfl rfl (by decide +kernel) ⟨Nat.le_of_ble_eq_true rfl, Nat.le_of_ble_eq_true rfl⟩) h_4 rfl rfl rfl rfl (Nat.le_of_ble_eq_true rfl) dX1_support_25 ⟨Nat.le_of_ble_eq_true rfl, Nat.le_of_ble_eq_true rfl⟩ (fun v1 Φ2 sz1 st1 hp1 hs1 => ?_)
  obtain ⟨rfl, hq1, fr1, h_8, h_9⟩ := hp1
  replace hq1 : sz1 = sz := hq1
  subst sz1
  replace hs1 : st1 = [] := hs1
  subst st1
  have h_10 : Φ2 (x + 11) = some (ai_ G 9 (upd (upd (upd (upd (upd (upd (upd (upd (upd (upd (upd (upd (upd (upd (upd (upd (upd (fun _ => 0) (0 : Int32).toNatClampNeg 0) (1 : Int32).toNatClampNeg 1) (2 : Int32).toNatClampNeg 2) (3 : Int32).toNatClampNeg 3) (4 : Int32).toNatClampNeg 4) (5 : Int32).toNatClampNeg 5) (6 : Int32).toNatClampNeg 6) (7 : Int32).toNatClampNeg 7) (8 : Int32).toNatClampNeg 8) (0 : Int32).toNatClampNeg 0) (1 : Int32).toNatClampNeg 1) (2 : Int32).toNatClampNeg 2) (3 : Int32).toNatClampNeg 3) (4 : Int32).toNatClampNeg 5) (5 : Int32).toNatClampNeg 6) (6 : Int32).toNatClampNeg 7) (7 : Int32).toNatClampNeg 8)) := h_8
  have h_11 : Φ2 (x + 10) = some (o_ 12 [.ref (x + 11), .int 8, .int 495, .int 25]) := h_9
  refine z_iinc (k := 0) (v := 1) (lv' := [(2, .int 1), (0, .ref (x + 3)), (1, .int 495)]) B dX1_support_28 rfl rfl (Nat.le_of_ble_eq_true rfl) rfl ?_
  refine z_goto (tgt := 7) B dX1_support_31 rfl ?_
  refine z_iload_n B dX1_support_7 rfl 0 rfl ?_
  refine z_iconst (v := 4) B dX1_support_8 rfl ?_
  refine z_icmp_ge (tgt := 34) B dX1_support_9 rfl (fun h9 => absurd h9 (by decide)) (fun c_2 => ?_)
  refine z_aload_n B dX1_support_12 rfl 1 rfl ?_
  have h_12 : Φ2 (x + 3) = some (o_ 3 [.ref (x + 4), .ref (x + 5), .ref (x + 6), .ref (x + 7), .int 1, .int 495]) := ((fr1 (x + 3) (ne_off (x := x) (i := 3) (j := 11) rfl) (ne_off (x := x) (i := 3) (j := 10) rfl)).trans h_1)
  refine z_get (ref := "FlowExporter$Config") (C := RX1) (T := TX1) (N := 6) (ci := 3) (v := .ref (x + 7)) B (by decide +kernel) rfl 3 (by decide) (by decide +kernel) rfl h_12 rfl dX1_support_13 ?_
  refine z_iload_n B dX1_support_16 rfl 0 rfl ?_
  have h_13 : Φ2 (x + 7) = some (aq_ G 4 4 (va_up (va_up (va_up (va_up (fun _ => none) (0 : Int32).toNatClampNeg (some (x + 10))) (1 : Int32).toNatClampNeg (some (x + 14))) (2 : Int32).toNatClampNeg (some (x + 18))) (3 : Int32).toNatClampNeg (some (x + 22)))) := ((fr1 (x + 7) (ne_off (x := x) (i := 7) (j := 11) rfl) (ne_off (x := x) (i := 7) (j := 10) rfl)).trans h_2)
  refine z_aald (b := x + 14) B rfl h_13 (vin rfl) rfl dX1_support_17 ?_
  refine z_aload_n B dX1_support_18 rfl 1 rfl ?_
  refine z_get (ref := "FlowExporter$Config") (C := RX1) (T := TX1) (N := 6) (ci := 3) (v := .ref (x + 6)) B (by decide +kernel) rfl 2 (by decide) (by decide +kernel) rfl h_12 rfl dX1_support_19 ?_
  refine z_iload_n B dX1_support_22 rfl 0 rfl ?_
  have h_14 : Φ2 (x + 6) = some (aq_ G 4 4 (va_up (va_up (va_up (va_up (fun _ => none) (0 : Int32).toNatClampNeg (some (x + 8))) (1 : Int32).toNatClampNeg (some (x + 12))) (2 : Int32).toNatClampNeg (some (x + 16))) (3 : Int32).toNatClampNeg (some (x + 20)))) := ((fr1 (x + 6) (ne_off (x := x) (i := 6) (j := 11) rfl) (ne_off (x := x) (i := 6) (j := 10) rfl)).trans h_3)
  refine z_aald (b := x + 12) B rfl h_14 (vin rfl) rfl dX1_support_23 ?_
  refine z_iload_n B dX1_support_24 rfl 2 rfl ?_
  have h_15 : Φ2 (x + 14) = some (o_ 12 [.ref (x + 15), .int 0, .int 0, .int 0]) := ((fr1 (x + 14) (ne_off (x := x) (i := 14) (j := 11) rfl) (ne_off (x := x) (i := 14) (j := 10) rfl)).trans ((fset_fr hΦ1 (ne_off (x := x) (i := 14) (j := 3) rfl)).trans hc14_))
  have h_16 : Φ2 (x + 12) = some (o_ 12 [.ref (x + 13), .int 0, .int 0, .int 0]) := ((fr1 (x + 12) (ne_off (x := x) (i := 12) (j := 11) rfl) (ne_off (x := x) (i := 12) (j := 10) rfl)).trans ((fset_fr hΦ1 (ne_off (x := x) (i := 12) (j := 3) rfl)).trans hc12_))
  refine z_callV (As := [.ref (x + 12), .int 495]) (rest := []) B (c_X10_copyFrom_z4 G l Φ2 sz (x + 14) (x + 15) 0 0 0 (x + 12) (x + 13) 0 0 h_15 h_16 (ne_off (x := x) (i := 14) (j := 12) rfl) (Nat.le_trans hna (Nat.le_add_right x 14))) (cwV 2 B.1.2.2.2.2 gX1_support_X10_copyFrom rfl rfl rfl (by decide +kernel) ⟨Nat.le_of_ble_eq_true rfl, Nat.le_of_ble_eq_true rfl⟩) h_15 rfl rfl rfl rfl (Nat.le_of_ble_eq_true rfl) dX1_support_25 ⟨Nat.le_of_ble_eq_true rfl, Nat.le_of_ble_eq_true rfl⟩ (fun v2 Φ3 sz2 st2 hp2 hs2 => ?_)
  obtain ⟨rfl, hq2, fr2, h_17⟩ := hp2
  replace hq2 : sz2 = sz := hq2
  subst sz2
  replace hs2 : st2 = [] := hs2
  subst st2
  have h_18 : Φ3 (x + 14) = some (o_ 12 [.ref (x + 15), .int 0, .int 0, .int 0]) := h_17
  refine z_iinc (k := 0) (v := 2) (lv' := [(2, .int 2), (0, .ref (x + 3)), (1, .int 495)]) B dX1_support_28 rfl rfl (Nat.le_of_ble_eq_true rfl) rfl ?_
  refine z_goto (tgt := 7) B dX1_support_31 rfl ?_
  refine z_iload_n B dX1_support_7 rfl 0 rfl ?_
  refine z_iconst (v := 4) B dX1_support_8 rfl ?_
  refine z_icmp_ge (tgt := 34) B dX1_support_9 rfl (fun h9 => absurd h9 (by decide)) (fun c_3 => ?_)
  refine z_aload_n B dX1_support_12 rfl 1 rfl ?_
  have h_19 : Φ3 (x + 3) = some (o_ 3 [.ref (x + 4), .ref (x + 5), .ref (x + 6), .ref (x + 7), .int 1, .int 495]) := ((fr2 (x + 3) (ne_off (x := x) (i := 3) (j := 14) rfl)).trans h_12)
  refine z_get (ref := "FlowExporter$Config") (C := RX1) (T := TX1) (N := 6) (ci := 3) (v := .ref (x + 7)) B (by decide +kernel) rfl 3 (by decide) (by decide +kernel) rfl h_19 rfl dX1_support_13 ?_
  refine z_iload_n B dX1_support_16 rfl 0 rfl ?_
  have h_20 : Φ3 (x + 7) = some (aq_ G 4 4 (va_up (va_up (va_up (va_up (fun _ => none) (0 : Int32).toNatClampNeg (some (x + 10))) (1 : Int32).toNatClampNeg (some (x + 14))) (2 : Int32).toNatClampNeg (some (x + 18))) (3 : Int32).toNatClampNeg (some (x + 22)))) := ((fr2 (x + 7) (ne_off (x := x) (i := 7) (j := 14) rfl)).trans h_13)
  refine z_aald (b := x + 18) B rfl h_20 (vin rfl) rfl dX1_support_17 ?_
  refine z_aload_n B dX1_support_18 rfl 1 rfl ?_
  refine z_get (ref := "FlowExporter$Config") (C := RX1) (T := TX1) (N := 6) (ci := 3) (v := .ref (x + 6)) B (by decide +kernel) rfl 2 (by decide) (by decide +kernel) rfl h_19 rfl dX1_support_19 ?_
  refine z_iload_n B dX1_support_22 rfl 0 rfl ?_
  have h_21 : Φ3 (x + 6) = some (aq_ G 4 4 (va_up (va_up (va_up (va_up (fun _ => none) (0 : Int32).toNatClampNeg (some (x + 8))) (1 : Int32).toNatClampNeg (some (x + 12))) (2 : Int32).toNatClampNeg (some (x + 16))) (3 : Int32).toNatClampNeg (some (x + 20)))) := ((fr2 (x + 6) (ne_off (x := x) (i := 6) (j := 14) rfl)).trans h_14)
  refine z_aald (b := x + 16) B rfl h_21 (vin rfl) rfl dX1_support_23 ?_
  refine z_iload_n B dX1_support_24 rfl 2 rfl ?_
  have h_22 : Φ3 (x + 18) = some (o_ 12 [.ref (x + 19), .int 0, .int 0, .int 0]) := ((fr2 (x + 18) (ne_off (x := x) (i := 18) (j := 14) rfl)).trans ((fr1 (x + 18) (ne_off (x := x) (i := 18) (j := 11) rfl) (ne_off (x := x) (i := 18) (j := 10) rfl)).trans ((fset_fr hΦ1 (ne_off (x := x) (i := 18) (j := 3) rfl)).trans hc18_)))
  have h_23 : Φ3 (x + 16) = some (o_ 12 [.ref (x + 17), .int 0, .int 0, .int 0]) := ((fr2 (x + 16) (ne_off (x := x) (i := 16) (j := 14) rfl)).trans ((fr1 (x + 16) (ne_off (x := x) (i := 16) (j := 11) rfl) (ne_off (x := x) (i := 16) (j := 10) rfl)).trans ((fset_fr hΦ1 (ne_off (x := x) (i := 16) (j := 3) rfl)).trans hc16_)))
  refine z_callV (As := [.ref (x + 16), .int 495]) (rest := []) B (c_X10_copyFrom_z4 G l Φ3 sz (x + 18) (x + 19) 0 0 0 (x + 16) (x + 17) 0 0 h_22 h_23 (ne_off (x := x) (i := 18) (j := 16) rfl) (Nat.le_trans hna (Nat.le_add_right x 18))) (cwV 2 B.1.2.2.2.2 gX1_support_X10_copyFrom rfl rfl rfl (by decide +kernel) ⟨Nat.le_of_ble_eq_true rfl, Nat.le_of_ble_eq_true rfl⟩) h_22 rfl rfl rfl rfl (Nat.le_of_ble_eq_true rfl) dX1_support_25 ⟨Nat.le_of_ble_eq_true rfl, Nat.le_of_ble_eq_true rfl⟩ (fun v3 Φ4 sz3 st3 hp3 hs3 => ?_)
  obtain ⟨rfl, hq3, fr3, h_24⟩ := hp3
  replace hq3 : sz3 = sz := hq3
  subst sz3
  replace hs3 : st3 = [] := hs3
  subst st3
  have h_25 : Φ4 (x + 18) = some (o_ 12 [.ref (x + 19), .int 0, .int 0, .int 0]) := h_24
  refine z_iinc (k := 0) (v := 3) (lv' := [(2, .int 3), (0, .ref (x + 3)), (1, .int 495)]) B dX1_support_28 rfl rfl (Nat.le_of_ble_eq_true rfl) rfl ?_
  refine z_goto (tgt := 7) B dX1_support_31 rfl ?_
  refine z_iload_n B dX1_support_7 rfl 0 rfl ?_
  refine z_iconst (v := 4) B dX1_support_8 rfl ?_
  refine z_icmp_ge (tgt := 34) B dX1_support_9 rfl (fun h9 => absurd h9 (by decide)) (fun c_4 => ?_)
  refine z_aload_n B dX1_support_12 rfl 1 rfl ?_
  have h_26 : Φ4 (x + 3) = some (o_ 3 [.ref (x + 4), .ref (x + 5), .ref (x + 6), .ref (x + 7), .int 1, .int 495]) := ((fr3 (x + 3) (ne_off (x := x) (i := 3) (j := 18) rfl)).trans h_19)
  refine z_get (ref := "FlowExporter$Config") (C := RX1) (T := TX1) (N := 6) (ci := 3) (v := .ref (x + 7)) B (by decide +kernel) rfl 3 (by decide) (by decide +kernel) rfl h_26 rfl dX1_support_13 ?_
  refine z_iload_n B dX1_support_16 rfl 0 rfl ?_
  have h_27 : Φ4 (x + 7) = some (aq_ G 4 4 (va_up (va_up (va_up (va_up (fun _ => none) (0 : Int32).toNatClampNeg (some (x + 10))) (1 : Int32).toNatClampNeg (some (x + 14))) (2 : Int32).toNatClampNeg (some (x + 18))) (3 : Int32).toNatClampNeg (some (x + 22)))) := ((fr3 (x + 7) (ne_off (x := x) (i := 7) (j := 18) rfl)).trans h_20)
  refine z_aald (b := x + 22) B rfl h_27 (vin rfl) rfl dX1_support_17 ?_
  refine z_aload_n B dX1_support_18 rfl 1 rfl ?_
  refine z_get (ref := "FlowExporter$Config") (C := RX1) (T := TX1) (N := 6) (ci := 3) (v := .ref (x + 6)) B (by decide +kernel) rfl 2 (by decide) (by decide +kernel) rfl h_26 rfl dX1_support_19 ?_
  refine z_iload_n B dX1_support_22 rfl 0 rfl ?_
  have h_28 : Φ4 (x + 6) = some (aq_ G 4 4 (va_up (va_up (va_up (va_up (fun _ => none) (0 : Int32).toNatClampNeg (some (x + 8))) (1 : Int32).toNatClampNeg (some (x + 12))) (2 : Int32).toNatClampNeg (some (x + 16))) (3 : Int32).toNatClampNeg (some (x + 20)))) := ((fr3 (x + 6) (ne_off (x := x) (i := 6) (j := 18) rfl)).trans h_21)
  refine z_aald (b := x + 20) B rfl h_28 (vin rfl) rfl dX1_support_23 ?_
  refine z_iload_n B dX1_support_24 rfl 2 rfl ?_
  have h_29 : Φ4 (x + 22) = some (o_ 12 [.ref (x + 23), .int 0, .int 0, .int 0]) := ((fr3 (x + 22) (ne_off (x := x) (i := 22) (j := 18) rfl)).trans ((fr2 (x + 22) (ne_off (x := x) (i := 22) (j := 14) rfl)).trans ((fr1 (x + 22) (ne_off (x := x) (i := 22) (j := 11) rfl) (ne_off (x := x) (i := 22) (j := 10) rfl)).trans ((fset_fr hΦ1 (ne_off (x := x) (i := 22) (j := 3) rfl)).trans hc22_))))
  have h_30 : Φ4 (x + 20) = some (o_ 12 [.ref (x + 21), .int 0, .int 0, .int 0]) := ((fr3 (x + 20) (ne_off (x := x) (i := 20) (j := 18) rfl)).trans ((fr2 (x + 20) (ne_off (x := x) (i := 20) (j := 14) rfl)).trans ((fr1 (x + 20) (ne_off (x := x) (i := 20) (j := 11) rfl) (ne_off (x := x) (i := 20) (j := 10) rfl)).trans ((fset_fr hΦ1 (ne_off (x := x) (i := 20) (j := 3) rfl)).trans hc20_))))
  refine z_callV (As := [.ref (x + 20), .int 495]) (rest := []) B (c_X10_copyFrom_z4 G l Φ4 sz (x + 22) (x + 23) 0 0 0 (x + 20) (x + 21) 0 0 h_29 h_30 (ne_off (x := x) (i := 22) (j := 20) rfl) (Nat.le_trans hna (Nat.le_add_right x 22))) (cwV 2 B.1.2.2.2.2 gX1_support_X10_copyFrom rfl rfl rfl (by decide +kernel) ⟨Nat.le_of_ble_eq_true rfl, Nat.le_of_ble_eq_true rfl⟩) h_29 rfl rfl rfl rfl (Nat.le_of_ble_eq_true rfl) dX1_support_25 ⟨Nat.le_of_ble_eq_true rfl, Nat.le_of_ble_eq_true rfl⟩ (fun v4 Φ5 sz4 st4 hp4 hs4 => ?_)
  obtain ⟨rfl, hq4, fr4, h_31⟩ := hp4
  replace hq4 : sz4 = sz := hq4
  subst sz4
  replace hs4 : st4 = [] := hs4
  subst st4
  have h_32 : Φ5 (x + 22) = some (o_ 12 [.ref (x + 23), .int 0, .int 0, .int 0]) := h_31
  refine z_iinc (k := 0) (v := 4) (lv' := [(2, .int 4), (0, .ref (x + 3)), (1, .int 495)]) B dX1_support_28 rfl rfl (Nat.le_of_ble_eq_true rfl) rfl ?_
  refine z_goto (tgt := 7) B dX1_support_31 rfl ?_
  refine z_iload_n B dX1_support_7 rfl 0 rfl ?_
  refine z_iconst (v := 4) B dX1_support_8 rfl ?_
  refine z_icmp_ge (tgt := 34) B dX1_support_9 rfl (fun c_5 => ?_) (fun h9 => absurd (by decide) h9)
  have h_33 : Φ5 (x + 10) = some (o_ 12 [.ref (x + 11), .int 8, .int 495, .int 25]) := ((fr4 (x + 10) (ne_off (x := x) (i := 10) (j := 22) rfl)).trans ((fr3 (x + 10) (ne_off (x := x) (i := 10) (j := 18) rfl)).trans ((fr2 (x + 10) (ne_off (x := x) (i := 10) (j := 14) rfl)).trans h_11)))
  have h_34 : Φ5 (x + 11) = some (ai_ G 9 (upd (upd (upd (upd (upd (upd (upd (upd (upd (upd (upd (upd (upd (upd (upd (upd (upd (fun _ => 0) (0 : Int32).toNatClampNeg 0) (1 : Int32).toNatClampNeg 1) (2 : Int32).toNatClampNeg 2) (3 : Int32).toNatClampNeg 3) (4 : Int32).toNatClampNeg 4) (5 : Int32).toNatClampNeg 5) (6 : Int32).toNatClampNeg 6) (7 : Int32).toNatClampNeg 7) (8 : Int32).toNatClampNeg 8) (0 : Int32).toNatClampNeg 0) (1 : Int32).toNatClampNeg 1) (2 : Int32).toNatClampNeg 2) (3 : Int32).toNatClampNeg 3) (4 : Int32).toNatClampNeg 5) (5 : Int32).toNatClampNeg 6) (6 : Int32).toNatClampNeg 7) (7 : Int32).toNatClampNeg 8)) := ((fr4 (x + 11) (ne_off (x := x) (i := 11) (j := 22) rfl)).trans ((fr3 (x + 11) (ne_off (x := x) (i := 11) (j := 18) rfl)).trans ((fr2 (x + 11) (ne_off (x := x) (i := 11) (j := 14) rfl)).trans h_10)))
  have h_35 : Φ5 (x + 14) = some (o_ 12 [.ref (x + 15), .int 0, .int 0, .int 0]) := ((fr4 (x + 14) (ne_off (x := x) (i := 14) (j := 22) rfl)).trans ((fr3 (x + 14) (ne_off (x := x) (i := 14) (j := 18) rfl)).trans h_18))
  have h_36 : Φ5 (x + 18) = some (o_ 12 [.ref (x + 19), .int 0, .int 0, .int 0]) := ((fr4 (x + 18) (ne_off (x := x) (i := 18) (j := 22) rfl)).trans h_25)
  have h_37 : Φ5 (x + 3) = some (o_ 3 [.ref (x + 4), .ref (x + 5), .ref (x + 6), .ref (x + 7), .int 1, .int 495]) := ((fr4 (x + 3) (ne_off (x := x) (i := 3) (j := 22) rfl)).trans h_26)
  exact z_ret_v B dX1_support_34 ⟨rfl, rfl, (fun b9 h9a h9b h9c h9d h9e h9f => ((fr4 b9 h9e).trans ((fr3 b9 h9d).trans ((fr2 b9 h9c).trans ((fr1 b9 h9b h9a).trans ((fset_fr hΦ1 h9f).trans rfl)))))), h_33, h_34, h_35, h_36, h_32, h_37⟩

set_option maxHeartbeats 4000000 in
set_option maxRecDepth 100000 in
theorem c_X10_copyFrom_s5 (G : EnvG) (l : Launch) (Φ : Hm) (sz : Nat) (h : Nat) (f : Nat) (a : Int32) (b : Int32) (d : Int32) (g : Nat → Int32) (h2 : Nat) (f2 : Nat) (b2 : Int32) (d2 : Int32) (g2 : Nat → Int32) (hc0 : Φ h = some (o_ 12 [.ref f, .int a, .int b, .int d])) (hc1 : Φ f = some (ai_ G 9 g)) (hc2 : Φ h2 = some (o_ 12 [.ref f2, .int 9, .int b2, .int d2])) (hc3 : Φ f2 = some (ai_ G 9 g2)) (hne_h_h2 : h ≠ h2) (hne_f_f2 : f ≠ f2) (hne_h_f : h ≠ f) (hne_h2_f : h2 ≠ f) (hne_h_f2 : h ≠ f2) (hne_h2_f2 : h2 ≠ f2) (hna_h : G.2.2.2 ≤ h) (hna_f : G.2.2.2 ≤ f) (hg0 : g2 0 = 0) (hg1 : g2 1 = 1) (hg2 : g2 2 = 2) (hg3 : g2 3 = 3) (hg4 : g2 4 = 4) (hg5 : g2 5 = 5) (hg6 : g2 6 = 6) (hg7 : g2 7 = 7) (hg8 : g2 8 = 8) : Ct G l yX10_copyFrom wsX10_copyFrom ({ frames := 1, cells := 0, slots := 0, locals := 21 }) 0 0 [.ref h, .ref h2, .int 479] Φ sz (fun v Φ1 sz1 => v = none ∧ sz1 = sz ∧ (∀ b9 : Nat, b9 ≠ f → b9 ≠ h → Φ1 b9 = Φ b9) ∧ Φ1 f = some (ai_ G 9 (upd (upd (upd (upd (upd (upd (upd (upd g (0 : Int32).toNatClampNeg 0) (1 : Int32).toNatClampNeg 1) (2 : Int32).toNatClampNeg 2) (3 : Int32).toNatClampNeg 3) (4 : Int32).toNatClampNeg 4) (5 : Int32).toNatClampNeg 6) (6 : Int32).toNatClampNeg 7) (7 : Int32).toNatClampNeg 8)) ∧ Φ1 h = some (o_ 12 [.ref f, .int 8, .int 479, .int 21])) := by
  refine Ct.of (cc := cX10_copyFrom) (maxL := 5) (ret := none) (by decide) rfl (Nat.le_of_ble_eq_true rfl) ?_
  intro p9 e9 s9 m9 w9 t9 k9 B
  show Z p9 l e9 _ s9 m9 _ w9 t9 k9 _ G 5 0 [(0, .ref h), (1, .ref h2), (2, .int 479)] [] Φ (sz) 0 0
  refine z_aload_n B dX10_copyFrom_0 rfl 0 rfl ?_
  refine z_callV (As := []) (rest := []) B (c_X10_clear G l Φ sz h f a b d hc0 hna_h) (cwV 0 B.1.2.2.2.2 gX10_copyFrom_X10_clear rfl rfl rfl (by decide +kernel) ⟨Nat.le_of_ble_eq_true rfl, Nat.le_of_ble_eq_true rfl⟩) hc0 rfl rfl rfl rfl (Nat.le_of_ble_eq_true rfl) dX10_copyFrom_1 ⟨Nat.le_of_ble_eq_true rfl, Nat.le_of_ble_eq_true rfl⟩ (fun v1 Φ1 sz1 st1 hp1 hs1 => ?_)
  obtain ⟨rfl, hq1, fr1, h_1⟩ := hp1
  replace hq1 : sz1 = sz := hq1
  subst sz1
  replace hs1 : st1 = [] := hs1
  subst st1
  have h_2 : Φ1 h = some (o_ 12 [.ref f, .int 0, .int 0, .int 0]) := h_1
  refine z_iconst (v := 0) B dX10_copyFrom_4 rfl ?_
  refine z_istore_n (lv' := [(3, .int 0), (0, .ref h), (1, .ref h2), (2, .int 479)]) B dX10_copyFrom_5 rfl (Nat.le_of_ble_eq_true rfl) rfl ?_
  refine z_iload_n B dX10_copyFrom_6 rfl 0 rfl ?_
  refine z_aload_n B dX10_copyFrom_7 rfl 2 rfl ?_
  have h_3 : Φ1 h2 = some (o_ 12 [.ref f2, .int 9, .int b2, .int d2]) := ((fr1 h2 (Ne.symm hne_h_h2)).trans hc2)
  refine z_get (ref := "FlowExporter$Template") (C := RX10) (T := TX10) (N := 4) (ci := 12) (v := .int 9) B (by decide +kernel) rfl 1 (by decide) (by decide +kernel) rfl h_3 rfl dX10_copyFrom_8 ?_
  refine z_icmp_ge (tgt := 43) B dX10_copyFrom_11 rfl (fun h9 => absurd h9 (by decide)) (fun c_1 => ?_)
  refine z_aload_n B dX10_copyFrom_14 rfl 2 rfl ?_
  refine z_iload_n B dX10_copyFrom_15 rfl 0 rfl ?_
  have h_4 : Φ1 f2 = some (ai_ G 9 g2) := ((fr1 f2 (Ne.symm hne_h_f2)).trans hc3)
  refine z_callV (As := [.int 0]) (rest := []) B (c_X10_field G l Φ1 sz h2 f2 9 b2 d2 g2 0 h_3 h_4 (by decide) (by decide) (vin rfl)) (cwV 1 B.1.2.2.2.2 gX10_copyFrom_X10_field rfl rfl rfl (by decide +kernel) ⟨Nat.le_of_ble_eq_true rfl, Nat.le_of_ble_eq_true rfl⟩) h_3 rfl rfl rfl rfl (Nat.le_of_ble_eq_true rfl) dX10_copyFrom_16 ⟨Nat.le_of_ble_eq_true rfl, Nat.le_of_ble_eq_true rfl⟩ (fun v2 Φ2 sz2 st2 hp2 hs2 => ?_)
  obtain ⟨rfl, hq2, fr2⟩ := hp2
  replace hq2 : sz2 = sz := hq2
  subst sz2
  replace hs2 : st2 = [.int (g2 (0 : Int32).toNatClampNeg)] := hs2
  subst st2
  refine z_top (st1 := [.int 0]) (by rw [show g2 ((0 : Int32).toNatClampNeg) = 0 from hg0]) ?_
  refine z_istore (lv' := [(4, .int 0), (3, .int 0), (0, .ref h), (1, .ref h2), (2, .int 479)]) B dX10_copyFrom_19 (Nat.le_of_ble_eq_true rfl) rfl ?_
  refine z_iload_n B dX10_copyFrom_21 rfl 4 rfl ?_
  refine z_iload B dX10_copyFrom_22 0 rfl ?_
  refine z_ishr B dX10_copyFrom_24 ?_
  refine z_top (st1 := [.int 479]) (congrArg (fun w9 : Int32 => ([.int w9] : List Value)) (show ((479 : Int32) >>> ((0 : Int32) &&& (31 : Int32)) : Int32) = 479 by decide +kernel)) ?_
  refine z_iconst (v := 1) B dX10_copyFrom_25 rfl ?_
  refine z_iand B dX10_copyFrom_26 ?_
  refine z_top (st1 := [.int 1]) (congrArg (fun w9 : Int32 => ([.int w9] : List Value)) (show (479 &&& 1 : Int32) = 1 by decide +kernel)) ?_
  refine z_iconst (v := 1) B dX10_copyFrom_27 rfl ?_
  refine z_icmp_ne (tgt := 37) B dX10_copyFrom_28 rfl (fun h9 => absurd (by decide) h9) (fun c_2 => ?_)
  refine z_aload_n B dX10_copyFrom_31 rfl 2 rfl ?_
  refine z_iload B dX10_copyFrom_32 0 rfl ?_
  have h_5 : Φ2 h = some (o_ 12 [.ref f, .int 0, .int 0, .int 0]) := ((fr2 h).trans h_2)
  have h_6 : Φ2 f = some (ai_ G 9 g) := ((fr2 f).trans ((fr1 f (Ne.symm hne_h_f)).trans hc1))
  refine z_callV (As := [.int 0]) (rest := []) B (c_X10_addField G l Φ2 sz h f 0 0 0 g 0 h_5 h_6 hne_h_f hna_h hna_f (by decide) (by decide) (by decide) (by decide) (vin rfl) (vin rfl)) (cwV 1 B.1.2.2.2.2 gX10_copyFrom_X10_addField rfl rfl rfl (by decide +kernel) ⟨Nat.le_of_ble_eq_true rfl, Nat.le_of_ble_eq_true rfl⟩) h_5 rfl rfl rfl rfl (Nat.le_of_ble_eq_true rfl) dX10_copyFrom_34 ⟨Nat.le_of_ble_eq_true rfl, Nat.le_of_ble_eq_true rfl⟩ (fun v3 Φ3 sz3 st3 hp3 hs3 => ?_)
  obtain ⟨rfl, hq3, fr3, h_7, h_8⟩ := hp3
  replace hq3 : sz3 = sz := hq3
  subst sz3
  replace hs3 : st3 = [] := hs3
  subst st3
  have h_9 : Φ3 f = some (ai_ G 9 (upd g (0 : Int32).toNatClampNeg 0)) := h_7
  have h_10 : Φ3 h = some (o_ 12 [.ref f, .int 1, .int 1, .int 1]) := h_8
  refine z_iinc (k := 1) (v := 1) (lv' := [(3, .int 1), (4, .int 0), (0, .ref h), (1, .ref h2), (2, .int 479)]) B dX10_copyFrom_37 rfl rfl (Nat.le_of_ble_eq_true rfl) rfl ?_
  refine z_goto (tgt := 6) B dX10_copyFrom_40 rfl ?_
  refine z_iload_n B dX10_copyFrom_6 rfl 0 rfl ?_
  refine z_aload_n B dX10_copyFrom_7 rfl 3 rfl ?_
  have h_11 : Φ3 h2 = some (o_ 12 [.ref f2, .int 9, .int b2, .int d2]) := ((fr3 h2 hne_h2_f (Ne.symm hne_h_h2)).trans ((fr2 h2).trans h_3))
  refine z_get (ref := "FlowExporter$Template") (C := RX10) (T := TX10) (N := 4) (ci := 12) (v := .int 9) B (by decide +kernel) rfl 1 (by decide) (by decide +kernel) rfl h_11 rfl dX10_copyFrom_8 ?_
  refine z_icmp_ge (tgt := 43) B dX10_copyFrom_11 rfl (fun h9 => absurd h9 (by decide)) (fun c_3 => ?_)
  refine z_aload_n B dX10_copyFrom_14 rfl 3 rfl ?_
  refine z_iload_n B dX10_copyFrom_15 rfl 0 rfl ?_
  have h_12 : Φ3 f2 = some (ai_ G 9 g2) := ((fr3 f2 (Ne.symm hne_f_f2) (Ne.symm hne_h_f2)).trans ((fr2 f2).trans h_4))
  refine z_callV (As := [.int 1]) (rest := []) B (c_X10_field G l Φ3 sz h2 f2 9 b2 d2 g2 1 h_11 h_12 (by decide) (by decide) (vin rfl)) (cwV 1 B.1.2.2.2.2 gX10_copyFrom_X10_field rfl rfl rfl (by decide +kernel) ⟨Nat.le_of_ble_eq_true rfl, Nat.le_of_ble_eq_true rfl⟩) h_11 rfl rfl rfl rfl (Nat.le_of_ble_eq_true rfl) dX10_copyFrom_16 ⟨Nat.le_of_ble_eq_true rfl, Nat.le_of_ble_eq_true rfl⟩ (fun v4 Φ4 sz4 st4 hp4 hs4 => ?_)
  obtain ⟨rfl, hq4, fr4⟩ := hp4
  replace hq4 : sz4 = sz := hq4
  subst sz4
  replace hs4 : st4 = [.int (g2 (1 : Int32).toNatClampNeg)] := hs4
  subst st4
  refine z_top (st1 := [.int 1]) (by rw [show g2 ((1 : Int32).toNatClampNeg) = 1 from hg1]) ?_
  refine z_istore (lv' := [(4, .int 1), (3, .int 1), (0, .ref h), (1, .ref h2), (2, .int 479)]) B dX10_copyFrom_19 (Nat.le_of_ble_eq_true rfl) rfl ?_
  refine z_iload_n B dX10_copyFrom_21 rfl 4 rfl ?_
  refine z_iload B dX10_copyFrom_22 0 rfl ?_
  refine z_ishr B dX10_copyFrom_24 ?_
  refine z_top (st1 := [.int 239]) (congrArg (fun w9 : Int32 => ([.int w9] : List Value)) (show ((479 : Int32) >>> ((1 : Int32) &&& (31 : Int32)) : Int32) = 239 by decide +kernel)) ?_
  refine z_iconst (v := 1) B dX10_copyFrom_25 rfl ?_
  refine z_iand B dX10_copyFrom_26 ?_
  refine z_top (st1 := [.int 1]) (congrArg (fun w9 : Int32 => ([.int w9] : List Value)) (show (239 &&& 1 : Int32) = 1 by decide +kernel)) ?_
  refine z_iconst (v := 1) B dX10_copyFrom_27 rfl ?_
  refine z_icmp_ne (tgt := 37) B dX10_copyFrom_28 rfl (fun h9 => absurd (by decide) h9) (fun c_4 => ?_)
  refine z_aload_n B dX10_copyFrom_31 rfl 2 rfl ?_
  refine z_iload B dX10_copyFrom_32 0 rfl ?_
  have h_13 : Φ4 h = some (o_ 12 [.ref f, .int 1, .int 1, .int 1]) := ((fr4 h).trans h_10)
  have h_14 : Φ4 f = some (ai_ G 9 (upd g (0 : Int32).toNatClampNeg 0)) := ((fr4 f).trans h_9)
  refine z_callV (As := [.int 1]) (rest := []) B (c_X10_addField G l Φ4 sz h f 1 1 1 (upd g (0 : Int32).toNatClampNeg 0) 1 h_13 h_14 hne_h_f hna_h hna_f (by decide) (by decide) (by decide) (by decide) (vin rfl) (vin rfl)) (cwV 1 B.1.2.2.2.2 gX10_copyFrom_X10_addField rfl rfl rfl (by decide +kernel) ⟨Nat.le_of_ble_eq_true rfl, Nat.le_of_ble_eq_true rfl⟩) h_13 rfl rfl rfl rfl (Nat.le_of_ble_eq_true rfl) dX10_copyFrom_34 ⟨Nat.le_of_ble_eq_true rfl, Nat.le_of_ble_eq_true rfl⟩ (fun v5 Φ5 sz5 st5 hp5 hs5 => ?_)
  obtain ⟨rfl, hq5, fr5, h_15, h_16⟩ := hp5
  replace hq5 : sz5 = sz := hq5
  subst sz5
  replace hs5 : st5 = [] := hs5
  subst st5
  have h_17 : Φ5 f = some (ai_ G 9 (upd (upd g (0 : Int32).toNatClampNeg 0) (1 : Int32).toNatClampNeg 1)) := h_15
  have h_18 : Φ5 h = some (o_ 12 [.ref f, .int 2, .int 3, .int 2]) := h_16
  refine z_iinc (k := 1) (v := 2) (lv' := [(3, .int 2), (4, .int 1), (0, .ref h), (1, .ref h2), (2, .int 479)]) B dX10_copyFrom_37 rfl rfl (Nat.le_of_ble_eq_true rfl) rfl ?_
  refine z_goto (tgt := 6) B dX10_copyFrom_40 rfl ?_
  refine z_iload_n B dX10_copyFrom_6 rfl 0 rfl ?_
  refine z_aload_n B dX10_copyFrom_7 rfl 3 rfl ?_
  have h_19 : Φ5 h2 = some (o_ 12 [.ref f2, .int 9, .int b2, .int d2]) := ((fr5 h2 hne_h2_f (Ne.symm hne_h_h2)).trans ((fr4 h2).trans h_11))
  refine z_get (ref := "FlowExporter$Template") (C := RX10) (T := TX10) (N := 4) (ci := 12) (v := .int 9) B (by decide +kernel) rfl 1 (by decide) (by decide +kernel) rfl h_19 rfl dX10_copyFrom_8 ?_
  refine z_icmp_ge (tgt := 43) B dX10_copyFrom_11 rfl (fun h9 => absurd h9 (by decide)) (fun c_5 => ?_)
  refine z_aload_n B dX10_copyFrom_14 rfl 3 rfl ?_
  refine z_iload_n B dX10_copyFrom_15 rfl 0 rfl ?_
  have h_20 : Φ5 f2 = some (ai_ G 9 g2) := ((fr5 f2 (Ne.symm hne_f_f2) (Ne.symm hne_h_f2)).trans ((fr4 f2).trans h_12))
  refine z_callV (As := [.int 2]) (rest := []) B (c_X10_field G l Φ5 sz h2 f2 9 b2 d2 g2 2 h_19 h_20 (by decide) (by decide) (vin rfl)) (cwV 1 B.1.2.2.2.2 gX10_copyFrom_X10_field rfl rfl rfl (by decide +kernel) ⟨Nat.le_of_ble_eq_true rfl, Nat.le_of_ble_eq_true rfl⟩) h_19 rfl rfl rfl rfl (Nat.le_of_ble_eq_true rfl) dX10_copyFrom_16 ⟨Nat.le_of_ble_eq_true rfl, Nat.le_of_ble_eq_true rfl⟩ (fun v6 Φ6 sz6 st6 hp6 hs6 => ?_)
  obtain ⟨rfl, hq6, fr6⟩ := hp6
  replace hq6 : sz6 = sz := hq6
  subst sz6
  replace hs6 : st6 = [.int (g2 (2 : Int32).toNatClampNeg)] := hs6
  subst st6
  refine z_top (st1 := [.int 2]) (by rw [show g2 ((2 : Int32).toNatClampNeg) = 2 from hg2]) ?_
  refine z_istore (lv' := [(4, .int 2), (3, .int 2), (0, .ref h), (1, .ref h2), (2, .int 479)]) B dX10_copyFrom_19 (Nat.le_of_ble_eq_true rfl) rfl ?_
  refine z_iload_n B dX10_copyFrom_21 rfl 4 rfl ?_
  refine z_iload B dX10_copyFrom_22 0 rfl ?_
  refine z_ishr B dX10_copyFrom_24 ?_
  refine z_top (st1 := [.int 119]) (congrArg (fun w9 : Int32 => ([.int w9] : List Value)) (show ((479 : Int32) >>> ((2 : Int32) &&& (31 : Int32)) : Int32) = 119 by decide +kernel)) ?_
  refine z_iconst (v := 1) B dX10_copyFrom_25 rfl ?_
  refine z_iand B dX10_copyFrom_26 ?_
  refine z_top (st1 := [.int 1]) (congrArg (fun w9 : Int32 => ([.int w9] : List Value)) (show (119 &&& 1 : Int32) = 1 by decide +kernel)) ?_
  refine z_iconst (v := 1) B dX10_copyFrom_27 rfl ?_
  refine z_icmp_ne (tgt := 37) B dX10_copyFrom_28 rfl (fun h9 => absurd (by decide) h9) (fun c_6 => ?_)
  refine z_aload_n B dX10_copyFrom_31 rfl 2 rfl ?_
  refine z_iload B dX10_copyFrom_32 0 rfl ?_
  have h_21 : Φ6 h = some (o_ 12 [.ref f, .int 2, .int 3, .int 2]) := ((fr6 h).trans h_18)
  have h_22 : Φ6 f = some (ai_ G 9 (upd (upd g (0 : Int32).toNatClampNeg 0) (1 : Int32).toNatClampNeg 1)) := ((fr6 f).trans h_17)
  refine z_callV (As := [.int 2]) (rest := []) B (c_X10_addField G l Φ6 sz h f 2 3 2 (upd (upd g (0 : Int32).toNatClampNeg 0) (1 : Int32).toNatClampNeg 1) 2 h_21 h_22 hne_h_f hna_h hna_f (by decide) (by decide) (by decide) (by decide) (vin rfl) (vin rfl)) (cwV 1 B.1.2.2.2.2 gX10_copyFrom_X10_addField rfl rfl rfl (by decide +kernel) ⟨Nat.le_of_ble_eq_true rfl, Nat.le_of_ble_eq_true rfl⟩) h_21 rfl rfl rfl rfl (Nat.le_of_ble_eq_true rfl) dX10_copyFrom_34 ⟨Nat.le_of_ble_eq_true rfl, Nat.le_of_ble_eq_true rfl⟩ (fun v7 Φ7 sz7 st7 hp7 hs7 => ?_)
  obtain ⟨rfl, hq7, fr7, h_23, h_24⟩ := hp7
  replace hq7 : sz7 = sz := hq7
  subst sz7
  replace hs7 : st7 = [] := hs7
  subst st7
  have h_25 : Φ7 f = some (ai_ G 9 (upd (upd (upd g (0 : Int32).toNatClampNeg 0) (1 : Int32).toNatClampNeg 1) (2 : Int32).toNatClampNeg 2)) := h_23
  have h_26 : Φ7 h = some (o_ 12 [.ref f, .int 3, .int 7, .int 4]) := h_24
  refine z_iinc (k := 1) (v := 3) (lv' := [(3, .int 3), (4, .int 2), (0, .ref h), (1, .ref h2), (2, .int 479)]) B dX10_copyFrom_37 rfl rfl (Nat.le_of_ble_eq_true rfl) rfl ?_
  refine z_goto (tgt := 6) B dX10_copyFrom_40 rfl ?_
  refine z_iload_n B dX10_copyFrom_6 rfl 0 rfl ?_
  refine z_aload_n B dX10_copyFrom_7 rfl 3 rfl ?_
  have h_27 : Φ7 h2 = some (o_ 12 [.ref f2, .int 9, .int b2, .int d2]) := ((fr7 h2 hne_h2_f (Ne.symm hne_h_h2)).trans ((fr6 h2).trans h_19))
  refine z_get (ref := "FlowExporter$Template") (C := RX10) (T := TX10) (N := 4) (ci := 12) (v := .int 9) B (by decide +kernel) rfl 1 (by decide) (by decide +kernel) rfl h_27 rfl dX10_copyFrom_8 ?_
  refine z_icmp_ge (tgt := 43) B dX10_copyFrom_11 rfl (fun h9 => absurd h9 (by decide)) (fun c_7 => ?_)
  refine z_aload_n B dX10_copyFrom_14 rfl 3 rfl ?_
  refine z_iload_n B dX10_copyFrom_15 rfl 0 rfl ?_
  have h_28 : Φ7 f2 = some (ai_ G 9 g2) := ((fr7 f2 (Ne.symm hne_f_f2) (Ne.symm hne_h_f2)).trans ((fr6 f2).trans h_20))
  refine z_callV (As := [.int 3]) (rest := []) B (c_X10_field G l Φ7 sz h2 f2 9 b2 d2 g2 3 h_27 h_28 (by decide) (by decide) (vin rfl)) (cwV 1 B.1.2.2.2.2 gX10_copyFrom_X10_field rfl rfl rfl (by decide +kernel) ⟨Nat.le_of_ble_eq_true rfl, Nat.le_of_ble_eq_true rfl⟩) h_27 rfl rfl rfl rfl (Nat.le_of_ble_eq_true rfl) dX10_copyFrom_16 ⟨Nat.le_of_ble_eq_true rfl, Nat.le_of_ble_eq_true rfl⟩ (fun v8 Φ8 sz8 st8 hp8 hs8 => ?_)
  obtain ⟨rfl, hq8, fr8⟩ := hp8
  replace hq8 : sz8 = sz := hq8
  subst sz8
  replace hs8 : st8 = [.int (g2 (3 : Int32).toNatClampNeg)] := hs8
  subst st8
  refine z_top (st1 := [.int 3]) (by rw [show g2 ((3 : Int32).toNatClampNeg) = 3 from hg3]) ?_
  refine z_istore (lv' := [(4, .int 3), (3, .int 3), (0, .ref h), (1, .ref h2), (2, .int 479)]) B dX10_copyFrom_19 (Nat.le_of_ble_eq_true rfl) rfl ?_
  refine z_iload_n B dX10_copyFrom_21 rfl 4 rfl ?_
  refine z_iload B dX10_copyFrom_22 0 rfl ?_
  refine z_ishr B dX10_copyFrom_24 ?_
  refine z_top (st1 := [.int 59]) (congrArg (fun w9 : Int32 => ([.int w9] : List Value)) (show ((479 : Int32) >>> ((3 : Int32) &&& (31 : Int32)) : Int32) = 59 by decide +kernel)) ?_
  refine z_iconst (v := 1) B dX10_copyFrom_25 rfl ?_
  refine z_iand B dX10_copyFrom_26 ?_
  refine z_top (st1 := [.int 1]) (congrArg (fun w9 : Int32 => ([.int w9] : List Value)) (show (59 &&& 1 : Int32) = 1 by decide +kernel)) ?_
  refine z_iconst (v := 1) B dX10_copyFrom_27 rfl ?_
  refine z_icmp_ne (tgt := 37) B dX10_copyFrom_28 rfl (fun h9 => absurd (by decide) h9) (fun c_8 => ?_)
  refine z_aload_n B dX10_copyFrom_31 rfl 2 rfl ?_
  refine z_iload B dX10_copyFrom_32 0 rfl ?_
  have h_29 : Φ8 h = some (o_ 12 [.ref f, .int 3, .int 7, .int 4]) := ((fr8 h).trans h_26)
  have h_30 : Φ8 f = some (ai_ G 9 (upd (upd (upd g (0 : Int32).toNatClampNeg 0) (1 : Int32).toNatClampNeg 1) (2 : Int32).toNatClampNeg 2)) := ((fr8 f).trans h_25)
  refine z_callV (As := [.int 3]) (rest := []) B (c_X10_addField G l Φ8 sz h f 3 7 4 (upd (upd (upd g (0 : Int32).toNatClampNeg 0) (1 : Int32).toNatClampNeg 1) (2 : Int32).toNatClampNeg 2) 3 h_29 h_30 hne_h_f hna_h hna_f (by decide) (by decide) (by decide) (by decide) (vin rfl) (vin rfl)) (cwV 1 B.1.2.2.2.2 gX10_copyFrom_X10_addField rfl rfl rfl (by decide +kernel) ⟨Nat.le_of_ble_eq_true rfl, Nat.le_of_ble_eq_true rfl⟩) h_29 rfl rfl rfl rfl (Nat.le_of_ble_eq_true rfl) dX10_copyFrom_34 ⟨Nat.le_of_ble_eq_true rfl, Nat.le_of_ble_eq_true rfl⟩ (fun v9 Φ9 sz9 st9 hp9 hs9 => ?_)
  obtain ⟨rfl, hq9, fr9, h_31, h_32⟩ := hp9
  replace hq9 : sz9 = sz := hq9
  subst sz9
  replace hs9 : st9 = [] := hs9
  subst st9
  have h_33 : Φ9 f = some (ai_ G 9 (upd (upd (upd (upd g (0 : Int32).toNatClampNeg 0) (1 : Int32).toNatClampNeg 1) (2 : Int32).toNatClampNeg 2) (3 : Int32).toNatClampNeg 3)) := h_31
  have h_34 : Φ9 h = some (o_ 12 [.ref f, .int 4, .int 15, .int 5]) := h_32
  refine z_iinc (k := 1) (v := 4) (lv' := [(3, .int 4), (4, .int 3), (0, .ref h), (1, .ref h2), (2, .int 479)]) B dX10_copyFrom_37 rfl rfl (Nat.le_of_ble_eq_true rfl) rfl ?_
  refine z_goto (tgt := 6) B dX10_copyFrom_40 rfl ?_
  refine z_iload_n B dX10_copyFrom_6 rfl 0 rfl ?_
  refine z_aload_n B dX10_copyFrom_7 rfl 3 rfl ?_
  have h_35 : Φ9 h2 = some (o_ 12 [.ref f2, .int 9, .int b2, .int d2]) := ((fr9 h2 hne_h2_f (Ne.symm hne_h_h2)).trans ((fr8 h2).trans h_27))
  refine z_get (ref := "FlowExporter$Template") (C := RX10) (T := TX10) (N := 4) (ci := 12) (v := .int 9) B (by decide +kernel) rfl 1 (by decide) (by decide +kernel) rfl h_35 rfl dX10_copyFrom_8 ?_
  refine z_icmp_ge (tgt := 43) B dX10_copyFrom_11 rfl (fun h9 => absurd h9 (by decide)) (fun c_9 => ?_)
  refine z_aload_n B dX10_copyFrom_14 rfl 3 rfl ?_
  refine z_iload_n B dX10_copyFrom_15 rfl 0 rfl ?_
  have h_36 : Φ9 f2 = some (ai_ G 9 g2) := ((fr9 f2 (Ne.symm hne_f_f2) (Ne.symm hne_h_f2)).trans ((fr8 f2).trans h_28))
  refine z_callV (As := [.int 4]) (rest := []) B (c_X10_field G l Φ9 sz h2 f2 9 b2 d2 g2 4 h_35 h_36 (by decide) (by decide) (vin rfl)) (cwV 1 B.1.2.2.2.2 gX10_copyFrom_X10_field rfl rfl rfl (by decide +kernel) ⟨Nat.le_of_ble_eq_true rfl, Nat.le_of_ble_eq_true rfl⟩) h_35 rfl rfl rfl rfl (Nat.le_of_ble_eq_true rfl) dX10_copyFrom_16 ⟨Nat.le_of_ble_eq_true rfl, Nat.le_of_ble_eq_true rfl⟩ (fun v10 Φ10 sz10 st10 hp10 hs10 => ?_)
  obtain ⟨rfl, hq10, fr10⟩ := hp10
  replace hq10 : sz10 = sz := hq10
  subst sz10
  replace hs10 : st10 = [.int (g2 (4 : Int32).toNatClampNeg)] := hs10
  subst st10
  refine z_top (st1 := [.int 4]) (by rw [show g2 ((4 : Int32).toNatClampNeg) = 4 from hg4]) ?_
  refine z_istore (lv' := [(4, .int 4), (3, .int 4), (0, .ref h), (1, .ref h2), (2, .int 479)]) B dX10_copyFrom_19 (Nat.le_of_ble_eq_true rfl) rfl ?_
  refine z_iload_n B dX10_copyFrom_21 rfl 4 rfl ?_
  refine z_iload B dX10_copyFrom_22 0 rfl ?_
  refine z_ishr B dX10_copyFrom_24 ?_
  refine z_top (st1 := [.int 29]) (congrArg (fun w9 : Int32 => ([.int w9] : List Value)) (show ((479 : Int32) >>> ((4 : Int32) &&& (31 : Int32)) : Int32) = 29 by decide +kernel)) ?_
  refine z_iconst (v := 1) B dX10_copyFrom_25 rfl ?_
  refine z_iand B dX10_copyFrom_26 ?_
  refine z_top (st1 := [.int 1]) (congrArg (fun w9 : Int32 => ([.int w9] : List Value)) (show (29 &&& 1 : Int32) = 1 by decide +kernel)) ?_
  refine z_iconst (v := 1) B dX10_copyFrom_27 rfl ?_
  refine z_icmp_ne (tgt := 37) B dX10_copyFrom_28 rfl (fun h9 => absurd (by decide) h9) (fun c_10 => ?_)
  refine z_aload_n B dX10_copyFrom_31 rfl 2 rfl ?_
  refine z_iload B dX10_copyFrom_32 0 rfl ?_
  have h_37 : Φ10 h = some (o_ 12 [.ref f, .int 4, .int 15, .int 5]) := ((fr10 h).trans h_34)
  have h_38 : Φ10 f = some (ai_ G 9 (upd (upd (upd (upd g (0 : Int32).toNatClampNeg 0) (1 : Int32).toNatClampNeg 1) (2 : Int32).toNatClampNeg 2) (3 : Int32).toNatClampNeg 3)) := ((fr10 f).trans h_33)
  refine z_callV (As := [.int 4]) (rest := []) B (c_X10_addField G l Φ10 sz h f 4 15 5 (upd (upd (upd (upd g (0 : Int32).toNatClampNeg 0) (1 : Int32).toNatClampNeg 1) (2 : Int32).toNatClampNeg 2) (3 : Int32).toNatClampNeg 3) 4 h_37 h_38 hne_h_f hna_h hna_f (by decide) (by decide) (by decide) (by decide) (vin rfl) (vin rfl)) (cwV 1 B.1.2.2.2.2 gX10_copyFrom_X10_addField rfl rfl rfl (by decide +kernel) ⟨Nat.le_of_ble_eq_true rfl, Nat.le_of_ble_eq_true rfl⟩) h_37 rfl rfl rfl rfl (Nat.le_of_ble_eq_true rfl) dX10_copyFrom_34 ⟨Nat.le_of_ble_eq_true rfl, Nat.le_of_ble_eq_true rfl⟩ (fun v11 Φ11 sz11 st11 hp11 hs11 => ?_)
  obtain ⟨rfl, hq11, fr11, h_39, h_40⟩ := hp11
  replace hq11 : sz11 = sz := hq11
  subst sz11
  replace hs11 : st11 = [] := hs11
  subst st11
  have h_41 : Φ11 f = some (ai_ G 9 (upd (upd (upd (upd (upd g (0 : Int32).toNatClampNeg 0) (1 : Int32).toNatClampNeg 1) (2 : Int32).toNatClampNeg 2) (3 : Int32).toNatClampNeg 3) (4 : Int32).toNatClampNeg 4)) := h_39
  have h_42 : Φ11 h = some (o_ 12 [.ref f, .int 5, .int 31, .int 9]) := h_40
  refine z_iinc (k := 1) (v := 5) (lv' := [(3, .int 5), (4, .int 4), (0, .ref h), (1, .ref h2), (2, .int 479)]) B dX10_copyFrom_37 rfl rfl (Nat.le_of_ble_eq_true rfl) rfl ?_
  refine z_goto (tgt := 6) B dX10_copyFrom_40 rfl ?_
  refine z_iload_n B dX10_copyFrom_6 rfl 0 rfl ?_
  refine z_aload_n B dX10_copyFrom_7 rfl 3 rfl ?_
  have h_43 : Φ11 h2 = some (o_ 12 [.ref f2, .int 9, .int b2, .int d2]) := ((fr11 h2 hne_h2_f (Ne.symm hne_h_h2)).trans ((fr10 h2).trans h_35))
  refine z_get (ref := "FlowExporter$Template") (C := RX10) (T := TX10) (N := 4) (ci := 12) (v := .int 9) B (by decide +kernel) rfl 1 (by decide) (by decide +kernel) rfl h_43 rfl dX10_copyFrom_8 ?_
  refine z_icmp_ge (tgt := 43) B dX10_copyFrom_11 rfl (fun h9 => absurd h9 (by decide)) (fun c_11 => ?_)
  refine z_aload_n B dX10_copyFrom_14 rfl 3 rfl ?_
  refine z_iload_n B dX10_copyFrom_15 rfl 0 rfl ?_
  have h_44 : Φ11 f2 = some (ai_ G 9 g2) := ((fr11 f2 (Ne.symm hne_f_f2) (Ne.symm hne_h_f2)).trans ((fr10 f2).trans h_36))
  refine z_callV (As := [.int 5]) (rest := []) B (c_X10_field G l Φ11 sz h2 f2 9 b2 d2 g2 5 h_43 h_44 (by decide) (by decide) (vin rfl)) (cwV 1 B.1.2.2.2.2 gX10_copyFrom_X10_field rfl rfl rfl (by decide +kernel) ⟨Nat.le_of_ble_eq_true rfl, Nat.le_of_ble_eq_true rfl⟩) h_43 rfl rfl rfl rfl (Nat.le_of_ble_eq_true rfl) dX10_copyFrom_16 ⟨Nat.le_of_ble_eq_true rfl, Nat.le_of_ble_eq_true rfl⟩ (fun v12 Φ12 sz12 st12 hp12 hs12 => ?_)
  obtain ⟨rfl, hq12, fr12⟩ := hp12
  replace hq12 : sz12 = sz := hq12
  subst sz12
  replace hs12 : st12 = [.int (g2 (5 : Int32).toNatClampNeg)] := hs12
  subst st12
  refine z_top (st1 := [.int 5]) (by rw [show g2 ((5 : Int32).toNatClampNeg) = 5 from hg5]) ?_
  refine z_istore (lv' := [(4, .int 5), (3, .int 5), (0, .ref h), (1, .ref h2), (2, .int 479)]) B dX10_copyFrom_19 (Nat.le_of_ble_eq_true rfl) rfl ?_
  refine z_iload_n B dX10_copyFrom_21 rfl 4 rfl ?_
  refine z_iload B dX10_copyFrom_22 0 rfl ?_
  refine z_ishr B dX10_copyFrom_24 ?_
  refine z_top (st1 := [.int 14]) (congrArg (fun w9 : Int32 => ([.int w9] : List Value)) (show ((479 : Int32) >>> ((5 : Int32) &&& (31 : Int32)) : Int32) = 14 by decide +kernel)) ?_
  refine z_iconst (v := 1) B dX10_copyFrom_25 rfl ?_
  refine z_iand B dX10_copyFrom_26 ?_
  refine z_top (st1 := [.int 0]) (congrArg (fun w9 : Int32 => ([.int w9] : List Value)) (show (14 &&& 1 : Int32) = 0 by decide +kernel)) ?_
  refine z_iconst (v := 1) B dX10_copyFrom_27 rfl ?_
  refine z_icmp_ne (tgt := 37) B dX10_copyFrom_28 rfl (fun c_12 => ?_) (fun h9 => absurd h9 (by decide))
  refine z_iinc (k := 1) (v := 6) (lv' := [(3, .int 6), (4, .int 5), (0, .ref h), (1, .ref h2), (2, .int 479)]) B dX10_copyFrom_37 rfl rfl (Nat.le_of_ble_eq_true rfl) rfl ?_
  refine z_goto (tgt := 6) B dX10_copyFrom_40 rfl ?_
  refine z_iload_n B dX10_copyFrom_6 rfl 0 rfl ?_
  refine z_aload_n B dX10_copyFrom_7 rfl 3 rfl ?_
  have h_45 : Φ12 h2 = some (o_ 12 [.ref f2, .int 9, .int b2, .int d2]) := ((fr12 h2).trans h_43)
  refine z_get (ref := "FlowExporter$Template") (C := RX10) (T := TX10) (N := 4) (ci := 12) (v := .int 9) B (by decide +kernel) rfl 1 (by decide) (by decide +kernel) rfl h_45 rfl dX10_copyFrom_8 ?_
  refine z_icmp_ge (tgt := 43) B dX10_copyFrom_11 rfl (fun h9 => absurd h9 (by decide)) (fun c_13 => ?_)
  refine z_aload_n B dX10_copyFrom_14 rfl 3 rfl ?_
  refine z_iload_n B dX10_copyFrom_15 rfl 0 rfl ?_
  have h_46 : Φ12 f2 = some (ai_ G 9 g2) := ((fr12 f2).trans h_44)
  refine z_callV (As := [.int 6]) (rest := []) B (c_X10_field G l Φ12 sz h2 f2 9 b2 d2 g2 6 h_45 h_46 (by decide) (by decide) (vin rfl)) (cwV 1 B.1.2.2.2.2 gX10_copyFrom_X10_field rfl rfl rfl (by decide +kernel) ⟨Nat.le_of_ble_eq_true rfl, Nat.le_of_ble_eq_true rfl⟩) h_45 rfl rfl rfl rfl (Nat.le_of_ble_eq_true rfl) dX10_copyFrom_16 ⟨Nat.le_of_ble_eq_true rfl, Nat.le_of_ble_eq_true rfl⟩ (fun v13 Φ13 sz13 st13 hp13 hs13 => ?_)
  obtain ⟨rfl, hq13, fr13⟩ := hp13
  replace hq13 : sz13 = sz := hq13
  subst sz13
  replace hs13 : st13 = [.int (g2 (6 : Int32).toNatClampNeg)] := hs13
  subst st13
  refine z_top (st1 := [.int 6]) (by rw [show g2 ((6 : Int32).toNatClampNeg) = 6 from hg6]) ?_
  refine z_istore (lv' := [(4, .int 6), (3, .int 6), (0, .ref h), (1, .ref h2), (2, .int 479)]) B dX10_copyFrom_19 (Nat.le_of_ble_eq_true rfl) rfl ?_
  refine z_iload_n B dX10_copyFrom_21 rfl 4 rfl ?_
  refine z_iload B dX10_copyFrom_22 0 rfl ?_
  refine z_ishr B dX10_copyFrom_24 ?_
  refine z_top (st1 := [.int 7]) (congrArg (fun w9 : Int32 => ([.int w9] : List Value)) (show ((479 : Int32) >>> ((6 : Int32) &&& (31 : Int32)) : Int32) = 7 by decide +kernel)) ?_
  refine z_iconst (v := 1) B dX10_copyFrom_25 rfl ?_
  refine z_iand B dX10_copyFrom_26 ?_
  refine z_top (st1 := [.int 1]) (congrArg (fun w9 : Int32 => ([.int w9] : List Value)) (show (7 &&& 1 : Int32) = 1 by decide +kernel)) ?_
  refine z_iconst (v := 1) B dX10_copyFrom_27 rfl ?_
  refine z_icmp_ne (tgt := 37) B dX10_copyFrom_28 rfl (fun h9 => absurd (by decide) h9) (fun c_14 => ?_)
  refine z_aload_n B dX10_copyFrom_31 rfl 2 rfl ?_
  refine z_iload B dX10_copyFrom_32 0 rfl ?_
  have h_47 : Φ13 h = some (o_ 12 [.ref f, .int 5, .int 31, .int 9]) := ((fr13 h).trans ((fr12 h).trans h_42))
  have h_48 : Φ13 f = some (ai_ G 9 (upd (upd (upd (upd (upd g (0 : Int32).toNatClampNeg 0) (1 : Int32).toNatClampNeg 1) (2 : Int32).toNatClampNeg 2) (3 : Int32).toNatClampNeg 3) (4 : Int32).toNatClampNeg 4)) := ((fr13 f).trans ((fr12 f).trans h_41))
  refine z_callV (As := [.int 6]) (rest := []) B (c_X10_addField G l Φ13 sz h f 5 31 9 (upd (upd (upd (upd (upd g (0 : Int32).toNatClampNeg 0) (1 : Int32).toNatClampNeg 1) (2 : Int32).toNatClampNeg 2) (3 : Int32).toNatClampNeg 3) (4 : Int32).toNatClampNeg 4) 6 h_47 h_48 hne_h_f hna_h hna_f (by decide) (by decide) (by decide) (by decide) (vin rfl) (vin rfl)) (cwV 1 B.1.2.2.2.2 gX10_copyFrom_X10_addField rfl rfl rfl (by decide +kernel) ⟨Nat.le_of_ble_eq_true rfl, Nat.le_of_ble_eq_true rfl⟩) h_47 rfl rfl rfl rfl (Nat.le_of_ble_eq_true rfl) dX10_copyFrom_34 ⟨Nat.le_of_ble_eq_true rfl, Nat.le_of_ble_eq_true rfl⟩ (fun v14 Φ14 sz14 st14 hp14 hs14 => ?_)
  obtain ⟨rfl, hq14, fr14, h_49, h_50⟩ := hp14
  replace hq14 : sz14 = sz := hq14
  subst sz14
  replace hs14 : st14 = [] := hs14
  subst st14
  have h_51 : Φ14 f = some (ai_ G 9 (upd (upd (upd (upd (upd (upd g (0 : Int32).toNatClampNeg 0) (1 : Int32).toNatClampNeg 1) (2 : Int32).toNatClampNeg 2) (3 : Int32).toNatClampNeg 3) (4 : Int32).toNatClampNeg 4) (5 : Int32).toNatClampNeg 6)) := h_49
  have h_52 : Φ14 h = some (o_ 12 [.ref f, .int 6, .int 95, .int 13]) := h_50
  refine z_iinc (k := 1) (v := 7) (lv' := [(3, .int 7), (4, .int 6), (0, .ref h), (1, .ref h2), (2, .int 479)]) B dX10_copyFrom_37 rfl rfl (Nat.le_of_ble_eq_true rfl) rfl ?_
  refine z_goto (tgt := 6) B dX10_copyFrom_40 rfl ?_
  refine z_iload_n B dX10_copyFrom_6 rfl 0 rfl ?_
  refine z_aload_n B dX10_copyFrom_7 rfl 3 rfl ?_
  have h_53 : Φ14 h2 = some (o_ 12 [.ref f2, .int 9, .int b2, .int d2]) := ((fr14 h2 hne_h2_f (Ne.symm hne_h_h2)).trans ((fr13 h2).trans h_45))
  refine z_get (ref := "FlowExporter$Template") (C := RX10) (T := TX10) (N := 4) (ci := 12) (v := .int 9) B (by decide +kernel) rfl 1 (by decide) (by decide +kernel) rfl h_53 rfl dX10_copyFrom_8 ?_
  refine z_icmp_ge (tgt := 43) B dX10_copyFrom_11 rfl (fun h9 => absurd h9 (by decide)) (fun c_15 => ?_)
  refine z_aload_n B dX10_copyFrom_14 rfl 3 rfl ?_
  refine z_iload_n B dX10_copyFrom_15 rfl 0 rfl ?_
  have h_54 : Φ14 f2 = some (ai_ G 9 g2) := ((fr14 f2 (Ne.symm hne_f_f2) (Ne.symm hne_h_f2)).trans ((fr13 f2).trans h_46))
  refine z_callV (As := [.int 7]) (rest := []) B (c_X10_field G l Φ14 sz h2 f2 9 b2 d2 g2 7 h_53 h_54 (by decide) (by decide) (vin rfl)) (cwV 1 B.1.2.2.2.2 gX10_copyFrom_X10_field rfl rfl rfl (by decide +kernel) ⟨Nat.le_of_ble_eq_true rfl, Nat.le_of_ble_eq_true rfl⟩) h_53 rfl rfl rfl rfl (Nat.le_of_ble_eq_true rfl) dX10_copyFrom_16 ⟨Nat.le_of_ble_eq_true rfl, Nat.le_of_ble_eq_true rfl⟩ (fun v15 Φ15 sz15 st15 hp15 hs15 => ?_)
  obtain ⟨rfl, hq15, fr15⟩ := hp15
  replace hq15 : sz15 = sz := hq15
  subst sz15
  replace hs15 : st15 = [.int (g2 (7 : Int32).toNatClampNeg)] := hs15
  subst st15
  refine z_top (st1 := [.int 7]) (by rw [show g2 ((7 : Int32).toNatClampNeg) = 7 from hg7]) ?_
  refine z_istore (lv' := [(4, .int 7), (3, .int 7), (0, .ref h), (1, .ref h2), (2, .int 479)]) B dX10_copyFrom_19 (Nat.le_of_ble_eq_true rfl) rfl ?_
  refine z_iload_n B dX10_copyFrom_21 rfl 4 rfl ?_
  refine z_iload B dX10_copyFrom_22 0 rfl ?_
  refine z_ishr B dX10_copyFrom_24 ?_
  refine z_top (st1 := [.int 3]) (congrArg (fun w9 : Int32 => ([.int w9] : List Value)) (show ((479 : Int32) >>> ((7 : Int32) &&& (31 : Int32)) : Int32) = 3 by decide +kernel)) ?_
  refine z_iconst (v := 1) B dX10_copyFrom_25 rfl ?_
  refine z_iand B dX10_copyFrom_26 ?_
  refine z_top (st1 := [.int 1]) (congrArg (fun w9 : Int32 => ([.int w9] : List Value)) (show (3 &&& 1 : Int32) = 1 by decide +kernel)) ?_
  refine z_iconst (v := 1) B dX10_copyFrom_27 rfl ?_
  refine z_icmp_ne (tgt := 37) B dX10_copyFrom_28 rfl (fun h9 => absurd (by decide) h9) (fun c_16 => ?_)
  refine z_aload_n B dX10_copyFrom_31 rfl 2 rfl ?_
  refine z_iload B dX10_copyFrom_32 0 rfl ?_
  have h_55 : Φ15 h = some (o_ 12 [.ref f, .int 6, .int 95, .int 13]) := ((fr15 h).trans h_52)
  have h_56 : Φ15 f = some (ai_ G 9 (upd (upd (upd (upd (upd (upd g (0 : Int32).toNatClampNeg 0) (1 : Int32).toNatClampNeg 1) (2 : Int32).toNatClampNeg 2) (3 : Int32).toNatClampNeg 3) (4 : Int32).toNatClampNeg 4) (5 : Int32).toNatClampNeg 6)) := ((fr15 f).trans h_51)
  refine z_callV (As := [.int 7]) (rest := []) B (c_X10_addField G l Φ15 sz h f 6 95 13 (upd (upd (upd (upd (upd (upd g (0 : Int32).toNatClampNeg 0) (1 : Int32).toNatClampNeg 1) (2 : Int32).toNatClampNeg 2) (3 : Int32).toNatClampNeg 3) (4 : Int32).toNatClampNeg 4) (5 : Int32).toNatClampNeg 6) 7 h_55 h_56 hne_h_f hna_h hna_f (by decide) (by decide) (by decide) (by decide) (vin rfl) (vin rfl)) (cwV 1 B.1.2.2.2.2 gX10_copyFrom_X10_addField rfl rfl rfl (by decide +kernel) ⟨Nat.le_of_ble_eq_true rfl, Nat.le_of_ble_eq_true rfl⟩) h_55 rfl rfl rfl rfl (Nat.le_of_ble_eq_true rfl) dX10_copyFrom_34 ⟨Nat.le_of_ble_eq_true rfl, Nat.le_of_ble_eq_true rfl⟩ (fun v16 Φ16 sz16 st16 hp16 hs16 => ?_)
  obtain ⟨rfl, hq16, fr16, h_57, h_58⟩ := hp16
  replace hq16 : sz16 = sz := hq16
  subst sz16
  replace hs16 : st16 = [] := hs16
  subst st16
  have h_59 : Φ16 f = some (ai_ G 9 (upd (upd (upd (upd (upd (upd (upd g (0 : Int32).toNatClampNeg 0) (1 : Int32).toNatClampNeg 1) (2 : Int32).toNatClampNeg 2) (3 : Int32).toNatClampNeg 3) (4 : Int32).toNatClampNeg 4) (5 : Int32).toNatClampNeg 6) (6 : Int32).toNatClampNeg 7)) := h_57
  have h_60 : Φ16 h = some (o_ 12 [.ref f, .int 7, .int 223, .int 17]) := h_58
  refine z_iinc (k := 1) (v := 8) (lv' := [(3, .int 8), (4, .int 7), (0, .ref h), (1, .ref h2), (2, .int 479)]) B dX10_copyFrom_37 rfl rfl (Nat.le_of_ble_eq_true rfl) rfl ?_
  refine z_goto (tgt := 6) B dX10_copyFrom_40 rfl ?_
  refine z_iload_n B dX10_copyFrom_6 rfl 0 rfl ?_
  refine z_aload_n B dX10_copyFrom_7 rfl 3 rfl ?_
  have h_61 : Φ16 h2 = some (o_ 12 [.ref f2, .int 9, .int b2, .int d2]) := ((fr16 h2 hne_h2_f (Ne.symm hne_h_h2)).trans ((fr15 h2).trans h_53))
  refine z_get (ref := "FlowExporter$Template") (C := RX10) (T := TX10) (N := 4) (ci := 12) (v := .int 9) B (by decide +kernel) rfl 1 (by decide) (by decide +kernel) rfl h_61 rfl dX10_copyFrom_8 ?_
  refine z_icmp_ge (tgt := 43) B dX10_copyFrom_11 rfl (fun h9 => absurd h9 (by decide)) (fun c_17 => ?_)
  refine z_aload_n B dX10_copyFrom_14 rfl 3 rfl ?_
  refine z_iload_n B dX10_copyFrom_15 rfl 0 rfl ?_
  have h_62 : Φ16 f2 = some (ai_ G 9 g2) := ((fr16 f2 (Ne.symm hne_f_f2) (Ne.symm hne_h_f2)).trans ((fr15 f2).trans h_54))
  refine z_callV (As := [.int 8]) (rest := []) B (c_X10_field G l Φ16 sz h2 f2 9 b2 d2 g2 8 h_61 h_62 (by decide) (by decide) (vin rfl)) (cwV 1 B.1.2.2.2.2 gX10_copyFrom_X10_field rfl rfl rfl (by decide +kernel) ⟨Nat.le_of_ble_eq_true rfl, Nat.le_of_ble_eq_true rfl⟩) h_61 rfl rfl rfl rfl (Nat.le_of_ble_eq_true rfl) dX10_copyFrom_16 ⟨Nat.le_of_ble_eq_true rfl, Nat.le_of_ble_eq_true rfl⟩ (fun v17 Φ17 sz17 st17 hp17 hs17 => ?_)
  obtain ⟨rfl, hq17, fr17⟩ := hp17
  replace hq17 : sz17 = sz := hq17
  subst sz17
  replace hs17 : st17 = [.int (g2 (8 : Int32).toNatClampNeg)] := hs17
  subst st17
  refine z_top (st1 := [.int 8]) (by rw [show g2 ((8 : Int32).toNatClampNeg) = 8 from hg8]) ?_
  refine z_istore (lv' := [(4, .int 8), (3, .int 8), (0, .ref h), (1, .ref h2), (2, .int 479)]) B dX10_copyFrom_19 (Nat.le_of_ble_eq_true rfl) rfl ?_
  refine z_iload_n B dX10_copyFrom_21 rfl 4 rfl ?_
  refine z_iload B dX10_copyFrom_22 0 rfl ?_
  refine z_ishr B dX10_copyFrom_24 ?_
  refine z_top (st1 := [.int 1]) (congrArg (fun w9 : Int32 => ([.int w9] : List Value)) (show ((479 : Int32) >>> ((8 : Int32) &&& (31 : Int32)) : Int32) = 1 by decide +kernel)) ?_
  refine z_iconst (v := 1) B dX10_copyFrom_25 rfl ?_
  refine z_iand B dX10_copyFrom_26 ?_
  refine z_top (st1 := [.int 1]) (congrArg (fun w9 : Int32 => ([.int w9] : List Value)) (show (1 &&& 1 : Int32) = 1 by decide +kernel)) ?_
  refine z_iconst (v := 1) B dX10_copyFrom_27 rfl ?_
  refine z_icmp_ne (tgt := 37) B dX10_copyFrom_28 rfl (fun h9 => absurd (by decide) h9) (fun c_18 => ?_)
  refine z_aload_n B dX10_copyFrom_31 rfl 2 rfl ?_
  refine z_iload B dX10_copyFrom_32 0 rfl ?_
  have h_63 : Φ17 h = some (o_ 12 [.ref f, .int 7, .int 223, .int 17]) := ((fr17 h).trans h_60)
  have h_64 : Φ17 f = some (ai_ G 9 (upd (upd (upd (upd (upd (upd (upd g (0 : Int32).toNatClampNeg 0) (1 : Int32).toNatClampNeg 1) (2 : Int32).toNatClampNeg 2) (3 : Int32).toNatClampNeg 3) (4 : Int32).toNatClampNeg 4) (5 : Int32).toNatClampNeg 6) (6 : Int32).toNatClampNeg 7)) := ((fr17 f).trans h_59)
  refine z_callV (As := [.int 8]) (rest := []) B (c_X10_addField G l Φ17 sz h f 7 223 17 (upd (upd (upd (upd (upd (upd (upd g (0 : Int32).toNatClampNeg 0) (1 : Int32).toNatClampNeg 1) (2 : Int32).toNatClampNeg 2) (3 : Int32).toNatClampNeg 3) (4 : Int32).toNatClampNeg 4) (5 : Int32).toNatClampNeg 6) (6 : Int32).toNatClampNeg 7) 8 h_63 h_64 hne_h_f hna_h hna_f (by decide) (by decide) (by decide) (by decide) (vin rfl) (vin rfl)) (cwV 1 B.1.2.2.2.2 gX10_copyFrom_X10_addField rfl rfl rfl (by decide +kernel) ⟨Nat.le_of_ble_eq_true rfl, Nat.le_of_ble_eq_true rfl⟩) h_63 rfl rfl rfl rfl (Nat.le_of_ble_eq_true rfl) dX10_copyFrom_34 ⟨Nat.le_of_ble_eq_true rfl, Nat.le_of_ble_eq_true rfl⟩ (fun v18 Φ18 sz18 st18 hp18 hs18 => ?_)
  obtain ⟨rfl, hq18, fr18, h_65, h_66⟩ := hp18
  replace hq18 : sz18 = sz := hq18
  subst sz18
  replace hs18 : st18 = [] := hs18
  subst st18
  have h_67 : Φ18 f = some (ai_ G 9 (upd (upd (upd (upd (upd (upd (upd (upd g (0 : Int32).toNatClampNeg 0) (1 : Int32).toNatClampNeg 1) (2 : Int32).toNatClampNeg 2) (3 : Int32).toNatClampNeg 3) (4 : Int32).toNatClampNeg 4) (5 : Int32).toNatClampNeg 6) (6 : Int32).toNatClampNeg 7) (7 : Int32).toNatClampNeg 8)) := h_65
  have h_68 : Φ18 h = some (o_ 12 [.ref f, .int 8, .int 479, .int 21]) := h_66
  refine z_iinc (k := 1) (v := 9) (lv' := [(3, .int 9), (4, .int 8), (0, .ref h), (1, .ref h2), (2, .int 479)]) B dX10_copyFrom_37 rfl rfl (Nat.le_of_ble_eq_true rfl) rfl ?_
  refine z_goto (tgt := 6) B dX10_copyFrom_40 rfl ?_
  refine z_iload_n B dX10_copyFrom_6 rfl 0 rfl ?_
  refine z_aload_n B dX10_copyFrom_7 rfl 3 rfl ?_
  have h_69 : Φ18 h2 = some (o_ 12 [.ref f2, .int 9, .int b2, .int d2]) := ((fr18 h2 hne_h2_f (Ne.symm hne_h_h2)).trans ((fr17 h2).trans h_61))
  refine z_get (ref := "FlowExporter$Template") (C := RX10) (T := TX10) (N := 4) (ci := 12) (v := .int 9) B (by decide +kernel) rfl 1 (by decide) (by decide +kernel) rfl h_69 rfl dX10_copyFrom_8 ?_
  refine z_icmp_ge (tgt := 43) B dX10_copyFrom_11 rfl (fun c_19 => ?_) (fun h9 => absurd (by decide) h9)
  exact z_ret_v B dX10_copyFrom_43 ⟨rfl, rfl, (fun b9 h9a h9b => ((fr18 b9 h9a h9b).trans ((fr17 b9).trans ((fr16 b9 h9a h9b).trans ((fr15 b9).trans ((fr14 b9 h9a h9b).trans ((fr13 b9).trans ((fr12 b9).trans ((fr11 b9 h9a h9b).trans ((fr10 b9).trans ((fr9 b9 h9a h9b).trans ((fr8 b9).trans ((fr7 b9 h9a h9b).trans ((fr6 b9).trans ((fr5 b9 h9a h9b).trans ((fr4 b9).trans ((fr3 b9 h9a h9b).trans ((fr2 b9).trans ((fr1 b9 h9b).trans rfl))))))))))))))))))), h_67, h_68⟩

set_option maxHeartbeats 4000000 in
set_option maxRecDepth 100000 in
theorem c_X10_copyFrom_z5 (G : EnvG) (l : Launch) (Φ : Hm) (sz : Nat) (h : Nat) (f : Nat) (a : Int32) (b : Int32) (d : Int32) (h2 : Nat) (f2 : Nat) (b2 : Int32) (d2 : Int32) (hc0 : Φ h = some (o_ 12 [.ref f, .int a, .int b, .int d])) (hc1 : Φ h2 = some (o_ 12 [.ref f2, .int 0, .int b2, .int d2])) (hne_h_h2 : h ≠ h2) (hna_h : G.2.2.2 ≤ h) : Ct G l yX10_copyFrom wsX10_copyFrom ({ frames := 1, cells := 0, slots := 0, locals := 20 }) 0 0 [.ref h, .ref h2, .int 479] Φ sz (fun v Φ1 sz1 => v = none ∧ sz1 = sz ∧ (∀ b9 : Nat, b9 ≠ h → Φ1 b9 = Φ b9) ∧ Φ1 h = some (o_ 12 [.ref f, .int 0, .int 0, .int 0])) := by
  refine Ct.of (cc := cX10_copyFrom) (maxL := 5) (ret := none) (by decide) rfl (Nat.le_of_ble_eq_true rfl) ?_
  intro p9 e9 s9 m9 w9 t9 k9 B
  show Z p9 l e9 _ s9 m9 _ w9 t9 k9 _ G 5 0 [(0, .ref h), (1, .ref h2), (2, .int 479)] [] Φ (sz) 0 0
  refine z_aload_n B dX10_copyFrom_0 rfl 0 rfl ?_
  refine z_callV (As := []) (rest := []) B (c_X10_clear G l Φ sz h f a b d hc0 hna_h) (cwV 0 B.1.2.2.2.2 gX10_copyFrom_X10_clear rfl rfl rfl (by decide +kernel) ⟨Nat.le_of_ble_eq_true rfl, Nat.le_of_ble_eq_true rfl⟩) hc0 rfl rfl rfl rfl (Nat.le_of_ble_eq_true rfl) dX10_copyFrom_1 ⟨Nat.le_of_ble_eq_true rfl, Nat.le_of_ble_eq_true rfl⟩ (fun v1 Φ1 sz1 st1 hp1 hs1 => ?_)
  obtain ⟨rfl, hq1, fr1, h_1⟩ := hp1
  replace hq1 : sz1 = sz := hq1
  subst sz1
  replace hs1 : st1 = [] := hs1
  subst st1
  have h_2 : Φ1 h = some (o_ 12 [.ref f, .int 0, .int 0, .int 0]) := h_1
  refine z_iconst (v := 0) B dX10_copyFrom_4 rfl ?_
  refine z_istore_n (lv' := [(3, .int 0), (0, .ref h), (1, .ref h2), (2, .int 479)]) B dX10_copyFrom_5 rfl (Nat.le_of_ble_eq_true rfl) rfl ?_
  refine z_iload_n B dX10_copyFrom_6 rfl 0 rfl ?_
  refine z_aload_n B dX10_copyFrom_7 rfl 2 rfl ?_
  have h_3 : Φ1 h2 = some (o_ 12 [.ref f2, .int 0, .int b2, .int d2]) := ((fr1 h2 (Ne.symm hne_h_h2)).trans hc1)
  refine z_get (ref := "FlowExporter$Template") (C := RX10) (T := TX10) (N := 4) (ci := 12) (v := .int 0) B (by decide +kernel) rfl 1 (by decide) (by decide +kernel) rfl h_3 rfl dX10_copyFrom_8 ?_
  refine z_icmp_ge (tgt := 43) B dX10_copyFrom_11 rfl (fun c_1 => ?_) (fun h9 => absurd (by decide) h9)
  exact z_ret_v B dX10_copyFrom_43 ⟨rfl, rfl, (fun b9 h9a => ((fr1 b9 h9a).trans rfl)), h_2⟩

set_option maxHeartbeats 4000000 in
set_option maxRecDepth 100000 in
theorem f_X1_support_s5 (G : EnvG) (l : Launch) (Φ : Hm) (sz : Nat) (x : Nat) (hc3_ : Φ (x + 3) = some (o_ 3 [.ref (x + 4), .ref (x + 5), .ref (x + 6), .ref (x + 7), .int 1, .int 511])) (hc6_ : Φ (x + 6) = some (aq_ G 4 4 (va_up (va_up (va_up (va_up (fun _ => none) (0 : Int32).toNatClampNeg (some (x + 8))) (1 : Int32).toNatClampNeg (some (x + 12))) (2 : Int32).toNatClampNeg (some (x + 16))) (3 : Int32).toNatClampNeg (some (x + 20))))) (hc7_ : Φ (x + 7) = some (aq_ G 4 4 (va_up (va_up (va_up (va_up (fun _ => none) (0 : Int32).toNatClampNeg (some (x + 10))) (1 : Int32).toNatClampNeg (some (x + 14))) (2 : Int32).toNatClampNeg (some (x + 18))) (3 : Int32).toNatClampNeg (some (x + 22))))) (hc8_ : Φ (x + 8) = some (o_ 12 [.ref (x + 9), .int 9, .int 511, .int 29])) (hc9_ : Φ (x + 9) = some (ai_ G 9 (upd (upd (upd (upd (upd (upd (upd (upd (upd (fun _ => 0) (0 : Int32).toNatClampNeg 0) (1 : Int32).toNatClampNeg 1) (2 : Int32).toNatClampNeg 2) (3 : Int32).toNatClampNeg 3) (4 : Int32).toNatClampNeg 4) (5 : Int32).toNatClampNeg 5) (6 : Int32).toNatClampNeg 6) (7 : Int32).toNatClampNeg 7) (8 : Int32).toNatClampNeg 8))) (hc10_ : Φ (x + 10) = some (o_ 12 [.ref (x + 11), .int 9, .int 511, .int 29])) (hc11_ : Φ (x + 11) = some (ai_ G 9 (upd (upd (upd (upd (upd (upd (upd (upd (upd (fun _ => 0) (0 : Int32).toNatClampNeg 0) (1 : Int32).toNatClampNeg 1) (2 : Int32).toNatClampNeg 2) (3 : Int32).toNatClampNeg 3) (4 : Int32).toNatClampNeg 4) (5 : Int32).toNatClampNeg 5) (6 : Int32).toNatClampNeg 6) (7 : Int32).toNatClampNeg 7) (8 : Int32).toNatClampNeg 8))) (hc12_ : Φ (x + 12) = some (o_ 12 [.ref (x + 13), .int 0, .int 0, .int 0])) (hc14_ : Φ (x + 14) = some (o_ 12 [.ref (x + 15), .int 0, .int 0, .int 0])) (hc16_ : Φ (x + 16) = some (o_ 12 [.ref (x + 17), .int 0, .int 0, .int 0])) (hc18_ : Φ (x + 18) = some (o_ 12 [.ref (x + 19), .int 0, .int 0, .int 0])) (hc20_ : Φ (x + 20) = some (o_ 12 [.ref (x + 21), .int 0, .int 0, .int 0])) (hc22_ : Φ (x + 22) = some (o_ 12 [.ref (x + 23), .int 0, .int 0, .int 0])) (hna : G.2.2.2 ≤ x) : Ct G l yX1_support wsX1_support ({ frames := 2, cells := 0, slots := 0, locals := 45 }) 0 0 [.ref (x + 3), .int 479] Φ sz (fun v Φ1 sz1 => v = none ∧ sz1 = sz ∧ (∀ b9 : Nat, b9 ≠ x + 10 → b9 ≠ x + 11 → b9 ≠ x + 14 → b9 ≠ x + 18 → b9 ≠ x + 22 → b9 ≠ x + 3 → Φ1 b9 = Φ b9) ∧ Φ1 (x + 10) = some (o_ 12 [.ref (x + 11), .int 8, .int 479, .int 21]) ∧ Φ1 (x + 11) = some (ai_ G 9 (upd (upd (upd (upd (upd (upd (upd (upd (upd (upd (upd (upd (upd (upd (upd (upd (upd (fun _ => 0) (0 : Int32).toNatClampNeg 0) (1 : Int32).toNatClampNeg 1) (2 : Int32).toNatClampNeg 2) (3 : Int32).toNatClampNeg 3) (4 : Int32).toNatClampNeg 4) (5 : Int32).toNatClampNeg 5) (6 : Int32).toNatClampNeg 6) (7 : Int32).toNatClampNeg 7) (8 : Int32).toNatClampNeg 8) (0 : Int32).toNatClampNeg 0) (1 : Int32).toNatClampNeg 1) (2 : Int32).toNatClampNeg 2) (3 : Int32).toNatClampNeg 3) (4 : Int32).toNatClampNeg 4) (5 : Int32).toNatClampNeg 6) (6 : Int32).toNatClampNeg 7) (7 : Int32).toNatClampNeg 8)) ∧ Φ1 (x + 14) = some (o_ 12 [.ref (x + 15), .int 0, .int 0, .int 0]) ∧ Φ1 (x + 18) = some (o_ 12 [.ref (x + 19), .int 0, .int 0, .int 0]) ∧ Φ1 (x + 22) = some (o_ 12 [.ref (x + 23), .int 0, .int 0, .int 0]) ∧ Φ1 (x + 3) = some (o_ 3 [.ref (x + 4), .ref (x + 5), .ref (x + 6), .ref (x + 7), .int 1, .int 479])) := by
  refine Ct.of (cc := cX1_support) (maxL := 3) (ret := none) (by decide) rfl (Nat.le_of_ble_eq_true rfl) ?_
  intro p9 e9 s9 m9 w9 t9 k9 B
  show Z p9 l e9 _ s9 m9 _ w9 t9 k9 _ G 3 0 [(0, .ref (x + 3)), (1, .int 479)] [] Φ sz 0 0
  refine z_aload_n B dX1_support_0 rfl 0 rfl ?_
  refine z_iload_n B dX1_support_1 rfl 1 rfl ?_
  refine z_put (ref := "FlowExporter$Config") (C := RX1) (T := TX1) (N := 6) (ci := 3) (v := .int 479) B (by decide +kernel) tyX1 tyX1_ok nmX1 rfl 5 (by decide) (by decide +kernel) rfl (Or.inl rfl) hc3_ (Nat.le_trans hna (Nat.le_add_right x 3)) rfl rfl (Nat.le_of_ble_eq_true rfl) dX1_support_2 (fun Φ1 hΦ1 => ?_)
  have h_1 : Φ1 (x + 3) = some (o_ 3 [.ref (x + 4), .ref (x + 5), .ref (x + 6), .ref (x + 7), .int 1, .int 479]) := fset_at hΦ1
  refine z_iconst (v := 0) B dX1_support_5 rfl ?_
  refine z_istore_n (lv' := [(2, .int 0), (0, .ref (x + 3)), (1, .int 479)]) B dX1_support_6 rfl (Nat.le_of_ble_eq_true rfl) rfl ?_
  refine z_iload_n B dX1_support_7 rfl 0 rfl ?_
  refine z_iconst (v := 4) B dX1_support_8 rfl ?_
  refine z_icmp_ge (tgt := 34) B dX1_support_9 rfl (fun h9 => absurd h9 (by decide)) (fun c_1 => ?_)
  refine z_aload_n B dX1_support_12 rfl 1 rfl ?_
  refine z_get (ref := "FlowExporter$Config") (C := RX1) (T := TX1) (N := 6) (ci := 3) (v := .ref (x + 7)) B (by decide +kernel) rfl 3 (by decide) (by decide +kernel) rfl h_1 rfl dX1_support_13 ?_
  refine z_iload_n B dX1_support_16 rfl 0 rfl ?_
  have h_2 : Φ1 (x + 7) = some (aq_ G 4 4 (va_up (va_up (va_up (va_up (fun _ => none) (0 : Int32).toNatClampNeg (some (x + 10))) (1 : Int32).toNatClampNeg (some (x + 14))) (2 : Int32).toNatClampNeg (some (x + 18))) (3 : Int32).toNatClampNeg (some (x + 22)))) := ((fset_fr hΦ1 (ne_off (x := x) (i := 7) (j := 3) rfl)).trans hc7_)
  refine z_aald (b := x + 10) B rfl h_2 (vin rfl) rfl dX1_support_17 ?_
  refine z_aload_n B dX1_support_18 rfl 1 rfl ?_
  refine z_get (ref := "FlowExporter$Config") (C := RX1) (T := TX1) (N := 6) (ci := 3) (v := .ref (x + 6)) B (by decide +kernel) rfl 2 (by decide) (by decide +kernel) rfl h_1 rfl dX1_support_19 ?_
  refine z_iload_n B dX1_support_22 rfl 0 rfl ?_
  have h_3 : Φ1 (x + 6) = some (aq_ G 4 4 (va_up (va_up (va_up (va_up (fun _ => none) (0 : Int32).toNatClampNeg (some (x + 8))) (1 : Int32).toNatClampNeg (some (x + 12))) (2 : Int32).toNatClampNeg (some (x + 16))) (3 : Int32).toNatClampNeg (some (x + 20)))) := ((fset_fr hΦ1 (ne_off (x := x) (i := 6) (j := 3) rfl)).trans hc6_)
  refine z_aald (b := x + 8) B rfl h_3 (vin rfl) rfl dX1_support_23 ?_
  refine z_iload_n B dX1_support_24 rfl 2 rfl ?_
  have h_4 : Φ1 (x + 10) = some (o_ 12 [.ref (x + 11), .int 9, .int 511, .int 29]) := ((fset_fr hΦ1 (ne_off (x := x) (i := 10) (j := 3) rfl)).trans hc10_)
  have h_5 : Φ1 (x + 11) = some (ai_ G 9 (upd (upd (upd (upd (upd (upd (upd (upd (upd (fun _ => 0) (0 : Int32).toNatClampNeg 0) (1 : Int32).toNatClampNeg 1) (2 : Int32).toNatClampNeg 2) (3 : Int32).toNatClampNeg 3) (4 : Int32).toNatClampNeg 4) (5 : Int32).toNatClampNeg 5) (6 : Int32).toNatClampNeg 6) (7 : Int32).toNatClampNeg 7) (8 : Int32).toNatClampNeg 8)) := ((fset_fr hΦ1 (ne_off (x := x) (i := 11) (j := 3) rfl)).trans hc11_)
  have h_6 : Φ1 (x + 8) = some (o_ 12 [.ref (x + 9), .int 9, .int 511, .int 29]) := ((fset_fr hΦ1 (ne_off (x := x) (i := 8) (j := 3) rfl)).trans hc8_)
  have h_7 : Φ1 (x + 9) = some (ai_ G 9 (upd (upd (upd (upd (upd (upd (upd (upd (upd (fun _ => 0) (0 : Int32).toNatClampNeg 0) (1 : Int32).toNatClampNeg 1) (2 : Int32).toNatClampNeg 2) (3 : Int32).toNatClampNeg 3) (4 : Int32).toNatClampNeg 4) (5 : Int32).toNatClampNeg 5) (6 : Int32).toNatClampNeg 6) (7 : Int32).toNatClampNeg 7) (8 : Int32).toNatClampNeg 8)) := ((fset_fr hΦ1 (ne_off (x := x) (i := 9) (j := 3) rfl)).trans hc9_)
  refine z_callV (As := [.ref (x + 8), .int 479]) (rest := []) B (c_X10_copyFrom_s5 G l Φ1 sz (x + 10) (x + 11) 9 511 29 (upd (upd (upd (upd (upd (upd (upd (upd (upd (fun _ => 0) (0 : Int32).toNatClampNeg 0) (1 : Int32).toNatClampNeg 1) (2 : Int32).toNatClampNeg 2) (3 : Int32).toNatClampNeg 3) (4 : Int32).toNatClampNeg 4) (5 : Int32).toNatClampNeg 5) (6 : Int32).toNatClampNeg 6) (7 : Int32).toNatClampNeg 7) (8 : Int32).toNatClampNeg 8) (x + 8) (x + 9) 511 29 (upd (upd (upd (upd (upd (upd (upd (upd (upd (fun _ => 0) (0 : Int32).toNatClampNeg 0) (1 : Int32).toNatClampNeg 1) (2 : Int32).toNatClampNeg 2) (3 : Int32).toNatClampNeg 3) (4 : Int32).toNatClampNeg 4) (5 : Int32).toNatClampNeg 5) (6 : Int32).toNatClampNeg 6) (7 : Int32).toNatClampNeg 7) (8 : Int32).toNatClampNeg 8) h_4 h_5 h_6 h_7 (ne_off (x := x) (i := 10) (j := 8) rfl) (ne_off (x := x) (i := 11) (j := 9) rfl) (ne_off (x := x) (i := 10) (j := 11) rfl) (ne_off (x := x) (i := 8) (j := 11) rfl) (ne_off (x := x) (i := 10) (j := 9) rfl) (ne_off (x := x) (i := 8) (j := 9) rfl) (Nat.le_trans hna (Nat.le_add_right x 10)) (Nat.le_trans hna (Nat.le_add_right x 11)) rfl rfl rfl rfl rfl rfl rfl rfl rfl) (cwV 2 B.1.2.2.2.2 gX1_support_X10_copyFrom rfl rfl rfl (by decide +kernel) ⟨Nat.le_of_ble_eq_true rfl, Nat.le_of_ble_eq_true rfl⟩) h_4 rfl rfl rfl rfl (Nat.le_of_ble_eq_true rfl) dX1_support_25 ⟨Nat.le_of_ble_eq_true rfl, Nat.le_of_ble_eq_true rfl⟩ (fun v1 Φ2 sz1 st1 hp1 hs1 => ?_)
  obtain ⟨rfl, hq1, fr1, h_8, h_9⟩ := hp1
  replace hq1 : sz1 = sz := hq1
  subst sz1
  replace hs1 : st1 = [] := hs1
  subst st1
  have h_10 : Φ2 (x + 11) = some (ai_ G 9 (upd (upd (upd (upd (upd (upd (upd (upd (upd (upd (upd (upd (upd (upd (upd (upd (upd (fun _ => 0) (0 : Int32).toNatClampNeg 0) (1 : Int32).toNatClampNeg 1) (2 : Int32).toNatClampNeg 2) (3 : Int32).toNatClampNeg 3) (4 : Int32).toNatClampNeg 4) (5 : Int32).toNatClampNeg 5) (6 : Int32).toNatClampNeg 6) (7 : Int32).toNatClampNeg 7) (8 : Int32).toNatClampNeg 8) (0 : Int32).toNatClampNeg 0) (1 : Int32).toNatClampNeg 1) (2 : Int32).toNatClampNeg 2) (3 : Int32).toNatClampNeg 3) (4 : Int32).toNatClampNeg 4) (5 : Int32).toNatClampNeg 6) (6 : Int32).toNatClampNeg 7) (7 : Int32).toNatClampNeg 8)) := h_8
  have h_11 : Φ2 (x + 10) = some (o_ 12 [.ref (x + 11), .int 8, .int 479, .int 21]) := h_9
  refine z_iinc (k := 0) (v := 1) (lv' := [(2, .int 1), (0, .ref (x + 3)), (1, .int 479)]) B dX1_support_28 rfl rfl (Nat.le_of_ble_eq_true rfl) rfl ?_
  refine z_goto (tgt := 7) B dX1_support_31 rfl ?_
  refine z_iload_n B dX1_support_7 rfl 0 rfl ?_
  refine z_iconst (v := 4) B dX1_support_8 rfl ?_
  refine z_icmp_ge (tgt := 34) B dX1_support_9 rfl (fun h9 => absurd h9 (by decide)) (fun c_2 => ?_)
  refine z_aload_n B dX1_support_12 rfl 1 rfl ?_
  have h_12 : Φ2 (x + 3) = some (o_ 3 [.ref (x + 4), .ref (x + 5), .ref (x + 6), .ref (x + 7), .int 1, .int 479]) := ((fr1 (x + 3) (ne_off (x := x) (i := 3) (j := 11) rfl) (ne_off (x := x) (i := 3) (j := 10) rfl)).trans h_1)
  refine z_get (ref := "FlowExporter$Config") (C := RX1) (T := TX1) (N := 6) (ci := 3) (v := .ref (x + 7)) B (by decide +kernel) rfl 3 (by decide) (by decide +kernel) rfl h_12 rfl dX1_support_13 ?_
  refine z_iload_n B dX1_support_16 rfl 0 rfl ?_
  have h_13 : Φ2 (x + 7) = some (aq_ G 4 4 (va_up (va_up (va_up (va_up (fun _ => none) (0 : Int32).toNatClampNeg (some (x + 10))) (1 : Int32).toNatClampNeg (some (x + 14))) (2 : Int32).toNatClampNeg (some (x + 18))) (3 : Int32).toNatClampNeg (some (x + 22)))) := ((fr1 (x + 7) (ne_off (x := x) (i := 7) (j := 11) rfl) (ne_off (x := x) (i := 7) (j := 10) rfl)).trans h_2)
  refine z_aald (b := x + 14) B rfl h_13 (vin rfl) rfl dX1_support_17 ?_
  refine z_aload_n B dX1_support_18 rfl 1 rfl ?_
  refine z_get (ref := "FlowExporter$Config") (C := RX1) (T := TX1) (N := 6) (ci := 3) (v := .ref (x + 6)) B (by decide +kernel) rfl 2 (by decide) (by decide +kernel) rfl h_12 rfl dX1_support_19 ?_
  refine z_iload_n B dX1_support_22 rfl 0 rfl ?_
  have h_14 : Φ2 (x + 6) = some (aq_ G 4 4 (va_up (va_up (va_up (va_up (fun _ => none) (0 : Int32).toNatClampNeg (some (x + 8))) (1 : Int32).toNatClampNeg (some (x + 12))) (2 : Int32).toNatClampNeg (some (x + 16))) (3 : Int32).toNatClampNeg (some (x + 20)))) := ((fr1 (x + 6) (ne_off (x := x) (i := 6) (j := 11) rfl) (ne_off (x := x) (i := 6) (j := 10) rfl)).trans h_3)
  refine z_aald (b := x + 12) B rfl h_14 (vin rfl) rfl dX1_support_23 ?_
  refine z_iload_n B dX1_support_24 rfl 2 rfl ?_
  have h_15 : Φ2 (x + 14) = some (o_ 12 [.ref (x + 15), .int 0, .int 0, .int 0]) := ((fr1 (x + 14) (ne_off (x := x) (i := 14) (j := 11) rfl) (ne_off (x := x) (i := 14) (j := 10) rfl)).trans ((fset_fr hΦ1 (ne_off (x := x) (i := 14) (j := 3) rfl)).trans hc14_))
  have h_16 : Φ2 (x + 12) = some (o_ 12 [.ref (x + 13), .int 0, .int 0, .int 0]) := ((fr1 (x + 12) (ne_off (x := x) (i := 12) (j := 11) rfl) (ne_off (x := x) (i := 12) (j := 10) rfl)).trans ((fset_fr hΦ1 (ne_off (x := x) (i := 12) (j := 3) rfl)).trans hc12_))
  refine z_callV (As := [.ref (x + 12), .int 479]) (rest := []) B (c_X10_copyFrom_z5 G l Φ2 sz (x + 14) (x + 15) 0 0 0 (x + 12) (x + 13) 0 0 h_15 h_16 (ne_off (x := x) (i := 14) (j := 12) rfl) (Nat.le_trans hna (Nat.le_add_right x 14))) (cwV 2 B.1.2.2.2.2 gX1_support_X10_copyFrom rfl rfl rfl (by decide +kernel) ⟨Nat.le_of_ble_eq_true rfl, Nat.le_of_ble_eq_true rfl⟩) h_15 rfl rfl rfl rfl (Nat.le_of_ble_eq_true rfl) dX1_support_25 ⟨Nat.le_of_ble_eq_true rfl, Nat.le_of_ble_eq_true rfl⟩ (fun v2 Φ3 sz2 st2 hp2 hs2 => ?_)
  obtain ⟨rfl, hq2, fr2, h_17⟩ := hp2
  replace hq2 : sz2 = sz := hq2
  subst sz2
  replace hs2 : st2 = [] := hs2
  subst st2
  have h_18 : Φ3 (x + 14) = some (o_ 12 [.ref (x + 15), .int 0, .int 0, .int 0]) := h_17
  refine z_iinc (k := 0) (v := 2) (lv' := [(2, .int 2), (0, .ref (x + 3)), (1, .int 479)]) B dX1_support_28 rfl rfl (Nat.le_of_ble_eq_true rfl) rfl ?_
  refine z_goto (tgt := 7) B dX1_support_31 rfl ?_
  refine z_iload_n B dX1_support_7 rfl 0 rfl ?_
  refine z_iconst (v := 4) B dX1_support_8 rfl ?_
  refine z_icmp_ge (tgt := 34) B dX1_support_9 rfl (fun h9 => absurd h9 (by decide)) (fun c_3 => ?_)
  refine z_aload_n B dX1_support_12 rfl 1 rfl ?_
  have h_19 : Φ3 (x + 3) = some (o_ 3 [.ref (x + 4), .ref (x + 5), .ref (x + 6), .ref (x + 7), .int 1, .int 479]) := ((fr2 (x + 3) (ne_off (x := x) (i := 3) (j := 14) rfl)).trans h_12)
  refine z_get (ref := "FlowExporter$Config") (C := RX1) (T := TX1) (N := 6) (ci := 3) (v := .ref (x + 7)) B (by decide +kernel) rfl 3 (by decide) (by decide +kernel) rfl h_19 rfl dX1_support_13 ?_
  refine z_iload_n B dX1_support_16 rfl 0 rfl ?_
  have h_20 : Φ3 (x + 7) = some (aq_ G 4 4 (va_up (va_up (va_up (va_up (fun _ => none) (0 : Int32).toNatClampNeg (some (x + 10))) (1 : Int32).toNatClampNeg (some (x + 14))) (2 : Int32).toNatClampNeg (some (x + 18))) (3 : Int32).toNatClampNeg (some (x + 22)))) := ((fr2 (x + 7) (ne_off (x := x) (i := 7) (j := 14) rfl)).trans h_13)
  refine z_aald (b := x + 18) B rfl h_20 (vin rfl) rfl dX1_support_17 ?_
  refine z_aload_n B dX1_support_18 rfl 1 rfl ?_
  refine z_get (ref := "FlowExporter$Config") (C := RX1) (T := TX1) (N := 6) (ci := 3) (v := .ref (x + 6)) B (by decide +kernel) rfl 2 (by decide) (by decide +kernel) rfl h_19 rfl dX1_support_19 ?_
  refine z_iload_n B dX1_support_22 rfl 0 rfl ?_
  have h_21 : Φ3 (x + 6) = some (aq_ G 4 4 (va_up (va_up (va_up (va_up (fun _ => none) (0 : Int32).toNatClampNeg (some (x + 8))) (1 : Int32).toNatClampNeg (some (x + 12))) (2 : Int32).toNatClampNeg (some (x + 16))) (3 : Int32).toNatClampNeg (some (x + 20)))) := ((fr2 (x + 6) (ne_off (x := x) (i := 6) (j := 14) rfl)).trans h_14)
  refine z_aald (b := x + 16) B rfl h_21 (vin rfl) rfl dX1_support_23 ?_
  refine z_iload_n B dX1_support_24 rfl 2 rfl ?_
  have h_22 : Φ3 (x + 18) = some (o_ 12 [.ref (x + 19), .int 0, .int 0, .int 0]) := ((fr2 (x + 18) (ne_off (x := x) (i := 18) (j := 14) rfl)).trans ((fr1 (x + 18) (ne_off (x := x) (i := 18) (j := 11) rfl) (ne_off (x := x) (i := 18) (j := 10) rfl)).trans ((fset_fr hΦ1 (ne_off (x := x) (i := 18) (j := 3) rfl)).trans hc18_)))
  have h_23 : Φ3 (x + 16) = some (o_ 12 [.ref (x + 17), .int 0, .int 0, .int 0]) := ((fr2 (x + 16) (ne_off (x := x) (i := 16) (j := 14) rfl)).trans ((fr1 (x + 16) (ne_off (x := x) (i := 16) (j := 11) rfl) (ne_off (x := x) (i := 16) (j := 10) rfl)).trans ((fset_fr hΦ1 (ne_off (x := x) (i := 16) (j := 3) rfl)).trans hc16_)))
  refine z_callV (As := [.ref (x + 16), .int 479]) (rest := []) B (c_X10_copyFrom_z5 G l Φ3 sz (x + 18) (x + 19) 0 0 0 (x + 16) (x + 17) 0 0 h_22 h_23 (ne_off (x := x) (i := 18) (j := 16) rfl) (Nat.le_trans hna (Nat.le_add_right x 18))) (cwV 2 B.1.2.2.2.2 gX1_support_X10_copyFrom rfl rfl rfl (by decide +kernel) ⟨Nat.le_of_ble_eq_true rfl, Nat.le_of_ble_eq_true rfl⟩) h_22 rfl rfl rfl rfl (Nat.le_of_ble_eq_true rfl) dX1_support_25 ⟨Nat.le_of_ble_eq_true rfl, Nat.le_of_ble_eq_true rfl⟩ (fun v3 Φ4 sz3 st3 hp3 hs3 => ?_)
  obtain ⟨rfl, hq3, fr3, h_24⟩ := hp3
  replace hq3 : sz3 = sz := hq3
  subst sz3
  replace hs3 : st3 = [] := hs3
  subst st3
  have h_25 : Φ4 (x + 18) = some (o_ 12 [.ref (x + 19), .int 0, .int 0, .int 0]) := h_24
  refine z_iinc (k := 0) (v := 3) (lv' := [(2, .int 3), (0, .ref (x + 3)), (1, .int 479)]) B dX1_support_28 rfl rfl (Nat.le_of_ble_eq_true rfl) rfl ?_
  refine z_goto (tgt := 7) B dX1_support_31 rfl ?_
  refine z_iload_n B dX1_support_7 rfl 0 rfl ?_
  refine z_iconst (v := 4) B dX1_support_8 rfl ?_
  refine z_icmp_ge (tgt := 34) B dX1_support_9 rfl (fun h9 => absurd h9 (by decide)) (fun c_4 => ?_)
  refine z_aload_n B dX1_support_12 rfl 1 rfl ?_
  have h_26 : Φ4 (x + 3) = some (o_ 3 [.ref (x + 4), .ref (x + 5), .ref (x + 6), .ref (x + 7), .int 1, .int 479]) := ((fr3 (x + 3) (ne_off (x := x) (i := 3) (j := 18) rfl)).trans h_19)
  refine z_get (ref := "FlowExporter$Config") (C := RX1) (T := TX1) (N := 6) (ci := 3) (v := .ref (x + 7)) B (by decide +kernel) rfl 3 (by decide) (by decide +kernel) rfl h_26 rfl dX1_support_13 ?_
  refine z_iload_n B dX1_support_16 rfl 0 rfl ?_
  have h_27 : Φ4 (x + 7) = some (aq_ G 4 4 (va_up (va_up (va_up (va_up (fun _ => none) (0 : Int32).toNatClampNeg (some (x + 10))) (1 : Int32).toNatClampNeg (some (x + 14))) (2 : Int32).toNatClampNeg (some (x + 18))) (3 : Int32).toNatClampNeg (some (x + 22)))) := ((fr3 (x + 7) (ne_off (x := x) (i := 7) (j := 18) rfl)).trans h_20)
  refine z_aald (b := x + 22) B rfl h_27 (vin rfl) rfl dX1_support_17 ?_
  refine z_aload_n B dX1_support_18 rfl 1 rfl ?_
  refine z_get (ref := "FlowExporter$Config") (C := RX1) (T := TX1) (N := 6) (ci := 3) (v := .ref (x + 6)) B (by decide +kernel) rfl 2 (by decide) (by decide +kernel) rfl h_26 rfl dX1_support_19 ?_
  refine z_iload_n B dX1_support_22 rfl 0 rfl ?_
  have h_28 : Φ4 (x + 6) = some (aq_ G 4 4 (va_up (va_up (va_up (va_up (fun _ => none) (0 : Int32).toNatClampNeg (some (x + 8))) (1 : Int32).toNatClampNeg (some (x + 12))) (2 : Int32).toNatClampNeg (some (x + 16))) (3 : Int32).toNatClampNeg (some (x + 20)))) := ((fr3 (x + 6) (ne_off (x := x) (i := 6) (j := 18) rfl)).trans h_21)
  refine z_aald (b := x + 20) B rfl h_28 (vin rfl) rfl dX1_support_23 ?_
  refine z_iload_n B dX1_support_24 rfl 2 rfl ?_
  have h_29 : Φ4 (x + 22) = some (o_ 12 [.ref (x + 23), .int 0, .int 0, .int 0]) := ((fr3 (x + 22) (ne_off (x := x) (i := 22) (j := 18) rfl)).trans ((fr2 (x + 22) (ne_off (x := x) (i := 22) (j := 14) rfl)).trans ((fr1 (x + 22) (ne_off (x := x) (i := 22) (j := 11) rfl) (ne_off (x := x) (i := 22) (j := 10) rfl)).trans ((fset_fr hΦ1 (ne_off (x := x) (i := 22) (j := 3) rfl)).trans hc22_))))
  have h_30 : Φ4 (x + 20) = some (o_ 12 [.ref (x + 21), .int 0, .int 0, .int 0]) := ((fr3 (x + 20) (ne_off (x := x) (i := 20) (j := 18) rfl)).trans ((fr2 (x + 20) (ne_off (x := x) (i := 20) (j := 14) rfl)).trans ((fr1 (x + 20) (ne_off (x := x) (i := 20) (j := 11) rfl) (ne_off (x := x) (i := 20) (j := 10) rfl)).trans ((fset_fr hΦ1 (ne_off (x := x) (i := 20) (j := 3) rfl)).trans hc20_))))
  refine z_callV (As := [.ref (x + 20), .int 479]) (rest := []) B (c_X10_copyFrom_z5 G l Φ4 sz (x + 22) (x + 23) 0 0 0 (x + 20) (x + 21) 0 0 h_29 h_30 (ne_off (x := x) (i := 22) (j := 20) rfl) (Nat.le_trans hna (Nat.le_add_right x 22))) (cwV 2 B.1.2.2.2.2 gX1_support_X10_copyFrom rfl rfl rfl (by decide +kernel) ⟨Nat.le_of_ble_eq_true rfl, Nat.le_of_ble_eq_true rfl⟩) h_29 rfl rfl rfl rfl (Nat.le_of_ble_eq_true rfl) dX1_support_25 ⟨Nat.le_of_ble_eq_true rfl, Nat.le_of_ble_eq_true rfl⟩ (fun v4 Φ5 sz4 st4 hp4 hs4 => ?_)
  obtain ⟨rfl, hq4, fr4, h_31⟩ := hp4
  replace hq4 : sz4 = sz := hq4
  subst sz4
  replace hs4 : st4 = [] := hs4
  subst st4
  have h_32 : Φ5 (x + 22) = some (o_ 12 [.ref (x + 23), .int 0, .int 0, .int 0]) := h_31
  refine z_iinc (k := 0) (v := 4) (lv' := [(2, .int 4), (0, .ref (x + 3)), (1, .int 479)]) B dX1_support_28 rfl rfl (Nat.le_of_ble_eq_true rfl) rfl ?_
  refine z_goto (tgt := 7) B dX1_support_31 rfl ?_
  refine z_iload_n B dX1_support_7 rfl 0 rfl ?_
  refine z_iconst (v := 4) B dX1_support_8 rfl ?_
  refine z_icmp_ge (tgt := 34) B dX1_support_9 rfl (fun c_5 => ?_) (fun h9 => absurd (by decide) h9)
  have h_33 : Φ5 (x + 10) = some (o_ 12 [.ref (x + 11), .int 8, .int 479, .int 21]) := ((fr4 (x + 10) (ne_off (x := x) (i := 10) (j := 22) rfl)).trans ((fr3 (x + 10) (ne_off (x := x) (i := 10) (j := 18) rfl)).trans ((fr2 (x + 10) (ne_off (x := x) (i := 10) (j := 14) rfl)).trans h_11)))
  have h_34 : Φ5 (x + 11) = some (ai_ G 9 (upd (upd (upd (upd (upd (upd (upd (upd (upd (upd (upd (upd (upd (upd (upd (upd (upd (fun _ => 0) (0 : Int32).toNatClampNeg 0) (1 : Int32).toNatClampNeg 1) (2 : Int32).toNatClampNeg 2) (3 : Int32).toNatClampNeg 3) (4 : Int32).toNatClampNeg 4) (5 : Int32).toNatClampNeg 5) (6 : Int32).toNatClampNeg 6) (7 : Int32).toNatClampNeg 7) (8 : Int32).toNatClampNeg 8) (0 : Int32).toNatClampNeg 0) (1 : Int32).toNatClampNeg 1) (2 : Int32).toNatClampNeg 2) (3 : Int32).toNatClampNeg 3) (4 : Int32).toNatClampNeg 4) (5 : Int32).toNatClampNeg 6) (6 : Int32).toNatClampNeg 7) (7 : Int32).toNatClampNeg 8)) := ((fr4 (x + 11) (ne_off (x := x) (i := 11) (j := 22) rfl)).trans ((fr3 (x + 11) (ne_off (x := x) (i := 11) (j := 18) rfl)).trans ((fr2 (x + 11) (ne_off (x := x) (i := 11) (j := 14) rfl)).trans h_10)))
  have h_35 : Φ5 (x + 14) = some (o_ 12 [.ref (x + 15), .int 0, .int 0, .int 0]) := ((fr4 (x + 14) (ne_off (x := x) (i := 14) (j := 22) rfl)).trans ((fr3 (x + 14) (ne_off (x := x) (i := 14) (j := 18) rfl)).trans h_18))
  have h_36 : Φ5 (x + 18) = some (o_ 12 [.ref (x + 19), .int 0, .int 0, .int 0]) := ((fr4 (x + 18) (ne_off (x := x) (i := 18) (j := 22) rfl)).trans h_25)
  have h_37 : Φ5 (x + 3) = some (o_ 3 [.ref (x + 4), .ref (x + 5), .ref (x + 6), .ref (x + 7), .int 1, .int 479]) := ((fr4 (x + 3) (ne_off (x := x) (i := 3) (j := 22) rfl)).trans h_26)
  exact z_ret_v B dX1_support_34 ⟨rfl, rfl, (fun b9 h9a h9b h9c h9d h9e h9f => ((fr4 b9 h9e).trans ((fr3 b9 h9d).trans ((fr2 b9 h9c).trans ((fr1 b9 h9b h9a).trans ((fset_fr hΦ1 h9f).trans rfl)))))), h_33, h_34, h_35, h_36, h_32, h_37⟩

set_option maxHeartbeats 4000000 in
set_option maxRecDepth 100000 in
theorem c_X10_copyFrom_s6 (G : EnvG) (l : Launch) (Φ : Hm) (sz : Nat) (h : Nat) (f : Nat) (a : Int32) (b : Int32) (d : Int32) (g : Nat → Int32) (h2 : Nat) (f2 : Nat) (b2 : Int32) (d2 : Int32) (g2 : Nat → Int32) (hc0 : Φ h = some (o_ 12 [.ref f, .int a, .int b, .int d])) (hc1 : Φ f = some (ai_ G 9 g)) (hc2 : Φ h2 = some (o_ 12 [.ref f2, .int 9, .int b2, .int d2])) (hc3 : Φ f2 = some (ai_ G 9 g2)) (hne_h_h2 : h ≠ h2) (hne_f_f2 : f ≠ f2) (hne_h_f : h ≠ f) (hne_h2_f : h2 ≠ f) (hne_h_f2 : h ≠ f2) (hne_h2_f2 : h2 ≠ f2) (hna_h : G.2.2.2 ≤ h) (hna_f : G.2.2.2 ≤ f) (hg0 : g2 0 = 0) (hg1 : g2 1 = 1) (hg2 : g2 2 = 2) (hg3 : g2 3 = 3) (hg4 : g2 4 = 4) (hg5 : g2 5 = 5) (hg6 : g2 6 = 6) (hg7 : g2 7 = 7) (hg8 : g2 8 = 8) : Ct G l yX10_copyFrom wsX10_copyFrom ({ frames := 1, cells := 0, slots := 0, locals := 21 }) 0 0 [.ref h, .ref h2, .int 447] Φ sz (fun v Φ1 sz1 => v = none ∧ sz1 = sz ∧ (∀ b9 : Nat, b9 ≠ f → b9 ≠ h → Φ1 b9 = Φ b9) ∧ Φ1 f = some (ai_ G 9 (upd (upd (upd (upd (upd (upd (upd (upd g (0 : Int32).toNatClampNeg 0) (1 : Int32).toNatClampNeg 1) (2 : Int32).toNatClampNeg 2) (3 : Int32).toNatClampNeg 3) (4 : Int32).toNatClampNeg 4) (5 : Int32).toNatClampNeg 5) (6 : Int32).toNatClampNeg 7) (7 : Int32).toNatClampNeg 8)) ∧ Φ1 h = some (o_ 12 [.ref f, .int 8, .int 447, .int 25])) := by
  refine Ct.of (cc := cX10_copyFrom) (maxL := 5) (ret := none) (by decide) rfl (Nat.le_of_ble_eq_true rfl) ?_
  intro p9 e9 s9 m9 w9 t9 k9 B
  show Z p9 l e9 _ s9 m9 _ w9 t9 k9 _ G 5 0 [(0, .ref h), (1, .ref h2), (2, .int 447)] [] Φ (sz) 0 0
  refine z_aload_n B dX10_copyFrom_0 rfl 0 rfl ?_
  refine z_callV (As := []) (rest := []) B (c_X10_clear G l Φ sz h f a b d hc0 hna_h) (cwV 0 B.1.2.2.2.2 gX10_copyFrom_X10_clear rfl rfl rfl (by decide +kernel) ⟨Nat.le_of_ble_eq_true rfl, Nat.le_of_ble_eq_true rfl⟩) hc0 rfl rfl rfl rfl (Nat.le_of_ble_eq_true rfl) dX10_copyFrom_1 ⟨Nat.le_of_ble_eq_true rfl, Nat.le_of_ble_eq_true rfl⟩ (fun v1 Φ1 sz1 st1 hp1 hs1 => ?_)
  obtain ⟨rfl, hq1, fr1, h_1⟩ := hp1
  replace hq1 : sz1 = sz := hq1
  subst sz1
  replace hs1 : st1 = [] := hs1
  subst st1
  have h_2 : Φ1 h = some (o_ 12 [.ref f, .int 0, .int 0, .int 0]) := h_1
  refine z_iconst (v := 0) B dX10_copyFrom_4 rfl ?_
  refine z_istore_n (lv' := [(3, .int 0), (0, .ref h), (1, .ref h2), (2, .int 447)]) B dX10_copyFrom_5 rfl (Nat.le_of_ble_eq_true rfl) rfl ?_
  refine z_iload_n B dX10_copyFrom_6 rfl 0 rfl ?_
  refine z_aload_n B dX10_copyFrom_7 rfl 2 rfl ?_
  have h_3 : Φ1 h2 = some (o_ 12 [.ref f2, .int 9, .int b2, .int d2]) := ((fr1 h2 (Ne.symm hne_h_h2)).trans hc2)
  refine z_get (ref := "FlowExporter$Template") (C := RX10) (T := TX10) (N := 4) (ci := 12) (v := .int 9) B (by decide +kernel) rfl 1 (by decide) (by decide +kernel) rfl h_3 rfl dX10_copyFrom_8 ?_
  refine z_icmp_ge (tgt := 43) B dX10_copyFrom_11 rfl (fun h9 => absurd h9 (by decide)) (fun c_1 => ?_)
  refine z_aload_n B dX10_copyFrom_14 rfl 2 rfl ?_
  refine z_iload_n B dX10_copyFrom_15 rfl 0 rfl ?_
  have h_4 : Φ1 f2 = some (ai_ G 9 g2) := ((fr1 f2 (Ne.symm hne_h_f2)).trans hc3)
  refine z_callV (As := [.int 0]) (rest := []) B (c_X10_field G l Φ1 sz h2 f2 9 b2 d2 g2 0 h_3 h_4 (by decide) (by decide) (vin rfl)) (cwV 1 B.1.2.2.2.2 gX10_copyFrom_X10_field rfl rfl rfl (by decide +kernel) ⟨Nat.le_of_ble_eq_true rfl, Nat.le_of_ble_eq_true rfl⟩) h_3 rfl rfl rfl rfl (Nat.le_of_ble_eq_true rfl) dX10_copyFrom_16 ⟨Nat.le_of_ble_eq_true rfl, Nat.le_of_ble_eq_true rfl⟩ (fun v2 Φ2 sz2 st2 hp2 hs2 => ?_)
  obtain ⟨rfl, hq2, fr2⟩ := hp2
  replace hq2 : sz2 = sz := hq2
  subst sz2
  replace hs2 : st2 = [.int (g2 (0 : Int32).toNatClampNeg)] := hs2
  subst st2
  refine z_top (st1 := [.int 0]) (by rw [show g2 ((0 : Int32).toNatClampNeg) = 0 from hg0]) ?_
  refine z_istore (lv' := [(4, .int 0), (3, .int 0), (0, .ref h), (1, .ref h2), (2, .int 447)]) B dX10_copyFrom_19 (Nat.le_of_ble_eq_true rfl) rfl ?_
  refine z_iload_n B dX10_copyFrom_21 rfl 4 rfl ?_
  refine z_iload B dX10_copyFrom_22 0 rfl ?_
  refine z_ishr B dX10_copyFrom_24 ?_
  refine z_top (st1 := [.int 447]) (congrArg (fun w9 : Int32 => ([.int w9] : List Value)) (show ((447 : Int32) >>> ((0 : Int32) &&& (31 : Int32)) : Int32) = 447 by decide +kernel)) ?_
  refine z_iconst (v := 1) B dX10_copyFrom_25 rfl ?_
  refine z_iand B dX10_copyFrom_26 ?_
  refine z_top (st1 := [.int 1]) (congrArg (fun w9 : Int32 => ([.int w9] : List Value)) (show (447 &&& 1 : Int32) = 1 by decide +kernel)) ?_
  refine z_iconst (v := 1) B dX10_copyFrom_27 rfl ?_
  refine z_icmp_ne (tgt := 37) B dX10_copyFrom_28 rfl (fun h9 => absurd (by decide) h9) (fun c_2 => ?_)
  refine z_aload_n B dX10_copyFrom_31 rfl 2 rfl ?_
  refine z_iload B dX10_copyFrom_32 0 rfl ?_
  have h_5 : Φ2 h = some (o_ 12 [.ref f, .int 0, .int 0, .int 0]) := ((fr2 h).trans h_2)
  have h_6 : Φ2 f = some (ai_ G 9 g) := ((fr2 f).trans ((fr1 f (Ne.symm hne_h_f)).trans hc1))
  refine z_callV (As := [.int 0]) (rest := []) B (c_X10_addField G l Φ2 sz h f 0 0 0 g 0 h_5 h_6 hne_h_f hna_h hna_f (by decide) (by decide) (by decide) (by decide) (vin rfl) (vin rfl)) (cwV 1 B.1.2.2.2.2 gX10_copyFrom_X10_addField rfl rfl rfl (by decide +kernel) ⟨Nat.le_of_ble_eq_true rfl, Nat.le_of_ble_eq_true rfl⟩) h_5 rfl rfl rfl rfl (Nat.le_of_ble_eq_true rfl) dX10_copyFrom_34 ⟨Nat.le_of_ble_eq_true rfl, Nat.le_of_ble_eq_true rfl⟩ (fun v3 Φ3 sz3 st3 hp3 hs3 => ?_)
  obtain ⟨rfl, hq3, fr3, h_7, h_8⟩ := hp3
  replace hq3 : sz3 = sz := hq3
  subst sz3
  replace hs3 : st3 = [] := hs3
  subst st3
  have h_9 : Φ3 f = some (ai_ G 9 (upd g (0 : Int32).toNatClampNeg 0)) := h_7
  have h_10 : Φ3 h = some (o_ 12 [.ref f, .int 1, .int 1, .int 1]) := h_8
  refine z_iinc (k := 1) (v := 1) (lv' := [(3, .int 1), (4, .int 0), (0, .ref h), (1, .ref h2), (2, .int 447)]) B dX10_copyFrom_37 rfl rfl (Nat.le_of_ble_eq_true rfl) rfl ?_
  refine z_goto (tgt := 6) B dX10_copyFrom_40 rfl ?_
  refine z_iload_n B dX10_copyFrom_6 rfl 0 rfl ?_
  refine z_aload_n B dX10_copyFrom_7 rfl 3 rfl ?_
  have h_11 : Φ3 h2 = some (o_ 12 [.ref f2, .int 9, .int b2, .int d2]) := ((fr3 h2 hne_h2_f (Ne.symm hne_h_h2)).trans ((fr2 h2).trans h_3))
  refine z_get (ref := "FlowExporter$Template") (C := RX10) (T := TX10) (N := 4) (ci := 12) (v := .int 9) B (by decide +kernel) rfl 1 (by decide) (by decide +kernel) rfl h_11 rfl dX10_copyFrom_8 ?_
  refine z_icmp_ge (tgt := 43) B dX10_copyFrom_11 rfl (fun h9 => absurd h9 (by decide)) (fun c_3 => ?_)
  refine z_aload_n B dX10_copyFrom_14 rfl 3 rfl ?_
  refine z_iload_n B dX10_copyFrom_15 rfl 0 rfl ?_
  have h_12 : Φ3 f2 = some (ai_ G 9 g2) := ((fr3 f2 (Ne.symm hne_f_f2) (Ne.symm hne_h_f2)).trans ((fr2 f2).trans h_4))
  refine z_callV (As := [.int 1]) (rest := []) B (c_X10_field G l Φ3 sz h2 f2 9 b2 d2 g2 1 h_11 h_12 (by decide) (by decide) (vin rfl)) (cwV 1 B.1.2.2.2.2 gX10_copyFrom_X10_field rfl rfl rfl (by decide +kernel) ⟨Nat.le_of_ble_eq_true rfl, Nat.le_of_ble_eq_true rfl⟩) h_11 rfl rfl rfl rfl (Nat.le_of_ble_eq_true rfl) dX10_copyFrom_16 ⟨Nat.le_of_ble_eq_true rfl, Nat.le_of_ble_eq_true rfl⟩ (fun v4 Φ4 sz4 st4 hp4 hs4 => ?_)
  obtain ⟨rfl, hq4, fr4⟩ := hp4
  replace hq4 : sz4 = sz := hq4
  subst sz4
  replace hs4 : st4 = [.int (g2 (1 : Int32).toNatClampNeg)] := hs4
  subst st4
  refine z_top (st1 := [.int 1]) (by rw [show g2 ((1 : Int32).toNatClampNeg) = 1 from hg1]) ?_
  refine z_istore (lv' := [(4, .int 1), (3, .int 1), (0, .ref h), (1, .ref h2), (2, .int 447)]) B dX10_copyFrom_19 (Nat.le_of_ble_eq_true rfl) rfl ?_
  refine z_iload_n B dX10_copyFrom_21 rfl 4 rfl ?_
  refine z_iload B dX10_copyFrom_22 0 rfl ?_
  refine z_ishr B dX10_copyFrom_24 ?_
  refine z_top (st1 := [.int 223]) (congrArg (fun w9 : Int32 => ([.int w9] : List Value)) (show ((447 : Int32) >>> ((1 : Int32) &&& (31 : Int32)) : Int32) = 223 by decide +kernel)) ?_
  refine z_iconst (v := 1) B dX10_copyFrom_25 rfl ?_
  refine z_iand B dX10_copyFrom_26 ?_
  refine z_top (st1 := [.int 1]) (congrArg (fun w9 : Int32 => ([.int w9] : List Value)) (show (223 &&& 1 : Int32) = 1 by decide +kernel)) ?_
  refine z_iconst (v := 1) B dX10_copyFrom_27 rfl ?_
  refine z_icmp_ne (tgt := 37) B dX10_copyFrom_28 rfl (fun h9 => absurd (by decide) h9) (fun c_4 => ?_)
  refine z_aload_n B dX10_copyFrom_31 rfl 2 rfl ?_
  refine z_iload B dX10_copyFrom_32 0 rfl ?_
  have h_13 : Φ4 h = some (o_ 12 [.ref f, .int 1, .int 1, .int 1]) := ((fr4 h).trans h_10)
  have h_14 : Φ4 f = some (ai_ G 9 (upd g (0 : Int32).toNatClampNeg 0)) := ((fr4 f).trans h_9)
  refine z_callV (As := [.int 1]) (rest := []) B (c_X10_addField G l Φ4 sz h f 1 1 1 (upd g (0 : Int32).toNatClampNeg 0) 1 h_13 h_14 hne_h_f hna_h hna_f (by decide) (by decide) (by decide) (by decide) (vin rfl) (vin rfl)) (cwV 1 B.1.2.2.2.2 gX10_copyFrom_X10_addField rfl rfl rfl (by decide +kernel) ⟨Nat.le_of_ble_eq_true rfl, Nat.le_of_ble_eq_true rfl⟩) h_13 rfl rfl rfl rfl (Nat.le_of_ble_eq_true rfl) dX10_copyFrom_34 ⟨Nat.le_of_ble_eq_true rfl, Nat.le_of_ble_eq_true rfl⟩ (fun v5 Φ5 sz5 st5 hp5 hs5 => ?_)
  obtain ⟨rfl, hq5, fr5, h_15, h_16⟩ := hp5
  replace hq5 : sz5 = sz := hq5
  subst sz5
  replace hs5 : st5 = [] := hs5
  subst st5
  have h_17 : Φ5 f = some (ai_ G 9 (upd (upd g (0 : Int32).toNatClampNeg 0) (1 : Int32).toNatClampNeg 1)) := h_15
  have h_18 : Φ5 h = some (o_ 12 [.ref f, .int 2, .int 3, .int 2]) := h_16
  refine z_iinc (k := 1) (v := 2) (lv' := [(3, .int 2), (4, .int 1), (0, .ref h), (1, .ref h2), (2, .int 447)]) B dX10_copyFrom_37 rfl rfl (Nat.le_of_ble_eq_true rfl) rfl ?_
  refine z_goto (tgt := 6) B dX10_copyFrom_40 rfl ?_
  refine z_iload_n B dX10_copyFrom_6 rfl 0 rfl ?_
  refine z_aload_n B dX10_copyFrom_7 rfl 3 rfl ?_
  have h_19 : Φ5 h2 = some (o_ 12 [.ref f2, .int 9, .int b2, .int d2]) := ((fr5 h2 hne_h2_f (Ne.symm hne_h_h2)).trans ((fr4 h2).trans h_11))
  refine z_get (ref := "FlowExporter$Template") (C := RX10) (T := TX10) (N := 4) (ci := 12) (v := .int 9) B (by decide +kernel) rfl 1 (by decide) (by decide +kernel) rfl h_19 rfl dX10_copyFrom_8 ?_
  refine z_icmp_ge (tgt := 43) B dX10_copyFrom_11 rfl (fun h9 => absurd h9 (by decide)) (fun c_5 => ?_)
  refine z_aload_n B dX10_copyFrom_14 rfl 3 rfl ?_
  refine z_iload_n B dX10_copyFrom_15 rfl 0 rfl ?_
  have h_20 : Φ5 f2 = some (ai_ G 9 g2) := ((fr5 f2 (Ne.symm hne_f_f2) (Ne.symm hne_h_f2)).trans ((fr4 f2).trans h_12))
  refine z_callV (As := [.int 2]) (rest := []) B (c_X10_field G l Φ5 sz h2 f2 9 b2 d2 g2 2 h_19 h_20 (by decide) (by decide) (vin rfl)) (cwV 1 B.1.2.2.2.2 gX10_copyFrom_X10_field rfl rfl rfl (by decide +kernel) ⟨Nat.le_of_ble_eq_true rfl, Nat.le_of_ble_eq_true rfl⟩) h_19 rfl rfl rfl rfl (Nat.le_of_ble_eq_true rfl) dX10_copyFrom_16 ⟨Nat.le_of_ble_eq_true rfl, Nat.le_of_ble_eq_true rfl⟩ (fun v6 Φ6 sz6 st6 hp6 hs6 => ?_)
  obtain ⟨rfl, hq6, fr6⟩ := hp6
  replace hq6 : sz6 = sz := hq6
  subst sz6
  replace hs6 : st6 = [.int (g2 (2 : Int32).toNatClampNeg)] := hs6
  subst st6
  refine z_top (st1 := [.int 2]) (by rw [show g2 ((2 : Int32).toNatClampNeg) = 2 from hg2]) ?_
  refine z_istore (lv' := [(4, .int 2), (3, .int 2), (0, .ref h), (1, .ref h2), (2, .int 447)]) B dX10_copyFrom_19 (Nat.le_of_ble_eq_true rfl) rfl ?_
  refine z_iload_n B dX10_copyFrom_21 rfl 4 rfl ?_
  refine z_iload B dX10_copyFrom_22 0 rfl ?_
  refine z_ishr B dX10_copyFrom_24 ?_
  refine z_top (st1 := [.int 111]) (congrArg (fun w9 : Int32 => ([.int w9] : List Value)) (show ((447 : Int32) >>> ((2 : Int32) &&& (31 : Int32)) : Int32) = 111 by decide +kernel)) ?_
  refine z_iconst (v := 1) B dX10_copyFrom_25 rfl ?_
  refine z_iand B dX10_copyFrom_26 ?_
  refine z_top (st1 := [.int 1]) (congrArg (fun w9 : Int32 => ([.int w9] : List Value)) (show (111 &&& 1 : Int32) = 1 by decide +kernel)) ?_
  refine z_iconst (v := 1) B dX10_copyFrom_27 rfl ?_
  refine z_icmp_ne (tgt := 37) B dX10_copyFrom_28 rfl (fun h9 => absurd (by decide) h9) (fun c_6 => ?_)
  refine z_aload_n B dX10_copyFrom_31 rfl 2 rfl ?_
  refine z_iload B dX10_copyFrom_32 0 rfl ?_
  have h_21 : Φ6 h = some (o_ 12 [.ref f, .int 2, .int 3, .int 2]) := ((fr6 h).trans h_18)
  have h_22 : Φ6 f = some (ai_ G 9 (upd (upd g (0 : Int32).toNatClampNeg 0) (1 : Int32).toNatClampNeg 1)) := ((fr6 f).trans h_17)
  refine z_callV (As := [.int 2]) (rest := []) B (c_X10_addField G l Φ6 sz h f 2 3 2 (upd (upd g (0 : Int32).toNatClampNeg 0) (1 : Int32).toNatClampNeg 1) 2 h_21 h_22 hne_h_f hna_h hna_f (by decide) (by decide) (by decide) (by decide) (vin rfl) (vin rfl)) (cwV 1 B.1.2.2.2.2 gX10_copyFrom_X10_addField rfl rfl rfl (by decide +kernel) ⟨Nat.le_of_ble_eq_true rfl, Nat.le_of_ble_eq_true rfl⟩) h_21 rfl rfl rfl rfl (Nat.le_of_ble_eq_true rfl) dX10_copyFrom_34 ⟨Nat.le_of_ble_eq_true rfl, Nat.le_of_ble_eq_true rfl⟩ (fun v7 Φ7 sz7 st7 hp7 hs7 => ?_)
  obtain ⟨rfl, hq7, fr7, h_23, h_24⟩ := hp7
  replace hq7 : sz7 = sz := hq7
  subst sz7
  replace hs7 : st7 = [] := hs7
  subst st7
  have h_25 : Φ7 f = some (ai_ G 9 (upd (upd (upd g (0 : Int32).toNatClampNeg 0) (1 : Int32).toNatClampNeg 1) (2 : Int32).toNatClampNeg 2)) := h_23
  have h_26 : Φ7 h = some (o_ 12 [.ref f, .int 3, .int 7, .int 4]) := h_24
  refine z_iinc (k := 1) (v := 3) (lv' := [(3, .int 3), (4, .int 2), (0, .ref h), (1, .ref h2), (2, .int 447)]) B dX10_copyFrom_37 rfl rfl (Nat.le_of_ble_eq_true rfl) rfl ?_
  refine z_goto (tgt := 6) B dX10_copyFrom_40 rfl ?_
  refine z_iload_n B dX10_copyFrom_6 rfl 0 rfl ?_
  refine z_aload_n B dX10_copyFrom_7 rfl 3 rfl ?_
  have h_27 : Φ7 h2 = some (o_ 12 [.ref f2, .int 9, .int b2, .int d2]) := ((fr7 h2 hne_h2_f (Ne.symm hne_h_h2)).trans ((fr6 h2).trans h_19))
  refine z_get (ref := "FlowExporter$Template") (C := RX10) (T := TX10) (N := 4) (ci := 12) (v := .int 9) B (by decide +kernel) rfl 1 (by decide) (by decide +kernel) rfl h_27 rfl dX10_copyFrom_8 ?_
  refine z_icmp_ge (tgt := 43) B dX10_copyFrom_11 rfl (fun h9 => absurd h9 (by decide)) (fun c_7 => ?_)
  refine z_aload_n B dX10_copyFrom_14 rfl 3 rfl ?_
  refine z_iload_n B dX10_copyFrom_15 rfl 0 rfl ?_
  have h_28 : Φ7 f2 = some (ai_ G 9 g2) := ((fr7 f2 (Ne.symm hne_f_f2) (Ne.symm hne_h_f2)).trans ((fr6 f2).trans h_20))
  refine z_callV (As := [.int 3]) (rest := []) B (c_X10_field G l Φ7 sz h2 f2 9 b2 d2 g2 3 h_27 h_28 (by decide) (by decide) (vin rfl)) (cwV 1 B.1.2.2.2.2 gX10_copyFrom_X10_field rfl rfl rfl (by decide +kernel) ⟨Nat.le_of_ble_eq_true rfl, Nat.le_of_ble_eq_true rfl⟩) h_27 rfl rfl rfl rfl (Nat.le_of_ble_eq_true rfl) dX10_copyFrom_16 ⟨Nat.le_of_ble_eq_true rfl, Nat.le_of_ble_eq_true rfl⟩ (fun v8 Φ8 sz8 st8 hp8 hs8 => ?_)
  obtain ⟨rfl, hq8, fr8⟩ := hp8
  replace hq8 : sz8 = sz := hq8
  subst sz8
  replace hs8 : st8 = [.int (g2 (3 : Int32).toNatClampNeg)] := hs8
  subst st8
  refine z_top (st1 := [.int 3]) (by rw [show g2 ((3 : Int32).toNatClampNeg) = 3 from hg3]) ?_
  refine z_istore (lv' := [(4, .int 3), (3, .int 3), (0, .ref h), (1, .ref h2), (2, .int 447)]) B dX10_copyFrom_19 (Nat.le_of_ble_eq_true rfl) rfl ?_
  refine z_iload_n B dX10_copyFrom_21 rfl 4 rfl ?_
  refine z_iload B dX10_copyFrom_22 0 rfl ?_
  refine z_ishr B dX10_copyFrom_24 ?_
  refine z_top (st1 := [.int 55]) (congrArg (fun w9 : Int32 => ([.int w9] : List Value)) (show ((447 : Int32) >>> ((3 : Int32) &&& (31 : Int32)) : Int32) = 55 by decide +kernel)) ?_
  refine z_iconst (v := 1) B dX10_copyFrom_25 rfl ?_
  refine z_iand B dX10_copyFrom_26 ?_
  refine z_top (st1 := [.int 1]) (congrArg (fun w9 : Int32 => ([.int w9] : List Value)) (show (55 &&& 1 : Int32) = 1 by decide +kernel)) ?_
  refine z_iconst (v := 1) B dX10_copyFrom_27 rfl ?_
  refine z_icmp_ne (tgt := 37) B dX10_copyFrom_28 rfl (fun h9 => absurd (by decide) h9) (fun c_8 => ?_)
  refine z_aload_n B dX10_copyFrom_31 rfl 2 rfl ?_
  refine z_iload B dX10_copyFrom_32 0 rfl ?_
  have h_29 : Φ8 h = some (o_ 12 [.ref f, .int 3, .int 7, .int 4]) := ((fr8 h).trans h_26)
  have h_30 : Φ8 f = some (ai_ G 9 (upd (upd (upd g (0 : Int32).toNatClampNeg 0) (1 : Int32).toNatClampNeg 1) (2 : Int32).toNatClampNeg 2)) := ((fr8 f).trans h_25)
  refine z_callV (As := [.int 3]) (rest := []) B (c_X10_addField G l Φ8 sz h f 3 7 4 (upd (upd (upd g (0 : Int32).toNatClampNeg 0) (1 : Int32).toNatClampNeg 1) (2 : Int32).toNatClampNeg 2) 3 h_29 h_30 hne_h_f hna_h hna_f (by decide) (by decide) (by decide) (by decide) (vin rfl) (vin rfl)) (cwV 1 B.1.2.2.2.2 gX10_copyFrom_X10_addField rfl rfl rfl (by decide +kernel) ⟨Nat.le_of_ble_eq_true rfl, Nat.le_of_ble_eq_true rfl⟩) h_29 rfl rfl rfl rfl (Nat.le_of_ble_eq_true rfl) dX10_copyFrom_34 ⟨Nat.le_of_ble_eq_true rfl, Nat.le_of_ble_eq_true rfl⟩ (fun v9 Φ9 sz9 st9 hp9 hs9 => ?_)
  obtain ⟨rfl, hq9, fr9, h_31, h_32⟩ := hp9
  replace hq9 : sz9 = sz := hq9
  subst sz9
  replace hs9 : st9 = [] := hs9
  subst st9
  have h_33 : Φ9 f = some (ai_ G 9 (upd (upd (upd (upd g (0 : Int32).toNatClampNeg 0) (1 : Int32).toNatClampNeg 1) (2 : Int32).toNatClampNeg 2) (3 : Int32).toNatClampNeg 3)) := h_31
  have h_34 : Φ9 h = some (o_ 12 [.ref f, .int 4, .int 15, .int 5]) := h_32
  refine z_iinc (k := 1) (v := 4) (lv' := [(3, .int 4), (4, .int 3), (0, .ref h), (1, .ref h2), (2, .int 447)]) B dX10_copyFrom_37 rfl rfl (Nat.le_of_ble_eq_true rfl) rfl ?_
  refine z_goto (tgt := 6) B dX10_copyFrom_40 rfl ?_
  refine z_iload_n B dX10_copyFrom_6 rfl 0 rfl ?_
  refine z_aload_n B dX10_copyFrom_7 rfl 3 rfl ?_
  have h_35 : Φ9 h2 = some (o_ 12 [.ref f2, .int 9, .int b2, .int d2]) := ((fr9 h2 hne_h2_f (Ne.symm hne_h_h2)).trans ((fr8 h2).trans h_27))
  refine z_get (ref := "FlowExporter$Template") (C := RX10) (T := TX10) (N := 4) (ci := 12) (v := .int 9) B (by decide +kernel) rfl 1 (by decide) (by decide +kernel) rfl h_35 rfl dX10_copyFrom_8 ?_
  refine z_icmp_ge (tgt := 43) B dX10_copyFrom_11 rfl (fun h9 => absurd h9 (by decide)) (fun c_9 => ?_)
  refine z_aload_n B dX10_copyFrom_14 rfl 3 rfl ?_
  refine z_iload_n B dX10_copyFrom_15 rfl 0 rfl ?_
  have h_36 : Φ9 f2 = some (ai_ G 9 g2) := ((fr9 f2 (Ne.symm hne_f_f2) (Ne.symm hne_h_f2)).trans ((fr8 f2).trans h_28))
  refine z_callV (As := [.int 4]) (rest := []) B (c_X10_field G l Φ9 sz h2 f2 9 b2 d2 g2 4 h_35 h_36 (by decide) (by decide) (vin rfl)) (cwV 1 B.1.2.2.2.2 gX10_copyFrom_X10_field rfl rfl rfl (by decide +kernel) ⟨Nat.le_of_ble_eq_true rfl, Nat.le_of_ble_eq_true rfl⟩) h_35 rfl rfl rfl rfl (Nat.le_of_ble_eq_true rfl) dX10_copyFrom_16 ⟨Nat.le_of_ble_eq_true rfl, Nat.le_of_ble_eq_true rfl⟩ (fun v10 Φ10 sz10 st10 hp10 hs10 => ?_)
  obtain ⟨rfl, hq10, fr10⟩ := hp10
  replace hq10 : sz10 = sz := hq10
  subst sz10
  replace hs10 : st10 = [.int (g2 (4 : Int32).toNatClampNeg)] := hs10
  subst st10
  refine z_top (st1 := [.int 4]) (by rw [show g2 ((4 : Int32).toNatClampNeg) = 4 from hg4]) ?_
  refine z_istore (lv' := [(4, .int 4), (3, .int 4), (0, .ref h), (1, .ref h2), (2, .int 447)]) B dX10_copyFrom_19 (Nat.le_of_ble_eq_true rfl) rfl ?_
  refine z_iload_n B dX10_copyFrom_21 rfl 4 rfl ?_
  refine z_iload B dX10_copyFrom_22 0 rfl ?_
  refine z_ishr B dX10_copyFrom_24 ?_
  refine z_top (st1 := [.int 27]) (congrArg (fun w9 : Int32 => ([.int w9] : List Value)) (show ((447 : Int32) >>> ((4 : Int32) &&& (31 : Int32)) : Int32) = 27 by decide +kernel)) ?_
  refine z_iconst (v := 1) B dX10_copyFrom_25 rfl ?_
  refine z_iand B dX10_copyFrom_26 ?_
  refine z_top (st1 := [.int 1]) (congrArg (fun w9 : Int32 => ([.int w9] : List Value)) (show (27 &&& 1 : Int32) = 1 by decide +kernel)) ?_
  refine z_iconst (v := 1) B dX10_copyFrom_27 rfl ?_
  refine z_icmp_ne (tgt := 37) B dX10_copyFrom_28 rfl (fun h9 => absurd (by decide) h9) (fun c_10 => ?_)
  refine z_aload_n B dX10_copyFrom_31 rfl 2 rfl ?_
  refine z_iload B dX10_copyFrom_32 0 rfl ?_
  have h_37 : Φ10 h = some (o_ 12 [.ref f, .int 4, .int 15, .int 5]) := ((fr10 h).trans h_34)
  have h_38 : Φ10 f = some (ai_ G 9 (upd (upd (upd (upd g (0 : Int32).toNatClampNeg 0) (1 : Int32).toNatClampNeg 1) (2 : Int32).toNatClampNeg 2) (3 : Int32).toNatClampNeg 3)) := ((fr10 f).trans h_33)
  refine z_callV (As := [.int 4]) (rest := []) B (c_X10_addField G l Φ10 sz h f 4 15 5 (upd (upd (upd (upd g (0 : Int32).toNatClampNeg 0) (1 : Int32).toNatClampNeg 1) (2 : Int32).toNatClampNeg 2) (3 : Int32).toNatClampNeg 3) 4 h_37 h_38 hne_h_f hna_h hna_f (by decide) (by decide) (by decide) (by decide) (vin rfl) (vin rfl)) (cwV 1 B.1.2.2.2.2 gX10_copyFrom_X10_addField rfl rfl rfl (by decide +kernel) ⟨Nat.le_of_ble_eq_true rfl, Nat.le_of_ble_eq_true rfl⟩) h_37 rfl rfl rfl rfl (Nat.le_of_ble_eq_true rfl) dX10_copyFrom_34 ⟨Nat.le_of_ble_eq_true rfl, Nat.le_of_ble_eq_true rfl⟩ (fun v11 Φ11 sz11 st11 hp11 hs11 => ?_)
  obtain ⟨rfl, hq11, fr11, h_39, h_40⟩ := hp11
  replace hq11 : sz11 = sz := hq11
  subst sz11
  replace hs11 : st11 = [] := hs11
  subst st11
  have h_41 : Φ11 f = some (ai_ G 9 (upd (upd (upd (upd (upd g (0 : Int32).toNatClampNeg 0) (1 : Int32).toNatClampNeg 1) (2 : Int32).toNatClampNeg 2) (3 : Int32).toNatClampNeg 3) (4 : Int32).toNatClampNeg 4)) := h_39
  have h_42 : Φ11 h = some (o_ 12 [.ref f, .int 5, .int 31, .int 9]) := h_40
  refine z_iinc (k := 1) (v := 5) (lv' := [(3, .int 5), (4, .int 4), (0, .ref h), (1, .ref h2), (2, .int 447)]) B dX10_copyFrom_37 rfl rfl (Nat.le_of_ble_eq_true rfl) rfl ?_
  refine z_goto (tgt := 6) B dX10_copyFrom_40 rfl ?_
  refine z_iload_n B dX10_copyFrom_6 rfl 0 rfl ?_
  refine z_aload_n B dX10_copyFrom_7 rfl 3 rfl ?_
  have h_43 : Φ11 h2 = some (o_ 12 [.ref f2, .int 9, .int b2, .int d2]) := ((fr11 h2 hne_h2_f (Ne.symm hne_h_h2)).trans ((fr10 h2).trans h_35))
  refine z_get (ref := "FlowExporter$Template") (C := RX10) (T := TX10) (N := 4) (ci := 12) (v := .int 9) B (by decide +kernel) rfl 1 (by decide) (by decide +kernel) rfl h_43 rfl dX10_copyFrom_8 ?_
  refine z_icmp_ge (tgt := 43) B dX10_copyFrom_11 rfl (fun h9 => absurd h9 (by decide)) (fun c_11 => ?_)
  refine z_aload_n B dX10_copyFrom_14 rfl 3 rfl ?_
  refine z_iload_n B dX10_copyFrom_15 rfl 0 rfl ?_
  have h_44 : Φ11 f2 = some (ai_ G 9 g2) := ((fr11 f2 (Ne.symm hne_f_f2) (Ne.symm hne_h_f2)).trans ((fr10 f2).trans h_36))
  refine z_callV (As := [.int 5]) (rest := []) B (c_X10_field G l Φ11 sz h2 f2 9 b2 d2 g2 5 h_43 h_44 (by decide) (by decide) (vin rfl)) (cwV 1 B.1.2.2.2.2 gX10_copyFrom_X10_field rfl rfl rfl (by decide +kernel) ⟨Nat.le_of_ble_eq_true rfl, Nat.le_of_ble_eq_true rfl⟩) h_43 rfl rfl rfl rfl (Nat.le_of_ble_eq_true rfl) dX10_copyFrom_16 ⟨Nat.le_of_ble_eq_true rfl, Nat.le_of_ble_eq_true rfl⟩ (fun v12 Φ12 sz12 st12 hp12 hs12 => ?_)
  obtain ⟨rfl, hq12, fr12⟩ := hp12
  replace hq12 : sz12 = sz := hq12
  subst sz12
  replace hs12 : st12 = [.int (g2 (5 : Int32).toNatClampNeg)] := hs12
  subst st12
  refine z_top (st1 := [.int 5]) (by rw [show g2 ((5 : Int32).toNatClampNeg) = 5 from hg5]) ?_
  refine z_istore (lv' := [(4, .int 5), (3, .int 5), (0, .ref h), (1, .ref h2), (2, .int 447)]) B dX10_copyFrom_19 (Nat.le_of_ble_eq_true rfl) rfl ?_
  refine z_iload_n B dX10_copyFrom_21 rfl 4 rfl ?_
  refine z_iload B dX10_copyFrom_22 0 rfl ?_
  refine z_ishr B dX10_copyFrom_24 ?_
  refine z_top (st1 := [.int 13]) (congrArg (fun w9 : Int32 => ([.int w9] : List Value)) (show ((447 : Int32) >>> ((5 : Int32) &&& (31 : Int32)) : Int32) = 13 by decide +kernel)) ?_
  refine z_iconst (v := 1) B dX10_copyFrom_25 rfl ?_
  refine z_iand B dX10_copyFrom_26 ?_
  refine z_top (st1 := [.int 1]) (congrArg (fun w9 : Int32 => ([.int w9] : List Value)) (show (13 &&& 1 : Int32) = 1 by decide +kernel)) ?_
  refine z_iconst (v := 1) B dX10_copyFrom_27 rfl ?_
  refine z_icmp_ne (tgt := 37) B dX10_copyFrom_28 rfl (fun h9 => absurd (by decide) h9) (fun c_12 => ?_)
  refine z_aload_n B dX10_copyFrom_31 rfl 2 rfl ?_
  refine z_iload B dX10_copyFrom_32 0 rfl ?_
  have h_45 : Φ12 h = some (o_ 12 [.ref f, .int 5, .int 31, .int 9]) := ((fr12 h).trans h_42)
  have h_46 : Φ12 f = some (ai_ G 9 (upd (upd (upd (upd (upd g (0 : Int32).toNatClampNeg 0) (1 : Int32).toNatClampNeg 1) (2 : Int32).toNatClampNeg 2) (3 : Int32).toNatClampNeg 3) (4 : Int32).toNatClampNeg 4)) := ((fr12 f).trans h_41)
  refine z_callV (As := [.int 5]) (rest := []) B (c_X10_addField G l Φ12 sz h f 5 31 9 (upd (upd (upd (upd (upd g (0 : Int32).toNatClampNeg 0) (1 : Int32).toNatClampNeg 1) (2 : Int32).toNatClampNeg 2) (3 : Int32).toNatClampNeg 3) (4 : Int32).toNatClampNeg 4) 5 h_45 h_46 hne_h_f hna_h hna_f (by decide) (by decide) (by decide) (by decide) (vin rfl) (vin rfl)) (cwV 1 B.1.2.2.2.2 gX10_copyFrom_X10_addField rfl rfl rfl (by decide +kernel) ⟨Nat.le_of_ble_eq_true rfl, Nat.le_of_ble_eq_true rfl⟩) h_45 rfl rfl rfl rfl (Nat.le_of_ble_eq_true rfl) dX10_copyFrom_34 ⟨Nat.le_of_ble_eq_true rfl, Nat.le_of_ble_eq_true rfl⟩ (fun v13 Φ13 sz13 st13 hp13 hs13 => ?_)
  obtain ⟨rfl, hq13, fr13, h_47, h_48⟩ := hp13
  replace hq13 : sz13 = sz := hq13
  subst sz13
  replace hs13 : st13 = [] := hs13
  subst st13
  have h_49 : Φ13 f = some (ai_ G 9 (upd (upd (upd (upd (upd (upd g (0 : Int32).toNatClampNeg 0) (1 : Int32).toNatClampNeg 1) (2 : Int32).toNatClampNeg 2) (3 : Int32).toNatClampNeg 3) (4 : Int32).toNatClampNeg 4) (5 : Int32).toNatClampNeg 5)) := h_47
  have h_50 : Φ13 h = some (o_ 12 [.ref f, .int 6, .int 63, .int 17]) := h_48
  refine z_iinc (k := 1) (v := 6) (lv' := [(3, .int 6), (4, .int 5), (0, .ref h), (1, .ref h2), (2, .int 447)]) B dX10_copyFrom_37 rfl rfl (Nat.le_of_ble_eq_true rfl) rfl ?_
  refine z_goto (tgt := 6) B dX10_copyFrom_40 rfl ?_
  refine z_iload_n B dX10_copyFrom_6 rfl 0 rfl ?_
  refine z_aload_n B dX10_copyFrom_7 rfl 3 rfl ?_
  have h_51 : Φ13 h2 = some (o_ 12 [.ref f2, .int 9, .int b2, .int d2]) := ((fr13 h2 hne_h2_f (Ne.symm hne_h_h2)).trans ((fr12 h2).trans h_43))
  refine z_get (ref := "FlowExporter$Template") (C := RX10) (T := TX10) (N := 4) (ci := 12) (v := .int 9) B (by decide +kernel) rfl 1 (by decide) (by decide +kernel) rfl h_51 rfl dX10_copyFrom_8 ?_
  refine z_icmp_ge (tgt := 43) B dX10_copyFrom_11 rfl (fun h9 => absurd h9 (by decide)) (fun c_13 => ?_)
  refine z_aload_n B dX10_copyFrom_14 rfl 3 rfl ?_
  refine z_iload_n B dX10_copyFrom_15 rfl 0 rfl ?_
  have h_52 : Φ13 f2 = some (ai_ G 9 g2) := ((fr13 f2 (Ne.symm hne_f_f2) (Ne.symm hne_h_f2)).trans ((fr12 f2).trans h_44))
  refine z_callV (As := [.int 6]) (rest := []) B (c_X10_field G l Φ13 sz h2 f2 9 b2 d2 g2 6 h_51 h_52 (by decide) (by decide) (vin rfl)) (cwV 1 B.1.2.2.2.2 gX10_copyFrom_X10_field rfl rfl rfl (by decide +kernel) ⟨Nat.le_of_ble_eq_true rfl, Nat.le_of_ble_eq_true rfl⟩) h_51 rfl rfl rfl rfl (Nat.le_of_ble_eq_true rfl) dX10_copyFrom_16 ⟨Nat.le_of_ble_eq_true rfl, Nat.le_of_ble_eq_true rfl⟩ (fun v14 Φ14 sz14 st14 hp14 hs14 => ?_)
  obtain ⟨rfl, hq14, fr14⟩ := hp14
  replace hq14 : sz14 = sz := hq14
  subst sz14
  replace hs14 : st14 = [.int (g2 (6 : Int32).toNatClampNeg)] := hs14
  subst st14
  refine z_top (st1 := [.int 6]) (by rw [show g2 ((6 : Int32).toNatClampNeg) = 6 from hg6]) ?_
  refine z_istore (lv' := [(4, .int 6), (3, .int 6), (0, .ref h), (1, .ref h2), (2, .int 447)]) B dX10_copyFrom_19 (Nat.le_of_ble_eq_true rfl) rfl ?_
  refine z_iload_n B dX10_copyFrom_21 rfl 4 rfl ?_
  refine z_iload B dX10_copyFrom_22 0 rfl ?_
  refine z_ishr B dX10_copyFrom_24 ?_
  refine z_top (st1 := [.int 6]) (congrArg (fun w9 : Int32 => ([.int w9] : List Value)) (show ((447 : Int32) >>> ((6 : Int32) &&& (31 : Int32)) : Int32) = 6 by decide +kernel)) ?_
  refine z_iconst (v := 1) B dX10_copyFrom_25 rfl ?_
  refine z_iand B dX10_copyFrom_26 ?_
  refine z_top (st1 := [.int 0]) (congrArg (fun w9 : Int32 => ([.int w9] : List Value)) (show (6 &&& 1 : Int32) = 0 by decide +kernel)) ?_
  refine z_iconst (v := 1) B dX10_copyFrom_27 rfl ?_
  refine z_icmp_ne (tgt := 37) B dX10_copyFrom_28 rfl (fun c_14 => ?_) (fun h9 => absurd h9 (by decide))
  refine z_iinc (k := 1) (v := 7) (lv' := [(3, .int 7), (4, .int 6), (0, .ref h), (1, .ref h2), (2, .int 447)]) B dX10_copyFrom_37 rfl rfl (Nat.le_of_ble_eq_true rfl) rfl ?_
  refine z_goto (tgt := 6) B dX10_copyFrom_40 rfl ?_
  refine z_iload_n B dX10_copyFrom_6 rfl 0 rfl ?_
  refine z_aload_n B dX10_copyFrom_7 rfl 3 rfl ?_
  have h_53 : Φ14 h2 = some (o_ 12 [.ref f2, .int 9, .int b2, .int d2]) := ((fr14 h2).trans h_51)
  refine z_get (ref := "FlowExporter$Template") (C := RX10) (T := TX10) (N := 4) (ci := 12) (v := .int 9) B (by decide +kernel) rfl 1 (by decide) (by decide +kernel) rfl h_53 rfl dX10_copyFrom_8 ?_
  refine z_icmp_ge (tgt := 43) B dX10_copyFrom_11 rfl (fun h9 => absurd h9 (by decide)) (fun c_15 => ?_)
  refine z_aload_n B dX10_copyFrom_14 rfl 3 rfl ?_
  refine z_iload_n B dX10_copyFrom_15 rfl 0 rfl ?_
  have h_54 : Φ14 f2 = some (ai_ G 9 g2) := ((fr14 f2).trans h_52)
  refine z_callV (As := [.int 7]) (rest := []) B (c_X10_field G l Φ14 sz h2 f2 9 b2 d2 g2 7 h_53 h_54 (by decide) (by decide) (vin rfl)) (cwV 1 B.1.2.2.2.2 gX10_copyFrom_X10_field rfl rfl rfl (by decide +kernel) ⟨Nat.le_of_ble_eq_true rfl, Nat.le_of_ble_eq_true rfl⟩) h_53 rfl rfl rfl rfl (Nat.le_of_ble_eq_true rfl) dX10_copyFrom_16 ⟨Nat.le_of_ble_eq_true rfl, Nat.le_of_ble_eq_true rfl⟩ (fun v15 Φ15 sz15 st15 hp15 hs15 => ?_)
  obtain ⟨rfl, hq15, fr15⟩ := hp15
  replace hq15 : sz15 = sz := hq15
  subst sz15
  replace hs15 : st15 = [.int (g2 (7 : Int32).toNatClampNeg)] := hs15
  subst st15
  refine z_top (st1 := [.int 7]) (by rw [show g2 ((7 : Int32).toNatClampNeg) = 7 from hg7]) ?_
  refine z_istore (lv' := [(4, .int 7), (3, .int 7), (0, .ref h), (1, .ref h2), (2, .int 447)]) B dX10_copyFrom_19 (Nat.le_of_ble_eq_true rfl) rfl ?_
  refine z_iload_n B dX10_copyFrom_21 rfl 4 rfl ?_
  refine z_iload B dX10_copyFrom_22 0 rfl ?_
  refine z_ishr B dX10_copyFrom_24 ?_
  refine z_top (st1 := [.int 3]) (congrArg (fun w9 : Int32 => ([.int w9] : List Value)) (show ((447 : Int32) >>> ((7 : Int32) &&& (31 : Int32)) : Int32) = 3 by decide +kernel)) ?_
  refine z_iconst (v := 1) B dX10_copyFrom_25 rfl ?_
  refine z_iand B dX10_copyFrom_26 ?_
  refine z_top (st1 := [.int 1]) (congrArg (fun w9 : Int32 => ([.int w9] : List Value)) (show (3 &&& 1 : Int32) = 1 by decide +kernel)) ?_
  refine z_iconst (v := 1) B dX10_copyFrom_27 rfl ?_
  refine z_icmp_ne (tgt := 37) B dX10_copyFrom_28 rfl (fun h9 => absurd (by decide) h9) (fun c_16 => ?_)
  refine z_aload_n B dX10_copyFrom_31 rfl 2 rfl ?_
  refine z_iload B dX10_copyFrom_32 0 rfl ?_
  have h_55 : Φ15 h = some (o_ 12 [.ref f, .int 6, .int 63, .int 17]) := ((fr15 h).trans ((fr14 h).trans h_50))
  have h_56 : Φ15 f = some (ai_ G 9 (upd (upd (upd (upd (upd (upd g (0 : Int32).toNatClampNeg 0) (1 : Int32).toNatClampNeg 1) (2 : Int32).toNatClampNeg 2) (3 : Int32).toNatClampNeg 3) (4 : Int32).toNatClampNeg 4) (5 : Int32).toNatClampNeg 5)) := ((fr15 f).trans ((fr14 f).trans h_49))
  refine z_callV (As := [.int 7]) (rest := []) B (c_X10_addField G l Φ15 sz h f 6 63 17 (upd (upd (upd (upd (upd (upd g (0 : Int32).toNatClampNeg 0) (1 : Int32).toNatClampNeg 1) (2 : Int32).toNatClampNeg 2) (3 : Int32).toNatClampNeg 3) (4 : Int32).toNatClampNeg 4) (5 : Int32).toNatClampNeg 5) 7 h_55 h_56 hne_h_f hna_h hna_f (by decide) (by decide) (by decide) (by decide) (vin rfl) (vin rfl)) (cwV 1 B.1.2.2.2.2 gX10_copyFrom_X10_addField rfl rfl rfl (by decide +kernel) ⟨Nat.le_of_ble_eq_true rfl, Nat.le_of_ble_eq_true rfl⟩) h_55 rfl rfl rfl rfl (Nat.le_of_ble_eq_true rfl) dX10_copyFrom_34 ⟨Nat.le_of_ble_eq_true rfl, Nat.le_of_ble_eq_true rfl⟩ (fun v16 Φ16 sz16 st16 hp16 hs16 => ?_)
  obtain ⟨rfl, hq16, fr16, h_57, h_58⟩ := hp16
  replace hq16 : sz16 = sz := hq16
  subst sz16
  replace hs16 : st16 = [] := hs16
  subst st16
  have h_59 : Φ16 f = some (ai_ G 9 (upd (upd (upd (upd (upd (upd (upd g (0 : Int32).toNatClampNeg 0) (1 : Int32).toNatClampNeg 1) (2 : Int32).toNatClampNeg 2) (3 : Int32).toNatClampNeg 3) (4 : Int32).toNatClampNeg 4) (5 : Int32).toNatClampNeg 5) (6 : Int32).toNatClampNeg 7)) := h_57
  have h_60 : Φ16 h = some (o_ 12 [.ref f, .int 7, .int 191, .int 21]) := h_58
  refine z_iinc (k := 1) (v := 8) (lv' := [(3, .int 8), (4, .int 7), (0, .ref h), (1, .ref h2), (2, .int 447)]) B dX10_copyFrom_37 rfl rfl (Nat.le_of_ble_eq_true rfl) rfl ?_
  refine z_goto (tgt := 6) B dX10_copyFrom_40 rfl ?_
  refine z_iload_n B dX10_copyFrom_6 rfl 0 rfl ?_
  refine z_aload_n B dX10_copyFrom_7 rfl 3 rfl ?_
  have h_61 : Φ16 h2 = some (o_ 12 [.ref f2, .int 9, .int b2, .int d2]) := ((fr16 h2 hne_h2_f (Ne.symm hne_h_h2)).trans ((fr15 h2).trans h_53))
  refine z_get (ref := "FlowExporter$Template") (C := RX10) (T := TX10) (N := 4) (ci := 12) (v := .int 9) B (by decide +kernel) rfl 1 (by decide) (by decide +kernel) rfl h_61 rfl dX10_copyFrom_8 ?_
  refine z_icmp_ge (tgt := 43) B dX10_copyFrom_11 rfl (fun h9 => absurd h9 (by decide)) (fun c_17 => ?_)
  refine z_aload_n B dX10_copyFrom_14 rfl 3 rfl ?_
  refine z_iload_n B dX10_copyFrom_15 rfl 0 rfl ?_
  have h_62 : Φ16 f2 = some (ai_ G 9 g2) := ((fr16 f2 (Ne.symm hne_f_f2) (Ne.symm hne_h_f2)).trans ((fr15 f2).trans h_54))
  refine z_callV (As := [.int 8]) (rest := []) B (c_X10_field G l Φ16 sz h2 f2 9 b2 d2 g2 8 h_61 h_62 (by decide) (by decide) (vin rfl)) (cwV 1 B.1.2.2.2.2 gX10_copyFrom_X10_field rfl rfl rfl (by decide +kernel) ⟨Nat.le_of_ble_eq_true rfl, Nat.le_of_ble_eq_true rfl⟩) h_61 rfl rfl rfl rfl (Nat.le_of_ble_eq_true rfl) dX10_copyFrom_16 ⟨Nat.le_of_ble_eq_true rfl, Nat.le_of_ble_eq_true rfl⟩ (fun v17 Φ17 sz17 st17 hp17 hs17 => ?_)
  obtain ⟨rfl, hq17, fr17⟩ := hp17
  replace hq17 : sz17 = sz := hq17
  subst sz17
  replace hs17 : st17 = [.int (g2 (8 : Int32).toNatClampNeg)] := hs17
  subst st17
  refine z_top (st1 := [.int 8]) (by rw [show g2 ((8 : Int32).toNatClampNeg) = 8 from hg8]) ?_
  refine z_istore (lv' := [(4, .int 8), (3, .int 8), (0, .ref h), (1, .ref h2), (2, .int 447)]) B dX10_copyFrom_19 (Nat.le_of_ble_eq_true rfl) rfl ?_
  refine z_iload_n B dX10_copyFrom_21 rfl 4 rfl ?_
  refine z_iload B dX10_copyFrom_22 0 rfl ?_
  refine z_ishr B dX10_copyFrom_24 ?_
  refine z_top (st1 := [.int 1]) (congrArg (fun w9 : Int32 => ([.int w9] : List Value)) (show ((447 : Int32) >>> ((8 : Int32) &&& (31 : Int32)) : Int32) = 1 by decide +kernel)) ?_
  refine z_iconst (v := 1) B dX10_copyFrom_25 rfl ?_
  refine z_iand B dX10_copyFrom_26 ?_
  refine z_top (st1 := [.int 1]) (congrArg (fun w9 : Int32 => ([.int w9] : List Value)) (show (1 &&& 1 : Int32) = 1 by decide +kernel)) ?_
  refine z_iconst (v := 1) B dX10_copyFrom_27 rfl ?_
  refine z_icmp_ne (tgt := 37) B dX10_copyFrom_28 rfl (fun h9 => absurd (by decide) h9) (fun c_18 => ?_)
  refine z_aload_n B dX10_copyFrom_31 rfl 2 rfl ?_
  refine z_iload B dX10_copyFrom_32 0 rfl ?_
  have h_63 : Φ17 h = some (o_ 12 [.ref f, .int 7, .int 191, .int 21]) := ((fr17 h).trans h_60)
  have h_64 : Φ17 f = some (ai_ G 9 (upd (upd (upd (upd (upd (upd (upd g (0 : Int32).toNatClampNeg 0) (1 : Int32).toNatClampNeg 1) (2 : Int32).toNatClampNeg 2) (3 : Int32).toNatClampNeg 3) (4 : Int32).toNatClampNeg 4) (5 : Int32).toNatClampNeg 5) (6 : Int32).toNatClampNeg 7)) := ((fr17 f).trans h_59)
  refine z_callV (As := [.int 8]) (rest := []) B (c_X10_addField G l Φ17 sz h f 7 191 21 (upd (upd (upd (upd (upd (upd (upd g (0 : Int32).toNatClampNeg 0) (1 : Int32).toNatClampNeg 1) (2 : Int32).toNatClampNeg 2) (3 : Int32).toNatClampNeg 3) (4 : Int32).toNatClampNeg 4) (5 : Int32).toNatClampNeg 5) (6 : Int32).toNatClampNeg 7) 8 h_63 h_64 hne_h_f hna_h hna_f (by decide) (by decide) (by decide) (by decide) (vin rfl) (vin rfl)) (cwV 1 B.1.2.2.2.2 gX10_copyFrom_X10_addField rfl rfl rfl (by decide +kernel) ⟨Nat.le_of_ble_eq_true rfl, Nat.le_of_ble_eq_true rfl⟩) h_63 rfl rfl rfl rfl (Nat.le_of_ble_eq_true rfl) dX10_copyFrom_34 ⟨Nat.le_of_ble_eq_true rfl, Nat.le_of_ble_eq_true rfl⟩ (fun v18 Φ18 sz18 st18 hp18 hs18 => ?_)
  obtain ⟨rfl, hq18, fr18, h_65, h_66⟩ := hp18
  replace hq18 : sz18 = sz := hq18
  subst sz18
  replace hs18 : st18 = [] := hs18
  subst st18
  have h_67 : Φ18 f = some (ai_ G 9 (upd (upd (upd (upd (upd (upd (upd (upd g (0 : Int32).toNatClampNeg 0) (1 : Int32).toNatClampNeg 1) (2 : Int32).toNatClampNeg 2) (3 : Int32).toNatClampNeg 3) (4 : Int32).toNatClampNeg 4) (5 : Int32).toNatClampNeg 5) (6 : Int32).toNatClampNeg 7) (7 : Int32).toNatClampNeg 8)) := h_65
  have h_68 : Φ18 h = some (o_ 12 [.ref f, .int 8, .int 447, .int 25]) := h_66
  refine z_iinc (k := 1) (v := 9) (lv' := [(3, .int 9), (4, .int 8), (0, .ref h), (1, .ref h2), (2, .int 447)]) B dX10_copyFrom_37 rfl rfl (Nat.le_of_ble_eq_true rfl) rfl ?_
  refine z_goto (tgt := 6) B dX10_copyFrom_40 rfl ?_
  refine z_iload_n B dX10_copyFrom_6 rfl 0 rfl ?_
  refine z_aload_n B dX10_copyFrom_7 rfl 3 rfl ?_
  have h_69 : Φ18 h2 = some (o_ 12 [.ref f2, .int 9, .int b2, .int d2]) := ((fr18 h2 hne_h2_f (Ne.symm hne_h_h2)).trans ((fr17 h2).trans h_61))
  refine z_get (ref := "FlowExporter$Template") (C := RX10) (T := TX10) (N := 4) (ci := 12) (v := .int 9) B (by decide +kernel) rfl 1 (by decide) (by decide +kernel) rfl h_69 rfl dX10_copyFrom_8 ?_
  refine z_icmp_ge (tgt := 43) B dX10_copyFrom_11 rfl (fun c_19 => ?_) (fun h9 => absurd (by decide) h9)
  exact z_ret_v B dX10_copyFrom_43 ⟨rfl, rfl, (fun b9 h9a h9b => ((fr18 b9 h9a h9b).trans ((fr17 b9).trans ((fr16 b9 h9a h9b).trans ((fr15 b9).trans ((fr14 b9).trans ((fr13 b9 h9a h9b).trans ((fr12 b9).trans ((fr11 b9 h9a h9b).trans ((fr10 b9).trans ((fr9 b9 h9a h9b).trans ((fr8 b9).trans ((fr7 b9 h9a h9b).trans ((fr6 b9).trans ((fr5 b9 h9a h9b).trans ((fr4 b9).trans ((fr3 b9 h9a h9b).trans ((fr2 b9).trans ((fr1 b9 h9b).trans rfl))))))))))))))))))), h_67, h_68⟩

set_option maxHeartbeats 4000000 in
set_option maxRecDepth 100000 in
theorem c_X10_copyFrom_z6 (G : EnvG) (l : Launch) (Φ : Hm) (sz : Nat) (h : Nat) (f : Nat) (a : Int32) (b : Int32) (d : Int32) (h2 : Nat) (f2 : Nat) (b2 : Int32) (d2 : Int32) (hc0 : Φ h = some (o_ 12 [.ref f, .int a, .int b, .int d])) (hc1 : Φ h2 = some (o_ 12 [.ref f2, .int 0, .int b2, .int d2])) (hne_h_h2 : h ≠ h2) (hna_h : G.2.2.2 ≤ h) : Ct G l yX10_copyFrom wsX10_copyFrom ({ frames := 1, cells := 0, slots := 0, locals := 20 }) 0 0 [.ref h, .ref h2, .int 447] Φ sz (fun v Φ1 sz1 => v = none ∧ sz1 = sz ∧ (∀ b9 : Nat, b9 ≠ h → Φ1 b9 = Φ b9) ∧ Φ1 h = some (o_ 12 [.ref f, .int 0, .int 0, .int 0])) := by
  refine Ct.of (cc := cX10_copyFrom) (maxL := 5) (ret := none) (by decide) rfl (Nat.le_of_ble_eq_true rfl) ?_
  intro p9 e9 s9 m9 w9 t9 k9 B
  show Z p9 l e9 _ s9 m9 _ w9 t9 k9 _ G 5 0 [(0, .ref h), (1, .ref h2), (2, .int 447)] [] Φ (sz) 0 0
  refine z_aload_n B dX10_copyFrom_0 rfl 0 rfl ?_
  refine z_callV (As := []) (rest := []) B (c_X10_clear G l Φ sz h f a b d hc0 hna_h) (cwV 0 B.1.2.2.2.2 gX10_copyFrom_X10_clear rfl rfl rfl (by decide +kernel) ⟨Nat.le_of_ble_eq_true rfl, Nat.le_of_ble_eq_true rfl⟩) hc0 rfl rfl rfl rfl (Nat.le_of_ble_eq_true rfl) dX10_copyFrom_1 ⟨Nat.le_of_ble_eq_true rfl, Nat.le_of_ble_eq_true rfl⟩ (fun v1 Φ1 sz1 st1 hp1 hs1 => ?_)
  obtain ⟨rfl, hq1, fr1, h_1⟩ := hp1
  replace hq1 : sz1 = sz := hq1
  subst sz1
  replace hs1 : st1 = [] := hs1
  subst st1
  have h_2 : Φ1 h = some (o_ 12 [.ref f, .int 0, .int 0, .int 0]) := h_1
  refine z_iconst (v := 0) B dX10_copyFrom_4 rfl ?_
  refine z_istore_n (lv' := [(3, .int 0), (0, .ref h), (1, .ref h2), (2, .int 447)]) B dX10_copyFrom_5 rfl (Nat.le_of_ble_eq_true rfl) rfl ?_
  refine z_iload_n B dX10_copyFrom_6 rfl 0 rfl ?_
  refine z_aload_n B dX10_copyFrom_7 rfl 2 rfl ?_
  have h_3 : Φ1 h2 = some (o_ 12 [.ref f2, .int 0, .int b2, .int d2]) := ((fr1 h2 (Ne.symm hne_h_h2)).trans hc1)
  refine z_get (ref := "FlowExporter$Template") (C := RX10) (T := TX10) (N := 4) (ci := 12) (v := .int 0) B (by decide +kernel) rfl 1 (by decide) (by decide +kernel) rfl h_3 rfl dX10_copyFrom_8 ?_
  refine z_icmp_ge (tgt := 43) B dX10_copyFrom_11 rfl (fun c_1 => ?_) (fun h9 => absurd (by decide) h9)
  exact z_ret_v B dX10_copyFrom_43 ⟨rfl, rfl, (fun b9 h9a => ((fr1 b9 h9a).trans rfl)), h_2⟩

set_option maxHeartbeats 4000000 in
set_option maxRecDepth 100000 in
theorem f_X1_support_s6 (G : EnvG) (l : Launch) (Φ : Hm) (sz : Nat) (x : Nat) (hc3_ : Φ (x + 3) = some (o_ 3 [.ref (x + 4), .ref (x + 5), .ref (x + 6), .ref (x + 7), .int 1, .int 511])) (hc6_ : Φ (x + 6) = some (aq_ G 4 4 (va_up (va_up (va_up (va_up (fun _ => none) (0 : Int32).toNatClampNeg (some (x + 8))) (1 : Int32).toNatClampNeg (some (x + 12))) (2 : Int32).toNatClampNeg (some (x + 16))) (3 : Int32).toNatClampNeg (some (x + 20))))) (hc7_ : Φ (x + 7) = some (aq_ G 4 4 (va_up (va_up (va_up (va_up (fun _ => none) (0 : Int32).toNatClampNeg (some (x + 10))) (1 : Int32).toNatClampNeg (some (x + 14))) (2 : Int32).toNatClampNeg (some (x + 18))) (3 : Int32).toNatClampNeg (some (x + 22))))) (hc8_ : Φ (x + 8) = some (o_ 12 [.ref (x + 9), .int 9, .int 511, .int 29])) (hc9_ : Φ (x + 9) = some (ai_ G 9 (upd (upd (upd (upd (upd (upd (upd (upd (upd (fun _ => 0) (0 : Int32).toNatClampNeg 0) (1 : Int32).toNatClampNeg 1) (2 : Int32).toNatClampNeg 2) (3 : Int32).toNatClampNeg 3) (4 : Int32).toNatClampNeg 4) (5 : Int32).toNatClampNeg 5) (6 : Int32).toNatClampNeg 6) (7 : Int32).toNatClampNeg 7) (8 : Int32).toNatClampNeg 8))) (hc10_ : Φ (x + 10) = some (o_ 12 [.ref (x + 11), .int 9, .int 511, .int 29])) (hc11_ : Φ (x + 11) = some (ai_ G 9 (upd (upd (upd (upd (upd (upd (upd (upd (upd (fun _ => 0) (0 : Int32).toNatClampNeg 0) (1 : Int32).toNatClampNeg 1) (2 : Int32).toNatClampNeg 2) (3 : Int32).toNatClampNeg 3) (4 : Int32).toNatClampNeg 4) (5 : Int32).toNatClampNeg 5) (6 : Int32).toNatClampNeg 6) (7 : Int32).toNatClampNeg 7) (8 : Int32).toNatClampNeg 8))) (hc12_ : Φ (x + 12) = some (o_ 12 [.ref (x + 13), .int 0, .int 0, .int 0])) (hc14_ : Φ (x + 14) = some (o_ 12 [.ref (x + 15), .int 0, .int 0, .int 0])) (hc16_ : Φ (x + 16) = some (o_ 12 [.ref (x + 17), .int 0, .int 0, .int 0])) (hc18_ : Φ (x + 18) = some (o_ 12 [.ref (x + 19), .int 0, .int 0, .int 0])) (hc20_ : Φ (x + 20) = some (o_ 12 [.ref (x + 21), .int 0, .int 0, .int 0])) (hc22_ : Φ (x + 22) = some (o_ 12 [.ref (x + 23), .int 0, .int 0, .int 0])) (hna : G.2.2.2 ≤ x) : Ct G l yX1_support wsX1_support ({ frames := 2, cells := 0, slots := 0, locals := 45 }) 0 0 [.ref (x + 3), .int 447] Φ sz (fun v Φ1 sz1 => v = none ∧ sz1 = sz ∧ (∀ b9 : Nat, b9 ≠ x + 10 → b9 ≠ x + 11 → b9 ≠ x + 14 → b9 ≠ x + 18 → b9 ≠ x + 22 → b9 ≠ x + 3 → Φ1 b9 = Φ b9) ∧ Φ1 (x + 10) = some (o_ 12 [.ref (x + 11), .int 8, .int 447, .int 25]) ∧ Φ1 (x + 11) = some (ai_ G 9 (upd (upd (upd (upd (upd (upd (upd (upd (upd (upd (upd (upd (upd (upd (upd (upd (upd (fun _ => 0) (0 : Int32).toNatClampNeg 0) (1 : Int32).toNatClampNeg 1) (2 : Int32).toNatClampNeg 2) (3 : Int32).toNatClampNeg 3) (4 : Int32).toNatClampNeg 4) (5 : Int32).toNatClampNeg 5) (6 : Int32).toNatClampNeg 6) (7 : Int32).toNatClampNeg 7) (8 : Int32).toNatClampNeg 8) (0 : Int32).toNatClampNeg 0) (1 : Int32).toNatClampNeg 1) (2 : Int32).toNatClampNeg 2) (3 : Int32).toNatClampNeg 3) (4 : Int32).toNatClampNeg 4) (5 : Int32).toNatClampNeg 5) (6 : Int32).toNatClampNeg 7) (7 : Int32).toNatClampNeg 8)) ∧ Φ1 (x + 14) = some (o_ 12 [.ref (x + 15), .int 0, .int 0, .int 0]) ∧ Φ1 (x + 18) = some (o_ 12 [.ref (x + 19), .int 0, .int 0, .int 0]) ∧ Φ1 (x + 22) = some (o_ 12 [.ref (x + 23), .int 0, .int 0, .int 0]) ∧ Φ1 (x + 3) = some (o_ 3 [.ref (x + 4), .ref (x + 5), .ref (x + 6), .ref (x + 7), .int 1, .int 447])) := by
  refine Ct.of (cc := cX1_support) (maxL := 3) (ret := none) (by decide) rfl (Nat.le_of_ble_eq_true rfl) ?_
  intro p9 e9 s9 m9 w9 t9 k9 B
  show Z p9 l e9 _ s9 m9 _ w9 t9 k9 _ G 3 0 [(0, .ref (x + 3)), (1, .int 447)] [] Φ sz 0 0
  refine z_aload_n B dX1_support_0 rfl 0 rfl ?_
  refine z_iload_n B dX1_support_1 rfl 1 rfl ?_
  refine z_put (ref := "FlowExporter$Config") (C := RX1) (T := TX1) (N := 6) (ci := 3) (v := .int 447) B (by decide +kernel) tyX1 tyX1_ok nmX1 rfl 5 (by decide) (by decide +kernel) rfl (Or.inl rfl) hc3_ (Nat.le_trans hna (Nat.le_add_right x 3)) rfl rfl (Nat.le_of_ble_eq_true rfl) dX1_support_2 (fun Φ1 hΦ1 => ?_)
  have h_1 : Φ1 (x + 3) = some (o_ 3 [.ref (x + 4), .ref (x + 5), .ref (x + 6), .ref (x + 7), .int 1, .int 447]) := fset_at hΦ1
  refine z_iconst (v := 0) B dX1_support_5 rfl ?_
  refine z_istore_n (lv' := [(2, .int 0), (0, .ref (x + 3)), (1, .int 447)]) B dX1_support_6 rfl (Nat.le_of_ble_eq_true rfl) rfl ?_
  refine z_iload_n B dX1_support_7 rfl 0 rfl ?_
  refine z_iconst (v := 4) B dX1_support_8 rfl ?_
  refine z_icmp_ge (tgt := 34) B dX1_support_9 rfl (fun h9 => absurd h9 (by decide)) (fun c_1 => ?_)
  refine z_aload_n B dX1_support_12 rfl 1 rfl ?_
  refine z_get (ref := "FlowExporter$Config") (C := RX1) (T := TX1) (N := 6) (ci := 3) (v := .ref (x + 7)) B (by decide +kernel) rfl 3 (by decide) (by decide +kernel) rfl h_1 rfl dX1_support_13 ?_
  refine z_iload_n B dX1_support_16 rfl 0 rfl ?_
  have h_2 : Φ1 (x + 7) = some (aq_ G 4 4 (va_up (va_up (va_up (va_up (fun _ => none) (0 : Int32).toNatClampNeg (some (x + 10))) (1 : Int32).toNatClampNeg (some (x + 14))) (2 : Int32).toNatClampNeg (some (x + 18))) (3 : Int32).toNatClampNeg (some (x + 22)))) := ((fset_fr hΦ1 (ne_off (x := x) (i := 7) (j := 3) rfl)).trans hc7_)
  refine z_aald (b := x + 10) B rfl h_2 (vin rfl) rfl dX1_support_17 ?_
  refine z_aload_n B dX1_support_18 rfl 1 rfl ?_
  refine z_get (ref := "FlowExporter$Config") (C := RX1) (T := TX1) (N := 6) (ci := 3) (v := .ref (x + 6)) B (by decide +kernel) rfl 2 (by decide) (by decide +kernel) rfl h_1 rfl dX1_support_19 ?_
  refine z_iload_n B dX1_support_22 rfl 0 rfl ?_
  have h_3 : Φ1 (x + 6) = some (aq_ G 4 4 (va_up (va_up (va_up (va_up (fun _ => none) (0 : Int32).toNatClampNeg (some (x + 8))) (1 : Int32).toNatClampNeg (some (x + 12))) (2 : Int32).toNatClampNeg (some (x + 16))) (3 : Int32).toNatClampNeg (some (x + 20)))) := ((fset_fr hΦ1 (ne_off (x := x) (i := 6) (j := 3) rfl)).trans hc6_)
  refine z_aald (b := x + 8) B rfl h_3 (vin rfl) rfl dX1_support_23 ?_
  refine z_iload_n B dX1_support_24 rfl 2 rfl ?_
  have h_4 : Φ1 (x + 10) = some (o_ 12 [.ref (x + 11), .int 9, .int 511, .int 29]) := ((fset_fr hΦ1 (ne_off (x := x) (i := 10) (j := 3) rfl)).trans hc10_)
  have h_5 : Φ1 (x + 11) = some (ai_ G 9 (upd (upd (upd (upd (upd (upd (upd (upd (upd (fun _ => 0) (0 : Int32).toNatClampNeg 0) (1 : Int32).toNatClampNeg 1) (2 : Int32).toNatClampNeg 2) (3 : Int32).toNatClampNeg 3) (4 : Int32).toNatClampNeg 4) (5 : Int32).toNatClampNeg 5) (6 : Int32).toNatClampNeg 6) (7 : Int32).toNatClampNeg 7) (8 : Int32).toNatClampNeg 8)) := ((fset_fr hΦ1 (ne_off (x := x) (i := 11) (j := 3) rfl)).trans hc11_)
  have h_6 : Φ1 (x + 8) = some (o_ 12 [.ref (x + 9), .int 9, .int 511, .int 29]) := ((fset_fr hΦ1 (ne_off (x := x) (i := 8) (j := 3) rfl)).trans hc8_)
  have h_7 : Φ1 (x + 9) = some (ai_ G 9 (upd (upd (upd (upd (upd (upd (upd (upd (upd (fun _ => 0) (0 : Int32).toNatClampNeg 0) (1 : Int32).toNatClampNeg 1) (2 : Int32).toNatClampNeg 2) (3 : Int32).toNatClampNeg 3) (4 : Int32).toNatClampNeg 4) (5 : Int32).toNatClampNeg 5) (6 : Int32).toNatClampNeg 6) (7 : Int32).toNatClampNeg 7) (8 : Int32).toNatClampNeg 8)) := ((fset_fr hΦ1 (ne_off (x := x) (i := 9) (j := 3) rfl)).trans hc9_)
  refine z_callV (As := [.ref (x + 8), .int 447]) (rest := []) B (c_X10_copyFrom_s6 G l Φ1 sz (x + 10) (x + 11) 9 511 29 (upd (upd (upd (upd (upd (upd (upd (upd (upd (fun _ => 0) (0 : Int32).toNatClampNeg 0) (1 : Int32).toNatClampNeg 1) (2 : Int32).toNatClampNeg 2) (3 : Int32).toNatClampNeg 3) (4 : Int32).toNatClampNeg 4) (5 : Int32).toNatClampNeg 5) (6 : Int32).toNatClampNeg 6) (7 : Int32).toNatClampNeg 7) (8 : Int32).toNatClampNeg 8) (x + 8) (x + 9) 511 29 (upd (upd (upd (upd (upd (upd (upd (upd (upd (fun _ => 0) (0 : Int32).toNatClampNeg 0) (1 : Int32).toNatClampNeg 1) (2 : Int32).toNatClampNeg 2) (3 : Int32).toNatClampNeg 3) (4 : Int32).toNatClampNeg 4) (5 : Int32).toNatClampNeg 5) (6 : Int32).toNatClampNeg 6) (7 : Int32).toNatClampNeg 7) (8 : Int32).toNatClampNeg 8) h_4 h_5 h_6 h_7 (ne_off (x := x) (i := 10) (j := 8) rfl) (ne_off (x := x) (i := 11) (j := 9) rfl) (ne_off (x := x) (i := 10) (j := 11) rfl) (ne_off (x := x) (i := 8) (j := 11) rfl) (ne_off (x := x) (i := 10) (j := 9) rfl) (ne_off (x := x) (i := 8) (j := 9) rfl) (Nat.le_trans hna (Nat.le_add_right x 10)) (Nat.le_trans hna (Nat.le_add_right x 11)) rfl rfl rfl rfl rfl rfl rfl rfl rfl) (cwV 2 B.1.2.2.2.2 gX1_support_X10_copyFrom rfl rfl rfl (by decide +kernel) ⟨Nat.le_of_ble_eq_true rfl, Nat.le_of_ble_eq_true rfl⟩) h_4 rfl rfl rfl rfl (Nat.le_of_ble_eq_true rfl) dX1_support_25 ⟨Nat.le_of_ble_eq_true rfl, Nat.le_of_ble_eq_true rfl⟩ (fun v1 Φ2 sz1 st1 hp1 hs1 => ?_)
  obtain ⟨rfl, hq1, fr1, h_8, h_9⟩ := hp1
  replace hq1 : sz1 = sz := hq1
  subst sz1
  replace hs1 : st1 = [] := hs1
  subst st1
  have h_10 : Φ2 (x + 11) = some (ai_ G 9 (upd (upd (upd (upd (upd (upd (upd (upd (upd (upd (upd (upd (upd (upd (upd (upd (upd (fun _ => 0) (0 : Int32).toNatClampNeg 0) (1 : Int32).toNatClampNeg 1) (2 : Int32).toNatClampNeg 2) (3 : Int32).toNatClampNeg 3) (4 : Int32).toNatClampNeg 4) (5 : Int32).toNatClampNeg 5) (6 : Int32).toNatClampNeg 6) (7 : Int32).toNatClampNeg 7) (8 : Int32).toNatClampNeg 8) (0 : Int32).toNatClampNeg 0) (1 : Int32).toNatClampNeg 1) (2 : Int32).toNatClampNeg 2) (3 : Int32).toNatClampNeg 3) (4 : Int32).toNatClampNeg 4) (5 : Int32).toNatClampNeg 5) (6 : Int32).toNatClampNeg 7) (7 : Int32).toNatClampNeg 8)) := h_8
  have h_11 : Φ2 (x + 10) = some (o_ 12 [.ref (x + 11), .int 8, .int 447, .int 25]) := h_9
  refine z_iinc (k := 0) (v := 1) (lv' := [(2, .int 1), (0, .ref (x + 3)), (1, .int 447)]) B dX1_support_28 rfl rfl (Nat.le_of_ble_eq_true rfl) rfl ?_
  refine z_goto (tgt := 7) B dX1_support_31 rfl ?_
  refine z_iload_n B dX1_support_7 rfl 0 rfl ?_
  refine z_iconst (v := 4) B dX1_support_8 rfl ?_
  refine z_icmp_ge (tgt := 34) B dX1_support_9 rfl (fun h9 => absurd h9 (by decide)) (fun c_2 => ?_)
  refine z_aload_n B dX1_support_12 rfl 1 rfl ?_
  have h_12 : Φ2 (x + 3) = some (o_ 3 [.ref (x + 4), .ref (x + 5), .ref (x + 6), .ref (x + 7), .int 1, .int 447]) := ((fr1 (x + 3) (ne_off (x := x) (i := 3) (j := 11) rfl) (ne_off (x := x) (i := 3) (j := 10) rfl)).trans h_1)
  refine z_get (ref := "FlowExporter$Config") (C := RX1) (T := TX1) (N := 6) (ci := 3) (v := .ref (x + 7)) B (by decide +kernel) rfl 3 (by decide) (by decide +kernel) rfl h_12 rfl dX1_support_13 ?_
  refine z_iload_n B dX1_support_16 rfl 0 rfl ?_
  have h_13 : Φ2 (x + 7) = some (aq_ G 4 4 (va_up (va_up (va_up (va_up (fun _ => none) (0 : Int32).toNatClampNeg (some (x + 10))) (1 : Int32).toNatClampNeg (some (x + 14))) (2 : Int32).toNatClampNeg (some (x + 18))) (3 : Int32).toNatClampNeg (some (x + 22)))) := ((fr1 (x + 7) (ne_off (x := x) (i := 7) (j := 11) rfl) (ne_off (x := x) (i := 7) (j := 10) rfl)).trans h_2)
  refine z_aald (b := x + 14) B rfl h_13 (vin rfl) rfl dX1_support_17 ?_
  refine z_aload_n B dX1_support_18 rfl 1 rfl ?_
  refine z_get (ref := "FlowExporter$Config") (C := RX1) (T := TX1) (N := 6) (ci := 3) (v := .ref (x + 6)) B (by decide +kernel) rfl 2 (by decide) (by decide +kernel) rfl h_12 rfl dX1_support_19 ?_
  refine z_iload_n B dX1_support_22 rfl 0 rfl ?_
  have h_14 : Φ2 (x + 6) = some (aq_ G 4 4 (va_up (va_up (va_up (va_up (fun _ => none) (0 : Int32).toNatClampNeg (some (x + 8))) (1 : Int32).toNatClampNeg (some (x + 12))) (2 : Int32).toNatClampNeg (some (x + 16))) (3 : Int32).toNatClampNeg (some (x + 20)))) := ((fr1 (x + 6) (ne_off (x := x) (i := 6) (j := 11) rfl) (ne_off (x := x) (i := 6) (j := 10) rfl)).trans h_3)
  refine z_aald (b := x + 12) B rfl h_14 (vin rfl) rfl dX1_support_23 ?_
  refine z_iload_n B dX1_support_24 rfl 2 rfl ?_
  have h_15 : Φ2 (x + 14) = some (o_ 12 [.ref (x + 15), .int 0, .int 0, .int 0]) := ((fr1 (x + 14) (ne_off (x := x) (i := 14) (j := 11) rfl) (ne_off (x := x) (i := 14) (j := 10) rfl)).trans ((fset_fr hΦ1 (ne_off (x := x) (i := 14) (j := 3) rfl)).trans hc14_))
  have h_16 : Φ2 (x + 12) = some (o_ 12 [.ref (x + 13), .int 0, .int 0, .int 0]) := ((fr1 (x + 12) (ne_off (x := x) (i := 12) (j := 11) rfl) (ne_off (x := x) (i := 12) (j := 10) rfl)).trans ((fset_fr hΦ1 (ne_off (x := x) (i := 12) (j := 3) rfl)).trans hc12_))
  refine z_callV (As := [.ref (x + 12), .int 447]) (rest := []) B (c_X10_copyFrom_z6 G l Φ2 sz (x + 14) (x + 15) 0 0 0 (x + 12) (x + 13) 0 0 h_15 h_16 (ne_off (x := x) (i := 14) (j := 12) rfl) (Nat.le_trans hna (Nat.le_add_right x 14))) (cwV 2 B.1.2.2.2.2 gX1_support_X10_copyFrom rfl rfl rfl (by decide +kernel) ⟨Nat.le_of_ble_eq_true rfl, Nat.le_of_ble_eq_true rfl⟩) h_15 rfl rfl rfl rfl (Nat.le_of_ble_eq_true rfl) dX1_support_25 ⟨Nat.le_of_ble_eq_true rfl, Nat.le_of_ble_eq_true rfl⟩ (fun v2 Φ3 sz2 st2 hp2 hs2 => ?_)
  obtain ⟨rfl, hq2, fr2, h_17⟩ := hp2
  replace hq2 : sz2 = sz := hq2
  subst sz2
  replace hs2 : st2 = [] := hs2
  subst st2
  have h_18 : Φ3 (x + 14) = some (o_ 12 [.ref (x + 15), .int 0, .int 0, .int 0]) := h_17
  refine z_iinc (k := 0) (v := 2) (lv' := [(2, .int 2), (0, .ref (x + 3)), (1, .int 447)]) B dX1_support_28 rfl rfl (Nat.le_of_ble_eq_true rfl) rfl ?_
  refine z_goto (tgt := 7) B dX1_support_31 rfl ?_
  refine z_iload_n B dX1_support_7 rfl 0 rfl ?_
  refine z_iconst (v := 4) B dX1_support_8 rfl ?_
  refine z_icmp_ge (tgt := 34) B dX1_support_9 rfl (fun h9 => absurd h9 (by decide)) (fun c_3 => ?_)
  refine z_aload_n B dX1_support_12 rfl 1 rfl ?_
  have h_19 : Φ3 (x + 3) = some (o_ 3 [.ref (x + 4), .ref (x + 5), .ref (x + 6), .ref (x + 7), .int 1, .int 447]) := ((fr2 (x + 3) (ne_off (x := x) (i := 3) (j := 14) rfl)).trans h_12)
  refine z_get (ref := "FlowExporter$Config") (C := RX1) (T := TX1) (N := 6) (ci := 3) (v := .ref (x + 7)) B (by decide +kernel) rfl 3 (by decide) (by decide +kernel) rfl h_19 rfl dX1_support_13 ?_
  refine z_iload_n B dX1_support_16 rfl 0 rfl ?_
  have h_20 : Φ3 (x + 7) = some (aq_ G 4 4 (va_up (va_up (va_up (va_up (fun _ => none) (0 : Int32).toNatClampNeg (some (x + 10))) (1 : Int32).toNatClampNeg (some (x + 14))) (2 : Int32).toNatClampNeg (some (x + 18))) (3 : Int32).toNatClampNeg (some (x + 22)))) := ((fr2 (x + 7) (ne_off (x := x) (i := 7) (j := 14) rfl)).trans h_13)
  refine z_aald (b := x + 18) B rfl h_20 (vin rfl) rfl dX1_support_17 ?_
  refine z_aload_n B dX1_support_18 rfl 1 rfl ?_
  refine z_get (ref := "FlowExporter$Config") (C := RX1) (T := TX1) (N := 6) (ci := 3) (v := .ref (x + 6)) B (by decide +kernel) rfl 2 (by decide) (by decide +kernel) rfl h_19 rfl dX1_support_19 ?_
  refine z_iload_n B dX1_support_22 rfl 0 rfl ?_
  have h_21 : Φ3 (x + 6) = some (aq_ G 4 4 (va_up (va_up (va_up (va_up (fun _ => none) (0 : Int32).toNatClampNeg (some (x + 8))) (1 : Int32).toNatClampNeg (some (x + 12))) (2 : Int32).toNatClampNeg (some (x + 16))) (3 : Int32).toNatClampNeg (some (x + 20)))) := ((fr2 (x + 6) (ne_off (x := x) (i := 6) (j := 14) rfl)).trans h_14)
  refine z_aald (b := x + 16) B rfl h_21 (vin rfl) rfl dX1_support_23 ?_
  refine z_iload_n B dX1_support_24 rfl 2 rfl ?_
  have h_22 : Φ3 (x + 18) = some (o_ 12 [.ref (x + 19), .int 0, .int 0, .int 0]) := ((fr2 (x + 18) (ne_off (x := x) (i := 18) (j := 14) rfl)).trans ((fr1 (x + 18) (ne_off (x := x) (i := 18) (j := 11) rfl) (ne_off (x := x) (i := 18) (j := 10) rfl)).trans ((fset_fr hΦ1 (ne_off (x := x) (i := 18) (j := 3) rfl)).trans hc18_)))
  have h_23 : Φ3 (x + 16) = some (o_ 12 [.ref (x + 17), .int 0, .int 0, .int 0]) := ((fr2 (x + 16) (ne_off (x := x) (i := 16) (j := 14) rfl)).trans ((fr1 (x + 16) (ne_off (x := x) (i := 16) (j := 11) rfl) (ne_off (x := x) (i := 16) (j := 10) rfl)).trans ((fset_fr hΦ1 (ne_off (x := x) (i := 16) (j := 3) rfl)).trans hc16_)))
  refine z_callV (As := [.ref (x + 16), .int 447]) (rest := []) B (c_X10_copyFrom_z6 G l Φ3 sz (x + 18) (x + 19) 0 0 0 (x + 16) (x + 17) 0 0 h_22 h_23 (ne_off (x := x) (i := 18) (j := 16) rfl) (Nat.le_trans hna (Nat.le_add_right x 18))) (cwV 2 B.1.2.2.2.2 gX1_support_X10_copyFrom rfl rfl rfl (by decide +kernel) ⟨Nat.le_of_ble_eq_true rfl, Nat.le_of_ble_eq_true rfl⟩) h_22 rfl rfl rfl rfl (Nat.le_of_ble_eq_true rfl) dX1_support_25 ⟨Nat.le_of_ble_eq_true rfl, Nat.le_of_ble_eq_true rfl⟩ (fun v3 Φ4 sz3 st3 hp3 hs3 => ?_)
  obtain ⟨rfl, hq3, fr3, h_24⟩ := hp3
  replace hq3 : sz3 = sz := hq3
  subst sz3
  replace hs3 : st3 = [] := hs3
  subst st3
  have h_25 : Φ4 (x + 18) = some (o_ 12 [.ref (x + 19), .int 0, .int 0, .int 0]) := h_24
  refine z_iinc (k := 0) (v := 3) (lv' := [(2, .int 3), (0, .ref (x + 3)), (1, .int 447)]) B dX1_support_28 rfl rfl (Nat.le_of_ble_eq_true rfl) rfl ?_
  refine z_goto (tgt := 7) B dX1_support_31 rfl ?_
  refine z_iload_n B dX1_support_7 rfl 0 rfl ?_
  refine z_iconst (v := 4) B dX1_support_8 rfl ?_
  refine z_icmp_ge (tgt := 34) B dX1_support_9 rfl (fun h9 => absurd h9 (by decide)) (fun c_4 => ?_)
  refine z_aload_n B dX1_support_12 rfl 1 rfl ?_
  have h_26 : Φ4 (x + 3) = some (o_ 3 [.ref (x + 4), .ref (x + 5), .ref (x + 6), .ref (x + 7), .int 1, .int 447]) := ((fr3 (x + 3) (ne_off (x := x) (i := 3) (j := 18) rfl)).trans h_19)
  refine z_get (ref := "FlowExporter$Config") (C := RX1) (T := TX1) (N := 6) (ci := 3) (v := .ref (x + 7)) B (by decide +kernel) rfl 3 (by decide) (by decide +kernel) rfl h_26 rfl dX1_support_13 ?_
  refine z_iload_n B dX1_support_16 rfl 0 rfl ?_
  have h_27 : Φ4 (x + 7) = some (aq_ G 4 4 (va_up (va_up (va_up (va_up (fun _ => none) (0 : Int32).toNatClampNeg (some (x + 10))) (1 : Int32).toNatClampNeg (some (x + 14))) (2 : Int32).toNatClampNeg (some (x + 18))) (3 : Int32).toNatClampNeg (some (x + 22)))) := ((fr3 (x + 7) (ne_off (x := x) (i := 7) (j := 18) rfl)).trans h_20)
  refine z_aald (b := x + 22) B rfl h_27 (vin rfl) rfl dX1_support_17 ?_
  refine z_aload_n B dX1_support_18 rfl 1 rfl ?_
  refine z_get (ref := "FlowExporter$Config") (C := RX1) (T := TX1) (N := 6) (ci := 3) (v := .ref (x + 6)) B (by decide +kernel) rfl 2 (by decide) (by decide +kernel) rfl h_26 rfl dX1_support_19 ?_
  refine z_iload_n B dX1_support_22 rfl 0 rfl ?_
  have h_28 : Φ4 (x + 6) = some (aq_ G 4 4 (va_up (va_up (va_up (va_up (fun _ => none) (0 : Int32).toNatClampNeg (some (x + 8))) (1 : Int32).toNatClampNeg (some (x + 12))) (2 : Int32).toNatClampNeg (some (x + 16))) (3 : Int32).toNatClampNeg (some (x + 20)))) := ((fr3 (x + 6) (ne_off (x := x) (i := 6) (j := 18) rfl)).trans h_21)
  refine z_aald (b := x + 20) B rfl h_28 (vin rfl) rfl dX1_support_23 ?_
  refine z_iload_n B dX1_support_24 rfl 2 rfl ?_
  have h_29 : Φ4 (x + 22) = some (o_ 12 [.ref (x + 23), .int 0, .int 0, .int 0]) := ((fr3 (x + 22) (ne_off (x := x) (i := 22) (j := 18) rfl)).trans ((fr2 (x + 22) (ne_off (x := x) (i := 22) (j := 14) rfl)).trans ((fr1 (x + 22) (ne_off (x := x) (i := 22) (j := 11) rfl) (ne_off (x := x) (i := 22) (j := 10) rfl)).trans ((fset_fr hΦ1 (ne_off (x := x) (i := 22) (j := 3) rfl)).trans hc22_))))
  have h_30 : Φ4 (x + 20) = some (o_ 12 [.ref (x + 21), .int 0, .int 0, .int 0]) := ((fr3 (x + 20) (ne_off (x := x) (i := 20) (j := 18) rfl)).trans ((fr2 (x + 20) (ne_off (x := x) (i := 20) (j := 14) rfl)).trans ((fr1 (x + 20) (ne_off (x := x) (i := 20) (j := 11) rfl) (ne_off (x := x) (i := 20) (j := 10) rfl)).trans ((fset_fr hΦ1 (ne_off (x := x) (i := 20) (j := 3) rfl)).trans hc20_))))
  refine z_callV (As := [.ref (x + 20), .int 447]) (rest := []) B (c_X10_copyFrom_z6 G l Φ4 sz (x + 22) (x + 23) 0 0 0 (x + 20) (x + 21) 0 0 h_29 h_30 (ne_off (x := x) (i := 22) (j := 20) rfl) (Nat.le_trans hna (Nat.le_add_right x 22))) (cwV 2 B.1.2.2.2.2 gX1_support_X10_copyFrom rfl rfl rfl (by decide +kernel) ⟨Nat.le_of_ble_eq_true rfl, Nat.le_of_ble_eq_true rfl⟩) h_29 rfl rfl rfl rfl (Nat.le_of_ble_eq_true rfl) dX1_support_25 ⟨Nat.le_of_ble_eq_true rfl, Nat.le_of_ble_eq_true rfl⟩ (fun v4 Φ5 sz4 st4 hp4 hs4 => ?_)
  obtain ⟨rfl, hq4, fr4, h_31⟩ := hp4
  replace hq4 : sz4 = sz := hq4
  subst sz4
  replace hs4 : st4 = [] := hs4
  subst st4
  have h_32 : Φ5 (x + 22) = some (o_ 12 [.ref (x + 23), .int 0, .int 0, .int 0]) := h_31
  refine z_iinc (k := 0) (v := 4) (lv' := [(2, .int 4), (0, .ref (x + 3)), (1, .int 447)]) B dX1_support_28 rfl rfl (Nat.le_of_ble_eq_true rfl) rfl ?_
  refine z_goto (tgt := 7) B dX1_support_31 rfl ?_
  refine z_iload_n B dX1_support_7 rfl 0 rfl ?_
  refine z_iconst (v := 4) B dX1_support_8 rfl ?_
  refine z_icmp_ge (tgt := 34) B dX1_support_9 rfl (fun c_5 => ?_) (fun h9 => absurd (by decide) h9)
  have h_33 : Φ5 (x + 10) = some (o_ 12 [.ref (x + 11), .int 8, .int 447, .int 25]) := ((fr4 (x + 10) (ne_off (x := x) (i := 10) (j := 22) rfl)).trans ((fr3 (x + 10) (ne_off (x := x) (i := 10) (j := 18) rfl)).trans ((fr2 (x + 10) (ne_off (x := x) (i := 10) (j := 14) rfl)).trans h_11)))
  have h_34 : Φ5 (x + 11) = some (ai_ G 9 (upd (upd (upd (upd (upd (upd (upd (upd (upd (upd (upd (upd (upd (upd (upd (upd (upd (fun _ => 0) (0 : Int32).toNatClampNeg 0) (1 : Int32).toNatClampNeg 1) (2 : Int32).toNatClampNeg 2) (3 : Int32).toNatClampNeg 3) (4 : Int32).toNatClampNeg 4) (5 : Int32).toNatClampNeg 5) (6 : Int32).toNatClampNeg 6) (7 : Int32).toNatClampNeg 7) (8 : Int32).toNatClampNeg 8) (0 : Int32).toNatClampNeg 0) (1 : Int32).toNatClampNeg 1) (2 : Int32).toNatClampNeg 2) (3 : Int32).toNatClampNeg 3) (4 : Int32).toNatClampNeg 4) (5 : Int32).toNatClampNeg 5) (6 : Int32).toNatClampNeg 7) (7 : Int32).toNatClampNeg 8)) := ((fr4 (x + 11) (ne_off (x := x) (i := 11) (j := 22) rfl)).trans ((fr3 (x + 11) (ne_off (x := x) (i := 11) (j := 18) rfl)).trans ((fr2 (x + 11) (ne_off (x := x) (i := 11) (j := 14) rfl)).trans h_10)))
  have h_35 : Φ5 (x + 14) = some (o_ 12 [.ref (x + 15), .int 0, .int 0, .int 0]) := ((fr4 (x + 14) (ne_off (x := x) (i := 14) (j := 22) rfl)).trans ((fr3 (x + 14) (ne_off (x := x) (i := 14) (j := 18) rfl)).trans h_18))
  have h_36 : Φ5 (x + 18) = some (o_ 12 [.ref (x + 19), .int 0, .int 0, .int 0]) := ((fr4 (x + 18) (ne_off (x := x) (i := 18) (j := 22) rfl)).trans h_25)
  have h_37 : Φ5 (x + 3) = some (o_ 3 [.ref (x + 4), .ref (x + 5), .ref (x + 6), .ref (x + 7), .int 1, .int 447]) := ((fr4 (x + 3) (ne_off (x := x) (i := 3) (j := 22) rfl)).trans h_26)
  exact z_ret_v B dX1_support_34 ⟨rfl, rfl, (fun b9 h9a h9b h9c h9d h9e h9f => ((fr4 b9 h9e).trans ((fr3 b9 h9d).trans ((fr2 b9 h9c).trans ((fr1 b9 h9b h9a).trans ((fset_fr hΦ1 h9f).trans rfl)))))), h_33, h_34, h_35, h_36, h_32, h_37⟩

set_option maxHeartbeats 4000000 in
set_option maxRecDepth 100000 in
theorem c_X10_copyFrom_s7 (G : EnvG) (l : Launch) (Φ : Hm) (sz : Nat) (h : Nat) (f : Nat) (a : Int32) (b : Int32) (d : Int32) (g : Nat → Int32) (h2 : Nat) (f2 : Nat) (b2 : Int32) (d2 : Int32) (g2 : Nat → Int32) (hc0 : Φ h = some (o_ 12 [.ref f, .int a, .int b, .int d])) (hc1 : Φ f = some (ai_ G 9 g)) (hc2 : Φ h2 = some (o_ 12 [.ref f2, .int 9, .int b2, .int d2])) (hc3 : Φ f2 = some (ai_ G 9 g2)) (hne_h_h2 : h ≠ h2) (hne_f_f2 : f ≠ f2) (hne_h_f : h ≠ f) (hne_h2_f : h2 ≠ f) (hne_h_f2 : h ≠ f2) (hne_h2_f2 : h2 ≠ f2) (hna_h : G.2.2.2 ≤ h) (hna_f : G.2.2.2 ≤ f) (hg0 : g2 0 = 0) (hg1 : g2 1 = 1) (hg2 : g2 2 = 2) (hg3 : g2 3 = 3) (hg4 : g2 4 = 4) (hg5 : g2 5 = 5) (hg6 : g2 6 = 6) (hg7 : g2 7 = 7) (hg8 : g2 8 = 8) : Ct G l yX10_copyFrom wsX10_copyFrom ({ frames := 1, cells := 0, slots := 0, locals := 21 }) 0 0 [.ref h, .ref h2, .int 383] Φ sz (fun v Φ1 sz1 => v = none ∧ sz1 = sz ∧ (∀ b9 : Nat, b9 ≠ f → b9 ≠ h → Φ1 b9 = Φ b9) ∧ Φ1 f = some (ai_ G 9 (upd (upd (upd (upd (upd (upd (upd (upd g (0 : Int32).toNatClampNeg 0) (1 : Int32).toNatClampNeg 1) (2 : Int32).toNatClampNeg 2) (3 : Int32).toNatClampNeg 3) (4 : Int32).toNatClampNeg 4) (5 : Int32).toNatClampNeg 5) (6 : Int32).toNatClampNeg 6) (7 : Int32).toNatClampNeg 8)) ∧ Φ1 h = some (o_ 12 [.ref f, .int 8, .int 383, .int 25])) := by
  refine Ct.of (cc := cX10_copyFrom) (maxL := 5) (ret := none) (by decide) rfl (Nat.le_of_ble_eq_true rfl) ?_
  intro p9 e9 s9 m9 w9 t9 k9 B
  show Z p9 l e9 _ s9 m9 _ w9 t9 k9 _ G 5 0 [(0, .ref h), (1, .ref h2), (2, .int 383)] [] Φ (sz) 0 0
  refine z_aload_n B dX10_copyFrom_0 rfl 0 rfl ?_
  refine z_callV (As := []) (rest := []) B (c_X10_clear G l Φ sz h f a b d hc0 hna_h) (cwV 0 B.1.2.2.2.2 gX10_copyFrom_X10_clear rfl rfl rfl (by decide +kernel) ⟨Nat.le_of_ble_eq_true rfl, Nat.le_of_ble_eq_true rfl⟩) hc0 rfl rfl rfl rfl (Nat.le_of_ble_eq_true rfl) dX10_copyFrom_1 ⟨Nat.le_of_ble_eq_true rfl, Nat.le_of_ble_eq_true rfl⟩ (fun v1 Φ1 sz1 st1 hp1 hs1 => ?_)
  obtain ⟨rfl, hq1, fr1, h_1⟩ := hp1
  replace hq1 : sz1 = sz := hq1
  subst sz1
  replace hs1 : st1 = [] := hs1
  subst st1
  have h_2 : Φ1 h = some (o_ 12 [.ref f, .int 0, .int 0, .int 0]) := h_1
  refine z_iconst (v := 0) B dX10_copyFrom_4 rfl ?_
  refine z_istore_n (lv' := [(3, .int 0), (0, .ref h), (1, .ref h2), (2, .int 383)]) B dX10_copyFrom_5 rfl (Nat.le_of_ble_eq_true rfl) rfl ?_
  refine z_iload_n B dX10_copyFrom_6 rfl 0 rfl ?_
  refine z_aload_n B dX10_copyFrom_7 rfl 2 rfl ?_
  have h_3 : Φ1 h2 = some (o_ 12 [.ref f2, .int 9, .int b2, .int d2]) := ((fr1 h2 (Ne.symm hne_h_h2)).trans hc2)
  refine z_get (ref := "FlowExporter$Template") (C := RX10) (T := TX10) (N := 4) (ci := 12) (v := .int 9) B (by decide +kernel) rfl 1 (by decide) (by decide +kernel) rfl h_3 rfl dX10_copyFrom_8 ?_
  refine z_icmp_ge (tgt := 43) B dX10_copyFrom_11 rfl (fun h9 => absurd h9 (by decide)) (fun c_1 => ?_)
  refine z_aload_n B dX10_copyFrom_14 rfl 2 rfl ?_
  refine z_iload_n B dX10_copyFrom_15 rfl 0 rfl ?_
  have h_4 : Φ1 f2 = some (ai_ G 9 g2) := ((fr1 f2 (Ne.symm hne_h_f2)).trans hc3)
  refine z_callV (As := [.int 0]) (rest := []) B (c_X10_field G l Φ1 sz h2 f2 9 b2 d2 g2 0 h_3 h_4 (by decide) (by decide) (vin rfl)) (cwV 1 B.1.2.2.2.2 gX10_copyFrom_X10_field rfl rfl rfl (by decide +kernel) ⟨Nat.le_of_ble_eq_true rfl, Nat.le_of_ble_eq_true rfl⟩) h_3 rfl rfl rfl rfl (Nat.le_of_ble_eq_true rfl) dX10_copyFrom_16 ⟨Nat.le_of_ble_eq_true rfl, Nat.le_of_ble_eq_true rfl⟩ (fun v2 Φ2 sz2 st2 hp2 hs2 => ?_)
  obtain ⟨rfl, hq2, fr2⟩ := hp2
  replace hq2 : sz2 = sz := hq2
  subst sz2
  replace hs2 : st2 = [.int (g2 (0 : Int32).toNatClampNeg)] := hs2
  subst st2
  refine z_top (st1 := [.int 0]) (by rw [show g2 ((0 : Int32).toNatClampNeg) = 0 from hg0]) ?_
  refine z_istore (lv' := [(4, .int 0), (3, .int 0), (0, .ref h), (1, .ref h2), (2, .int 383)]) B dX10_copyFrom_19 (Nat.le_of_ble_eq_true rfl) rfl ?_
  refine z_iload_n B dX10_copyFrom_21 rfl 4 rfl ?_
  refine z_iload B dX10_copyFrom_22 0 rfl ?_
  refine z_ishr B dX10_copyFrom_24 ?_
  refine z_top (st1 := [.int 383]) (congrArg (fun w9 : Int32 => ([.int w9] : List Value)) (show ((383 : Int32) >>> ((0 : Int32) &&& (31 : Int32)) : Int32) = 383 by decide +kernel)) ?_
  refine z_iconst (v := 1) B dX10_copyFrom_25 rfl ?_
  refine z_iand B dX10_copyFrom_26 ?_
  refine z_top (st1 := [.int 1]) (congrArg (fun w9 : Int32 => ([.int w9] : List Value)) (show (383 &&& 1 : Int32) = 1 by decide +kernel)) ?_
  refine z_iconst (v := 1) B dX10_copyFrom_27 rfl ?_
  refine z_icmp_ne (tgt := 37) B dX10_copyFrom_28 rfl (fun h9 => absurd (by decide) h9) (fun c_2 => ?_)
  refine z_aload_n B dX10_copyFrom_31 rfl 2 rfl ?_
  refine z_iload B dX10_copyFrom_32 0 rfl ?_
  have h_5 : Φ2 h = some (o_ 12 [.ref f, .int 0, .int 0, .int 0]) := ((fr2 h).trans h_2)
  have h_6 : Φ2 f = some (ai_ G 9 g) := ((fr2 f).trans ((fr1 f (Ne.symm hne_h_f)).trans hc1))
  refine z_callV (As := [.int 0]) (rest := []) B (c_X10_addField G l Φ2 sz h f 0 0 0 g 0 h_5 h_6 hne_h_f hna_h hna_f (by decide) (by decide) (by decide) (by decide) (vin rfl) (vin rfl)) (cwV 1 B.1.2.2.2.2 gX10_copyFrom_X10_addField rfl rfl rfl (by decide +kernel) ⟨Nat.le_of_ble_eq_true rfl, Nat.le_of_ble_eq_true rfl⟩) h_5 rfl rfl rfl rfl (Nat.le_of_ble_eq_true rfl) dX10_copyFrom_34 ⟨Nat.le_of_ble_eq_true rfl, Nat.le_of_ble_eq_true rfl⟩ (fun v3 Φ3 sz3 st3 hp3 hs3 => ?_)
  obtain ⟨rfl, hq3, fr3, h_7, h_8⟩ := hp3
  replace hq3 : sz3 = sz := hq3
  subst sz3
  replace hs3 : st3 = [] := hs3
  subst st3
  have h_9 : Φ3 f = some (ai_ G 9 (upd g (0 : Int32).toNatClampNeg 0)) := h_7
  have h_10 : Φ3 h = some (o_ 12 [.ref f, .int 1, .int 1, .int 1]) := h_8
  refine z_iinc (k := 1) (v := 1) (lv' := [(3, .int 1), (4, .int 0), (0, .ref h), (1, .ref h2), (2, .int 383)]) B dX10_copyFrom_37 rfl rfl (Nat.le_of_ble_eq_true rfl) rfl ?_
  refine z_goto (tgt := 6) B dX10_copyFrom_40 rfl ?_
  refine z_iload_n B dX10_copyFrom_6 rfl 0 rfl ?_
  refine z_aload_n B dX10_copyFrom_7 rfl 3 rfl ?_
  have h_11 : Φ3 h2 = some (o_ 12 [.ref f2, .int 9, .int b2, .int d2]) := ((fr3 h2 hne_h2_f (Ne.symm hne_h_h2)).trans ((fr2 h2).trans h_3))
  refine z_get (ref := "FlowExporter$Template") (C := RX10) (T := TX10) (N := 4) (ci := 12) (v := .int 9) B (by decide +kernel) rfl 1 (by decide) (by decide +kernel) rfl h_11 rfl dX10_copyFrom_8 ?_
  refine z_icmp_ge (tgt := 43) B dX10_copyFrom_11 rfl (fun h9 => absurd h9 (by decide)) (fun c_3 => ?_)
  refine z_aload_n B dX10_copyFrom_14 rfl 3 rfl ?_
  refine z_iload_n B dX10_copyFrom_15 rfl 0 rfl ?_
  have h_12 : Φ3 f2 = some (ai_ G 9 g2) := ((fr3 f2 (Ne.symm hne_f_f2) (Ne.symm hne_h_f2)).trans ((fr2 f2).trans h_4))
  refine z_callV (As := [.int 1]) (rest := []) B (c_X10_field G l Φ3 sz h2 f2 9 b2 d2 g2 1 h_11 h_12 (by decide) (by decide) (vin rfl)) (cwV 1 B.1.2.2.2.2 gX10_copyFrom_X10_field rfl rfl rfl (by decide +kernel) ⟨Nat.le_of_ble_eq_true rfl, Nat.le_of_ble_eq_true rfl⟩) h_11 rfl rfl rfl rfl (Nat.le_of_ble_eq_true rfl) dX10_copyFrom_16 ⟨Nat.le_of_ble_eq_true rfl, Nat.le_of_ble_eq_true rfl⟩ (fun v4 Φ4 sz4 st4 hp4 hs4 => ?_)
  obtain ⟨rfl, hq4, fr4⟩ := hp4
  replace hq4 : sz4 = sz := hq4
  subst sz4
  replace hs4 : st4 = [.int (g2 (1 : Int32).toNatClampNeg)] := hs4
  subst st4
  refine z_top (st1 := [.int 1]) (by rw [show g2 ((1 : Int32).toNatClampNeg) = 1 from hg1]) ?_
  refine z_istore (lv' := [(4, .int 1), (3, .int 1), (0, .ref h), (1, .ref h2), (2, .int 383)]) B dX10_copyFrom_19 (Nat.le_of_ble_eq_true rfl) rfl ?_
  refine z_iload_n B dX10_copyFrom_21 rfl 4 rfl ?_
  refine z_iload B dX10_copyFrom_22 0 rfl ?_
  refine z_ishr B dX10_copyFrom_24 ?_
  refine z_top (st1 := [.int 191]) (congrArg (fun w9 : Int32 => ([.int w9] : List Value)) (show ((383 : Int32) >>> ((1 : Int32) &&& (31 : Int32)) : Int32) = 191 by decide +kernel)) ?_
  refine z_iconst (v := 1) B dX10_copyFrom_25 rfl ?_
  refine z_iand B dX10_copyFrom_26 ?_
  refine z_top (st1 := [.int 1]) (congrArg (fun w9 : Int32 => ([.int w9] : List Value)) (show (191 &&& 1 : Int32) = 1 by decide +kernel)) ?_
  refine z_iconst (v := 1) B dX10_copyFrom_27 rfl ?_
  refine z_icmp_ne (tgt := 37) B dX10_copyFrom_28 rfl (fun h9 => absurd (by decide) h9) (fun c_4 => ?_)
  refine z_aload_n B dX10_copyFrom_31 rfl 2 rfl ?_
  refine z_iload B dX10_copyFrom_32 0 rfl ?_
  have h_13 : Φ4 h = some (o_ 12 [.ref f, .int 1, .int 1, .int 1]) := ((fr4 h).trans h_10)
  have h_14 : Φ4 f = some (ai_ G 9 (upd g (0 : Int32).toNatClampNeg 0)) := ((fr4 f).trans h_9)
  refine z_callV (As := [.int 1]) (rest := []) B (c_X10_addField G l Φ4 sz h f 1 1 1 (upd g (0 : Int32).toNatClampNeg 0) 1 h_13 h_14 hne_h_f hna_h hna_f (by decide) (by decide) (by decide) (by decide) (vin rfl) (vin rfl)) (cwV 1 B.1.2.2.2.2 gX10_copyFrom_X10_addField rfl rfl rfl (by decide +kernel) ⟨Nat.le_of_ble_eq_true rfl, Nat.le_of_ble_eq_true rfl⟩) h_13 rfl rfl rfl rfl (Nat.le_of_ble_eq_true rfl) dX10_copyFrom_34 ⟨Nat.le_of_ble_eq_true rfl, Nat.le_of_ble_eq_true rfl⟩ (fun v5 Φ5 sz5 st5 hp5 hs5 => ?_)
  obtain ⟨rfl, hq5, fr5, h_15, h_16⟩ := hp5
  replace hq5 : sz5 = sz := hq5
  subst sz5
  replace hs5 : st5 = [] := hs5
  subst st5
  have h_17 : Φ5 f = some (ai_ G 9 (upd (upd g (0 : Int32).toNatClampNeg 0) (1 : Int32).toNatClampNeg 1)) := h_15
  have h_18 : Φ5 h = some (o_ 12 [.ref f, .int 2, .int 3, .int 2]) := h_16
  refine z_iinc (k := 1) (v := 2) (lv' := [(3, .int 2), (4, .int 1), (0, .ref h), (1, .ref h2), (2, .int 383)]) B dX10_copyFrom_37 rfl rfl (Nat.le_of_ble_eq_true rfl) rfl ?_
  refine z_goto (tgt := 6) B dX10_copyFrom_40 rfl ?_
  refine z_iload_n B dX10_copyFrom_6 rfl 0 rfl ?_
  refine z_aload_n B dX10_copyFrom_7 rfl 3 rfl ?_
  have h_19 : Φ5 h2 = some (o_ 12 [.ref f2, .int 9, .int b2, .int d2]) := ((fr5 h2 hne_h2_f (Ne.symm hne_h_h2)).trans ((fr4 h2).trans h_11))
  refine z_get (ref := "FlowExporter$Template") (C := RX10) (T := TX10) (N := 4) (ci := 12) (v := .int 9) B (by decide +kernel) rfl 1 (by decide) (by decide +kernel) rfl h_19 rfl dX10_copyFrom_8 ?_
  refine z_icmp_ge (tgt := 43) B dX10_copyFrom_11 rfl (fun h9 => absurd h9 (by decide)) (fun c_5 => ?_)
  refine z_aload_n B dX10_copyFrom_14 rfl 3 rfl ?_
  refine z_iload_n B dX10_copyFrom_15 rfl 0 rfl ?_
  have h_20 : Φ5 f2 = some (ai_ G 9 g2) := ((fr5 f2 (Ne.symm hne_f_f2) (Ne.symm hne_h_f2)).trans ((fr4 f2).trans h_12))
  refine z_callV (As := [.int 2]) (rest := []) B (c_X10_field G l Φ5 sz h2 f2 9 b2 d2 g2 2 h_19 h_20 (by decide) (by decide) (vin rfl)) (cwV 1 B.1.2.2.2.2 gX10_copyFrom_X10_field rfl rfl rfl (by decide +kernel) ⟨Nat.le_of_ble_eq_true rfl, Nat.le_of_ble_eq_true rfl⟩) h_19 rfl rfl rfl rfl (Nat.le_of_ble_eq_true rfl) dX10_copyFrom_16 ⟨Nat.le_of_ble_eq_true rfl, Nat.le_of_ble_eq_true rfl⟩ (fun v6 Φ6 sz6 st6 hp6 hs6 => ?_)
  obtain ⟨rfl, hq6, fr6⟩ := hp6
  replace hq6 : sz6 = sz := hq6
  subst sz6
  replace hs6 : st6 = [.int (g2 (2 : Int32).toNatClampNeg)] := hs6
  subst st6
  refine z_top (st1 := [.int 2]) (by rw [show g2 ((2 : Int32).toNatClampNeg) = 2 from hg2]) ?_
  refine z_istore (lv' := [(4, .int 2), (3, .int 2), (0, .ref h), (1, .ref h2), (2, .int 383)]) B dX10_copyFrom_19 (Nat.le_of_ble_eq_true rfl) rfl ?_
  refine z_iload_n B dX10_copyFrom_21 rfl 4 rfl ?_
  refine z_iload B dX10_copyFrom_22 0 rfl ?_
  refine z_ishr B dX10_copyFrom_24 ?_
  refine z_top (st1 := [.int 95]) (congrArg (fun w9 : Int32 => ([.int w9] : List Value)) (show ((383 : Int32) >>> ((2 : Int32) &&& (31 : Int32)) : Int32) = 95 by decide +kernel)) ?_
  refine z_iconst (v := 1) B dX10_copyFrom_25 rfl ?_
  refine z_iand B dX10_copyFrom_26 ?_
  refine z_top (st1 := [.int 1]) (congrArg (fun w9 : Int32 => ([.int w9] : List Value)) (show (95 &&& 1 : Int32) = 1 by decide +kernel)) ?_
  refine z_iconst (v := 1) B dX10_copyFrom_27 rfl ?_
  refine z_icmp_ne (tgt := 37) B dX10_copyFrom_28 rfl (fun h9 => absurd (by decide) h9) (fun c_6 => ?_)
  refine z_aload_n B dX10_copyFrom_31 rfl 2 rfl ?_
  refine z_iload B dX10_copyFrom_32 0 rfl ?_
  have h_21 : Φ6 h = some (o_ 12 [.ref f, .int 2, .int 3, .int 2]) := ((fr6 h).trans h_18)
  have h_22 : Φ6 f = some (ai_ G 9 (upd (upd g (0 : Int32).toNatClampNeg 0) (1 : Int32).toNatClampNeg 1)) := ((fr6 f).trans h_17)
  refine z_callV (As := [.int 2]) (rest := []) B (c_X10_addField G l Φ6 sz h f 2 3 2 (upd (upd g (0 : Int32).toNatClampNeg 0) (1 : Int32).toNatClampNeg 1) 2 h_21 h_22 hne_h_f hna_h hna_f (by decide) (by decide) (by decide) (by decide) (vin rfl) (vin rfl)) (cwV 1 B.1.2.2.2.2 gX10_copyFrom_X10_addField rfl rfl rfl (by decide +kernel) ⟨Nat.le_of_ble_eq_true rfl, Nat.le_of_ble_eq_true rfl⟩) h_21 rfl rfl rfl rfl (Nat.le_of_ble_eq_true rfl) dX10_copyFrom_34 ⟨Nat.le_of_ble_eq_true rfl, Nat.le_of_ble_eq_true rfl⟩ (fun v7 Φ7 sz7 st7 hp7 hs7 => ?_)
  obtain ⟨rfl, hq7, fr7, h_23, h_24⟩ := hp7
  replace hq7 : sz7 = sz := hq7
  subst sz7
  replace hs7 : st7 = [] := hs7
  subst st7
  have h_25 : Φ7 f = some (ai_ G 9 (upd (upd (upd g (0 : Int32).toNatClampNeg 0) (1 : Int32).toNatClampNeg 1) (2 : Int32).toNatClampNeg 2)) := h_23
  have h_26 : Φ7 h = some (o_ 12 [.ref f, .int 3, .int 7, .int 4]) := h_24
  refine z_iinc (k := 1) (v := 3) (lv' := [(3, .int 3), (4, .int 2), (0, .ref h), (1, .ref h2), (2, .int 383)]) B dX10_copyFrom_37 rfl rfl (Nat.le_of_ble_eq_true rfl) rfl ?_
  refine z_goto (tgt := 6) B dX10_copyFrom_40 rfl ?_
  refine z_iload_n B dX10_copyFrom_6 rfl 0 rfl ?_
  refine z_aload_n B dX10_copyFrom_7 rfl 3 rfl ?_
  have h_27 : Φ7 h2 = some (o_ 12 [.ref f2, .int 9, .int b2, .int d2]) := ((fr7 h2 hne_h2_f (Ne.symm hne_h_h2)).trans ((fr6 h2).trans h_19))
  refine z_get (ref := "FlowExporter$Template") (C := RX10) (T := TX10) (N := 4) (ci := 12) (v := .int 9) B (by decide +kernel) rfl 1 (by decide) (by decide +kernel) rfl h_27 rfl dX10_copyFrom_8 ?_
  refine z_icmp_ge (tgt := 43) B dX10_copyFrom_11 rfl (fun h9 => absurd h9 (by decide)) (fun c_7 => ?_)
  refine z_aload_n B dX10_copyFrom_14 rfl 3 rfl ?_
  refine z_iload_n B dX10_copyFrom_15 rfl 0 rfl ?_
  have h_28 : Φ7 f2 = some (ai_ G 9 g2) := ((fr7 f2 (Ne.symm hne_f_f2) (Ne.symm hne_h_f2)).trans ((fr6 f2).trans h_20))
  refine z_callV (As := [.int 3]) (rest := []) B (c_X10_field G l Φ7 sz h2 f2 9 b2 d2 g2 3 h_27 h_28 (by decide) (by decide) (vin rfl)) (cwV 1 B.1.2.2.2.2 gX10_copyFrom_X10_field rfl rfl rfl (by decide +kernel) ⟨Nat.le_of_ble_eq_true rfl, Nat.le_of_ble_eq_true rfl⟩) h_27 rfl rfl rfl rfl (Nat.le_of_ble_eq_true rfl) dX10_copyFrom_16 ⟨Nat.le_of_ble_eq_true rfl, Nat.le_of_ble_eq_true rfl⟩ (fun v8 Φ8 sz8 st8 hp8 hs8 => ?_)
  obtain ⟨rfl, hq8, fr8⟩ := hp8
  replace hq8 : sz8 = sz := hq8
  subst sz8
  replace hs8 : st8 = [.int (g2 (3 : Int32).toNatClampNeg)] := hs8
  subst st8
  refine z_top (st1 := [.int 3]) (by rw [show g2 ((3 : Int32).toNatClampNeg) = 3 from hg3]) ?_
  refine z_istore (lv' := [(4, .int 3), (3, .int 3), (0, .ref h), (1, .ref h2), (2, .int 383)]) B dX10_copyFrom_19 (Nat.le_of_ble_eq_true rfl) rfl ?_
  refine z_iload_n B dX10_copyFrom_21 rfl 4 rfl ?_
  refine z_iload B dX10_copyFrom_22 0 rfl ?_
  refine z_ishr B dX10_copyFrom_24 ?_
  refine z_top (st1 := [.int 47]) (congrArg (fun w9 : Int32 => ([.int w9] : List Value)) (show ((383 : Int32) >>> ((3 : Int32) &&& (31 : Int32)) : Int32) = 47 by decide +kernel)) ?_
  refine z_iconst (v := 1) B dX10_copyFrom_25 rfl ?_
  refine z_iand B dX10_copyFrom_26 ?_
  refine z_top (st1 := [.int 1]) (congrArg (fun w9 : Int32 => ([.int w9] : List Value)) (show (47 &&& 1 : Int32) = 1 by decide +kernel)) ?_
  refine z_iconst (v := 1) B dX10_copyFrom_27 rfl ?_
  refine z_icmp_ne (tgt := 37) B dX10_copyFrom_28 rfl (fun h9 => absurd (by decide) h9) (fun c_8 => ?_)
  refine z_aload_n B dX10_copyFrom_31 rfl 2 rfl ?_
  refine z_iload B dX10_copyFrom_32 0 rfl ?_
  have h_29 : Φ8 h = some (o_ 12 [.ref f, .int 3, .int 7, .int 4]) := ((fr8 h).trans h_26)
  have h_30 : Φ8 f = some (ai_ G 9 (upd (upd (upd g (0 : Int32).toNatClampNeg 0) (1 : Int32).toNatClampNeg 1) (2 : Int32).toNatClampNeg 2)) := ((fr8 f).trans h_25)
  refine z_callV (As := [.int 3]) (rest := []) B (c_X10_addField G l Φ8 sz h f 3 7 4 (upd (upd (upd g (0 : Int32).toNatClampNeg 0) (1 : Int32).toNatClampNeg 1) (2 : Int32).toNatClampNeg 2) 3 h_29 h_30 hne_h_f hna_h hna_f (by decide) (by decide) (by decide) (by decide) (vin rfl) (vin rfl)) (cwV 1 B.1.2.2.2.2 gX10_copyFrom_X10_addField rfl rfl rfl (by decide +kernel) ⟨Nat.le_of_ble_eq_true rfl, Nat.le_of_ble_eq_true rfl⟩) h_29 rfl rfl rfl rfl (Nat.le_of_ble_eq_true rfl) dX10_copyFrom_34 ⟨Nat.le_of_ble_eq_true rfl, Nat.le_of_ble_eq_true rfl⟩ (fun v9 Φ9 sz9 st9 hp9 hs9 => ?_)
  obtain ⟨rfl, hq9, fr9, h_31, h_32⟩ := hp9
  replace hq9 : sz9 = sz := hq9
  subst sz9
  replace hs9 : st9 = [] := hs9
  subst st9
  have h_33 : Φ9 f = some (ai_ G 9 (upd (upd (upd (upd g (0 : Int32).toNatClampNeg 0) (1 : Int32).toNatClampNeg 1) (2 : Int32).toNatClampNeg 2) (3 : Int32).toNatClampNeg 3)) := h_31
  have h_34 : Φ9 h = some (o_ 12 [.ref f, .int 4, .int 15, .int 5]) := h_32
  refine z_iinc (k := 1) (v := 4) (lv' := [(3, .int 4), (4, .int 3), (0, .ref h), (1, .ref h2), (2, .int 383)]) B dX10_copyFrom_37 rfl rfl (Nat.le_of_ble_eq_true rfl) rfl ?_
  refine z_goto (tgt := 6) B dX10_copyFrom_40 rfl ?_
  refine z_iload_n B dX10_copyFrom_6 rfl 0 rfl ?_
  refine z_aload_n B dX10_copyFrom_7 rfl 3 rfl ?_
  have h_35 : Φ9 h2 = some (o_ 12 [.ref f2, .int 9, .int b2, .int d2]) := ((fr9 h2 hne_h2_f (Ne.symm hne_h_h2)).trans ((fr8 h2).trans h_27))
  refine z_get (ref := "FlowExporter$Template") (C := RX10) (T := TX10) (N := 4) (ci := 12) (v := .int 9) B (by decide +kernel) rfl 1 (by decide) (by decide +kernel) rfl h_35 rfl dX10_copyFrom_8 ?_
  refine z_icmp_ge (tgt := 43) B dX10_copyFrom_11 rfl (fun h9 => absurd h9 (by decide)) (fun c_9 => ?_)
  refine z_aload_n B dX10_copyFrom_14 rfl 3 rfl ?_
  refine z_iload_n B dX10_copyFrom_15 rfl 0 rfl ?_
  have h_36 : Φ9 f2 = some (ai_ G 9 g2) := ((fr9 f2 (Ne.symm hne_f_f2) (Ne.symm hne_h_f2)).trans ((fr8 f2).trans h_28))
  refine z_callV (As := [.int 4]) (rest := []) B (c_X10_field G l Φ9 sz h2 f2 9 b2 d2 g2 4 h_35 h_36 (by decide) (by decide) (vin rfl)) (cwV 1 B.1.2.2.2.2 gX10_copyFrom_X10_field rfl rfl rfl (by decide +kernel) ⟨Nat.le_of_ble_eq_true rfl, Nat.le_of_ble_eq_true rfl⟩) h_35 rfl rfl rfl rfl (Nat.le_of_ble_eq_true rfl) dX10_copyFrom_16 ⟨Nat.le_of_ble_eq_true rfl, Nat.le_of_ble_eq_true rfl⟩ (fun v10 Φ10 sz10 st10 hp10 hs10 => ?_)
  obtain ⟨rfl, hq10, fr10⟩ := hp10
  replace hq10 : sz10 = sz := hq10
  subst sz10
  replace hs10 : st10 = [.int (g2 (4 : Int32).toNatClampNeg)] := hs10
  subst st10
  refine z_top (st1 := [.int 4]) (by rw [show g2 ((4 : Int32).toNatClampNeg) = 4 from hg4]) ?_
  refine z_istore (lv' := [(4, .int 4), (3, .int 4), (0, .ref h), (1, .ref h2), (2, .int 383)]) B dX10_copyFrom_19 (Nat.le_of_ble_eq_true rfl) rfl ?_
  refine z_iload_n B dX10_copyFrom_21 rfl 4 rfl ?_
  refine z_iload B dX10_copyFrom_22 0 rfl ?_
  refine z_ishr B dX10_copyFrom_24 ?_
  refine z_top (st1 := [.int 23]) (congrArg (fun w9 : Int32 => ([.int w9] : List Value)) (show ((383 : Int32) >>> ((4 : Int32) &&& (31 : Int32)) : Int32) = 23 by decide +kernel)) ?_
  refine z_iconst (v := 1) B dX10_copyFrom_25 rfl ?_
  refine z_iand B dX10_copyFrom_26 ?_
  refine z_top (st1 := [.int 1]) (congrArg (fun w9 : Int32 => ([.int w9] : List Value)) (show (23 &&& 1 : Int32) = 1 by decide +kernel)) ?_
  refine z_iconst (v := 1) B dX10_copyFrom_27 rfl ?_
  refine z_icmp_ne (tgt := 37) B dX10_copyFrom_28 rfl (fun h9 => absurd (by decide) h9) (fun c_10 => ?_)
  refine z_aload_n B dX10_copyFrom_31 rfl 2 rfl ?_
  refine z_iload B dX10_copyFrom_32 0 rfl ?_
  have h_37 : Φ10 h = some (o_ 12 [.ref f, .int 4, .int 15, .int 5]) := ((fr10 h).trans h_34)
  have h_38 : Φ10 f = some (ai_ G 9 (upd (upd (upd (upd g (0 : Int32).toNatClampNeg 0) (1 : Int32).toNatClampNeg 1) (2 : Int32).toNatClampNeg 2) (3 : Int32).toNatClampNeg 3)) := ((fr10 f).trans h_33)
  refine z_callV (As := [.int 4]) (rest := []) B (c_X10_addField G l Φ10 sz h f 4 15 5 (upd (upd (upd (upd g (0 : Int32).toNatClampNeg 0) (1 : Int32).toNatClampNeg 1) (2 : Int32).toNatClampNeg 2) (3 : Int32).toNatClampNeg 3) 4 h_37 h_38 hne_h_f hna_h hna_f (by decide) (by decide) (by decide) (by decide) (vin rfl) (vin rfl)) (cwV 1 B.1.2.2.2.2 gX10_copyFrom_X10_addField rfl rfl rfl (by decide +kernel) ⟨Nat.le_of_ble_eq_true rfl, Nat.le_of_ble_eq_true rfl⟩) h_37 rfl rfl rfl rfl (Nat.le_of_ble_eq_true rfl) dX10_copyFrom_34 ⟨Nat.le_of_ble_eq_true rfl, Nat.le_of_ble_eq_true rfl⟩ (fun v11 Φ11 sz11 st11 hp11 hs11 => ?_)
  obtain ⟨rfl, hq11, fr11, h_39, h_40⟩ := hp11
  replace hq11 : sz11 = sz := hq11
  subst sz11
  replace hs11 : st11 = [] := hs11
  subst st11
  have h_41 : Φ11 f = some (ai_ G 9 (upd (upd (upd (upd (upd g (0 : Int32).toNatClampNeg 0) (1 : Int32).toNatClampNeg 1) (2 : Int32).toNatClampNeg 2) (3 : Int32).toNatClampNeg 3) (4 : Int32).toNatClampNeg 4)) := h_39
  have h_42 : Φ11 h = some (o_ 12 [.ref f, .int 5, .int 31, .int 9]) := h_40
  refine z_iinc (k := 1) (v := 5) (lv' := [(3, .int 5), (4, .int 4), (0, .ref h), (1, .ref h2), (2, .int 383)]) B dX10_copyFrom_37 rfl rfl (Nat.le_of_ble_eq_true rfl) rfl ?_
  refine z_goto (tgt := 6) B dX10_copyFrom_40 rfl ?_
  refine z_iload_n B dX10_copyFrom_6 rfl 0 rfl ?_
  refine z_aload_n B dX10_copyFrom_7 rfl 3 rfl ?_
  have h_43 : Φ11 h2 = some (o_ 12 [.ref f2, .int 9, .int b2, .int d2]) := ((fr11 h2 hne_h2_f (Ne.symm hne_h_h2)).trans ((fr10 h2).trans h_35))
  refine z_get (ref := "FlowExporter$Template") (C := RX10) (T := TX10) (N := 4) (ci := 12) (v := .int 9) B (by decide +kernel) rfl 1 (by decide) (by decide +kernel) rfl h_43 rfl dX10_copyFrom_8 ?_
  refine z_icmp_ge (tgt := 43) B dX10_copyFrom_11 rfl (fun h9 => absurd h9 (by decide)) (fun c_11 => ?_)
  refine z_aload_n B dX10_copyFrom_14 rfl 3 rfl ?_
  refine z_iload_n B dX10_copyFrom_15 rfl 0 rfl ?_
  have h_44 : Φ11 f2 = some (ai_ G 9 g2) := ((fr11 f2 (Ne.symm hne_f_f2) (Ne.symm hne_h_f2)).trans ((fr10 f2).trans h_36))
  refine z_callV (As := [.int 5]) (rest := []) B (c_X10_field G l Φ11 sz h2 f2 9 b2 d2 g2 5 h_43 h_44 (by decide) (by decide) (vin rfl)) (cwV 1 B.1.2.2.2.2 gX10_copyFrom_X10_field rfl rfl rfl (by decide +kernel) ⟨Nat.le_of_ble_eq_true rfl, Nat.le_of_ble_eq_true rfl⟩) h_43 rfl rfl rfl rfl (Nat.le_of_ble_eq_true rfl) dX10_copyFrom_16 ⟨Nat.le_of_ble_eq_true rfl, Nat.le_of_ble_eq_true rfl⟩ (fun v12 Φ12 sz12 st12 hp12 hs12 => ?_)
  obtain ⟨rfl, hq12, fr12⟩ := hp12
  replace hq12 : sz12 = sz := hq12
  subst sz12
  replace hs12 : st12 = [.int (g2 (5 : Int32).toNatClampNeg)] := hs12
  subst st12
  refine z_top (st1 := [.int 5]) (by rw [show g2 ((5 : Int32).toNatClampNeg) = 5 from hg5]) ?_
  refine z_istore (lv' := [(4, .int 5), (3, .int 5), (0, .ref h), (1, .ref h2), (2, .int 383)]) B dX10_copyFrom_19 (Nat.le_of_ble_eq_true rfl) rfl ?_
  refine z_iload_n B dX10_copyFrom_21 rfl 4 rfl ?_
  refine z_iload B dX10_copyFrom_22 0 rfl ?_
  refine z_ishr B dX10_copyFrom_24 ?_
  refine z_top (st1 := [.int 11]) (congrArg (fun w9 : Int32 => ([.int w9] : List Value)) (show ((383 : Int32) >>> ((5 : Int32) &&& (31 : Int32)) : Int32) = 11 by decide +kernel)) ?_
  refine z_iconst (v := 1) B dX10_copyFrom_25 rfl ?_
  refine z_iand B dX10_copyFrom_26 ?_
  refine z_top (st1 := [.int 1]) (congrArg (fun w9 : Int32 => ([.int w9] : List Value)) (show (11 &&& 1 : Int32) = 1 by decide +kernel)) ?_
  refine z_iconst (v := 1) B dX10_copyFrom_27 rfl ?_
  refine z_icmp_ne (tgt := 37) B dX10_copyFrom_28 rfl (fun h9 => absurd (by decide) h9) (fun c_12 => ?_)
  refine z_aload_n B dX10_copyFrom_31 rfl 2 rfl ?_
  refine z_iload B dX10_copyFrom_32 0 rfl ?_
  have h_45 : Φ12 h = some (o_ 12 [.ref f, .int 5, .int 31, .int 9]) := ((fr12 h).trans h_42)
  have h_46 : Φ12 f = some (ai_ G 9 (upd (upd (upd (upd (upd g (0 : Int32).toNatClampNeg 0) (1 : Int32).toNatClampNeg 1) (2 : Int32).toNatClampNeg 2) (3 : Int32).toNatClampNeg 3) (4 : Int32).toNatClampNeg 4)) := ((fr12 f).trans h_41)
  refine z_callV (As := [.int 5]) (rest := []) B (c_X10_addField G l Φ12 sz h f 5 31 9 (upd (upd (upd (upd (upd g (0 : Int32).toNatClampNeg 0) (1 : Int32).toNatClampNeg 1) (2 : Int32).toNatClampNeg 2) (3 : Int32).toNatClampNeg 3) (4 : Int32).toNatClampNeg 4) 5 h_45 h_46 hne_h_f hna_h hna_f (by decide) (by decide) (by decide) (by decide) (vin rfl) (vin rfl)) (cwV 1 B.1.2.2.2.2 gX10_copyFrom_X10_addField rfl rfl rfl (by decide +kernel) ⟨Nat.le_of_ble_eq_true rfl, Nat.le_of_ble_eq_true rfl⟩) h_45 rfl rfl rfl rfl (Nat.le_of_ble_eq_true rfl) dX10_copyFrom_34 ⟨Nat.le_of_ble_eq_true rfl, Nat.le_of_ble_eq_true rfl⟩ (fun v13 Φ13 sz13 st13 hp13 hs13 => ?_)
  obtain ⟨rfl, hq13, fr13, h_47, h_48⟩ := hp13
  replace hq13 : sz13 = sz := hq13
  subst sz13
  replace hs13 : st13 = [] := hs13
  subst st13
  have h_49 : Φ13 f = some (ai_ G 9 (upd (upd (upd (upd (upd (upd g (0 : Int32).toNatClampNeg 0) (1 : Int32).toNatClampNeg 1) (2 : Int32).toNatClampNeg 2) (3 : Int32).toNatClampNeg 3) (4 : Int32).toNatClampNeg 4) (5 : Int32).toNatClampNeg 5)) := h_47
  have h_50 : Φ13 h = some (o_ 12 [.ref f, .int 6, .int 63, .int 17]) := h_48
  refine z_iinc (k := 1) (v := 6) (lv' := [(3, .int 6), (4, .int 5), (0, .ref h), (1, .ref h2), (2, .int 383)]) B dX10_copyFrom_37 rfl rfl (Nat.le_of_ble_eq_true rfl) rfl ?_
  refine z_goto (tgt := 6) B dX10_copyFrom_40 rfl ?_
  refine z_iload_n B dX10_copyFrom_6 rfl 0 rfl ?_
  refine z_aload_n B dX10_copyFrom_7 rfl 3 rfl ?_
  have h_51 : Φ13 h2 = some (o_ 12 [.ref f2, .int 9, .int b2, .int d2]) := ((fr13 h2 hne_h2_f (Ne.symm hne_h_h2)).trans ((fr12 h2).trans h_43))
  refine z_get (ref := "FlowExporter$Template") (C := RX10) (T := TX10) (N := 4) (ci := 12) (v := .int 9) B (by decide +kernel) rfl 1 (by decide) (by decide +kernel) rfl h_51 rfl dX10_copyFrom_8 ?_
  refine z_icmp_ge (tgt := 43) B dX10_copyFrom_11 rfl (fun h9 => absurd h9 (by decide)) (fun c_13 => ?_)
  refine z_aload_n B dX10_copyFrom_14 rfl 3 rfl ?_
  refine z_iload_n B dX10_copyFrom_15 rfl 0 rfl ?_
  have h_52 : Φ13 f2 = some (ai_ G 9 g2) := ((fr13 f2 (Ne.symm hne_f_f2) (Ne.symm hne_h_f2)).trans ((fr12 f2).trans h_44))
  refine z_callV (As := [.int 6]) (rest := []) B (c_X10_field G l Φ13 sz h2 f2 9 b2 d2 g2 6 h_51 h_52 (by decide) (by decide) (vin rfl)) (cwV 1 B.1.2.2.2.2 gX10_copyFrom_X10_field rfl rfl rfl (by decide +kernel) ⟨Nat.le_of_ble_eq_true rfl, Nat.le_of_ble_eq_true rfl⟩) h_51 rfl rfl rfl rfl (Nat.le_of_ble_eq_true rfl) dX10_copyFrom_16 ⟨Nat.le_of_ble_eq_true rfl, Nat.le_of_ble_eq_true rfl⟩ (fun v14 Φ14 sz14 st14 hp14 hs14 => ?_)
  obtain ⟨rfl, hq14, fr14⟩ := hp14
  replace hq14 : sz14 = sz := hq14
  subst sz14
  replace hs14 : st14 = [.int (g2 (6 : Int32).toNatClampNeg)] := hs14
  subst st14
  refine z_top (st1 := [.int 6]) (by rw [show g2 ((6 : Int32).toNatClampNeg) = 6 from hg6]) ?_
  refine z_istore (lv' := [(4, .int 6), (3, .int 6), (0, .ref h), (1, .ref h2), (2, .int 383)]) B dX10_copyFrom_19 (Nat.le_of_ble_eq_true rfl) rfl ?_
  refine z_iload_n B dX10_copyFrom_21 rfl 4 rfl ?_
  refine z_iload B dX10_copyFrom_22 0 rfl ?_
  refine z_ishr B dX10_copyFrom_24 ?_
  refine z_top (st1 := [.int 5]) (congrArg (fun w9 : Int32 => ([.int w9] : List Value)) (show ((383 : Int32) >>> ((6 : Int32) &&& (31 : Int32)) : Int32) = 5 by decide +kernel)) ?_
  refine z_iconst (v := 1) B dX10_copyFrom_25 rfl ?_
  refine z_iand B dX10_copyFrom_26 ?_
  refine z_top (st1 := [.int 1]) (congrArg (fun w9 : Int32 => ([.int w9] : List Value)) (show (5 &&& 1 : Int32) = 1 by decide +kernel)) ?_
  refine z_iconst (v := 1) B dX10_copyFrom_27 rfl ?_
  refine z_icmp_ne (tgt := 37) B dX10_copyFrom_28 rfl (fun h9 => absurd (by decide) h9) (fun c_14 => ?_)
  refine z_aload_n B dX10_copyFrom_31 rfl 2 rfl ?_
  refine z_iload B dX10_copyFrom_32 0 rfl ?_
  have h_53 : Φ14 h = some (o_ 12 [.ref f, .int 6, .int 63, .int 17]) := ((fr14 h).trans h_50)
  have h_54 : Φ14 f = some (ai_ G 9 (upd (upd (upd (upd (upd (upd g (0 : Int32).toNatClampNeg 0) (1 : Int32).toNatClampNeg 1) (2 : Int32).toNatClampNeg 2) (3 : Int32).toNatClampNeg 3) (4 : Int32).toNatClampNeg 4) (5 : Int32).toNatClampNeg 5)) := ((fr14 f).trans h_49)
  refine z_callV (As := [.int 6]) (rest := []) B (c_X10_addField G l Φ14 sz h f 6 63 17 (upd (upd (upd (upd (upd (upd g (0 : Int32).toNatClampNeg 0) (1 : Int32).toNatClampNeg 1) (2 : Int32).toNatClampNeg 2) (3 : Int32).toNatClampNeg 3) (4 : Int32).toNatClampNeg 4) (5 : Int32).toNatClampNeg 5) 6 h_53 h_54 hne_h_f hna_h hna_f (by decide) (by decide) (by decide) (by decide) (vin rfl) (vin rfl)) (cwV 1 B.1.2.2.2.2 gX10_copyFrom_X10_addField rfl rfl rfl (by decide +kernel) ⟨Nat.le_of_ble_eq_true rfl, Nat.le_of_ble_eq_true rfl⟩) h_53 rfl rfl rfl rfl (Nat.le_of_ble_eq_true rfl) dX10_copyFrom_34 ⟨Nat.le_of_ble_eq_true rfl, Nat.le_of_ble_eq_true rfl⟩ (fun v15 Φ15 sz15 st15 hp15 hs15 => ?_)
  obtain ⟨rfl, hq15, fr15, h_55, h_56⟩ := hp15
  replace hq15 : sz15 = sz := hq15
  subst sz15
  replace hs15 : st15 = [] := hs15
  subst st15
  have h_57 : Φ15 f = some (ai_ G 9 (upd (upd (upd (upd (upd (upd (upd g (0 : Int32).toNatClampNeg 0) (1 : Int32).toNatClampNeg 1) (2 : Int32).toNatClampNeg 2) (3 : Int32).toNatClampNeg 3) (4 : Int32).toNatClampNeg 4) (5 : Int32).toNatClampNeg 5) (6 : Int32).toNatClampNeg 6)) := h_55
  have h_58 : Φ15 h = some (o_ 12 [.ref f, .int 7, .int 127, .int 21]) := h_56
  refine z_iinc (k := 1) (v := 7) (lv' := [(3, .int 7), (4, .int 6), (0, .ref h), (1, .ref h2), (2, .int 383)]) B dX10_copyFrom_37 rfl rfl (Nat.le_of_ble_eq_true rfl) rfl ?_
  refine z_goto (tgt := 6) B dX10_copyFrom_40 rfl ?_
  refine z_iload_n B dX10_copyFrom_6 rfl 0 rfl ?_
  refine z_aload_n B dX10_copyFrom_7 rfl 3 rfl ?_
  have h_59 : Φ15 h2 = some (o_ 12 [.ref f2, .int 9, .int b2, .int d2]) := ((fr15 h2 hne_h2_f (Ne.symm hne_h_h2)).trans ((fr14 h2).trans h_51))
  refine z_get (ref := "FlowExporter$Template") (C := RX10) (T := TX10) (N := 4) (ci := 12) (v := .int 9) B (by decide +kernel) rfl 1 (by decide) (by decide +kernel) rfl h_59 rfl dX10_copyFrom_8 ?_
  refine z_icmp_ge (tgt := 43) B dX10_copyFrom_11 rfl (fun h9 => absurd h9 (by decide)) (fun c_15 => ?_)
  refine z_aload_n B dX10_copyFrom_14 rfl 3 rfl ?_
  refine z_iload_n B dX10_copyFrom_15 rfl 0 rfl ?_
  have h_60 : Φ15 f2 = some (ai_ G 9 g2) := ((fr15 f2 (Ne.symm hne_f_f2) (Ne.symm hne_h_f2)).trans ((fr14 f2).trans h_52))
  refine z_callV (As := [.int 7]) (rest := []) B (c_X10_field G l Φ15 sz h2 f2 9 b2 d2 g2 7 h_59 h_60 (by decide) (by decide) (vin rfl)) (cwV 1 B.1.2.2.2.2 gX10_copyFrom_X10_field rfl rfl rfl (by decide +kernel) ⟨Nat.le_of_ble_eq_true rfl, Nat.le_of_ble_eq_true rfl⟩) h_59 rfl rfl rfl rfl (Nat.le_of_ble_eq_true rfl) dX10_copyFrom_16 ⟨Nat.le_of_ble_eq_true rfl, Nat.le_of_ble_eq_true rfl⟩ (fun v16 Φ16 sz16 st16 hp16 hs16 => ?_)
  obtain ⟨rfl, hq16, fr16⟩ := hp16
  replace hq16 : sz16 = sz := hq16
  subst sz16
  replace hs16 : st16 = [.int (g2 (7 : Int32).toNatClampNeg)] := hs16
  subst st16
  refine z_top (st1 := [.int 7]) (by rw [show g2 ((7 : Int32).toNatClampNeg) = 7 from hg7]) ?_
  refine z_istore (lv' := [(4, .int 7), (3, .int 7), (0, .ref h), (1, .ref h2), (2, .int 383)]) B dX10_copyFrom_19 (Nat.le_of_ble_eq_true rfl) rfl ?_
  refine z_iload_n B dX10_copyFrom_21 rfl 4 rfl ?_
  refine z_iload B dX10_copyFrom_22 0 rfl ?_
  refine z_ishr B dX10_copyFrom_24 ?_
  refine z_top (st1 := [.int 2]) (congrArg (fun w9 : Int32 => ([.int w9] : List Value)) (show ((383 : Int32) >>> ((7 : Int32) &&& (31 : Int32)) : Int32) = 2 by decide +kernel)) ?_
  refine z_iconst (v := 1) B dX10_copyFrom_25 rfl ?_
  refine z_iand B dX10_copyFrom_26 ?_
  refine z_top (st1 := [.int 0]) (congrArg (fun w9 : Int32 => ([.int w9] : List Value)) (show (2 &&& 1 : Int32) = 0 by decide +kernel)) ?_
  refine z_iconst (v := 1) B dX10_copyFrom_27 rfl ?_
  refine z_icmp_ne (tgt := 37) B dX10_copyFrom_28 rfl (fun c_16 => ?_) (fun h9 => absurd h9 (by decide))
  refine z_iinc (k := 1) (v := 8) (lv' := [(3, .int 8), (4, .int 7), (0, .ref h), (1, .ref h2), (2, .int 383)]) B dX10_copyFrom_37 rfl rfl (Nat.le_of_ble_eq_true rfl) rfl ?_
  refine z_goto (tgt := 6) B dX10_copyFrom_40 rfl ?_
  refine z_iload_n B dX10_copyFrom_6 rfl 0 rfl ?_
  refine z_aload_n B dX10_copyFrom_7 rfl 3 rfl ?_
  have h_61 : Φ16 h2 = some (o_ 12 [.ref f2, .int 9, .int b2, .int d2]) := ((fr16 h2).trans h_59)
  refine z_get (ref := "FlowExporter$Template") (C := RX10) (T := TX10) (N := 4) (ci := 12) (v := .int 9) B (by decide +kernel) rfl 1 (by decide) (by decide +kernel) rfl h_61 rfl dX10_copyFrom_8 ?_
  refine z_icmp_ge (tgt := 43) B dX10_copyFrom_11 rfl (fun h9 => absurd h9 (by decide)) (fun c_17 => ?_)
  refine z_aload_n B dX10_copyFrom_14 rfl 3 rfl ?_
  refine z_iload_n B dX10_copyFrom_15 rfl 0 rfl ?_
  have h_62 : Φ16 f2 = some (ai_ G 9 g2) := ((fr16 f2).trans h_60)
  refine z_callV (As := [.int 8]) (rest := []) B (c_X10_field G l Φ16 sz h2 f2 9 b2 d2 g2 8 h_61 h_62 (by decide) (by decide) (vin rfl)) (cwV 1 B.1.2.2.2.2 gX10_copyFrom_X10_field rfl rfl rfl (by decide +kernel) ⟨Nat.le_of_ble_eq_true rfl, Nat.le_of_ble_eq_true rfl⟩) h_61 rfl rfl rfl rfl (Nat.le_of_ble_eq_true rfl) dX10_copyFrom_16 ⟨Nat.le_of_ble_eq_true rfl, Nat.le_of_ble_eq_true rfl⟩ (fun v17 Φ17 sz17 st17 hp17 hs17 => ?_)
  obtain ⟨rfl, hq17, fr17⟩ := hp17
  replace hq17 : sz17 = sz := hq17
  subst sz17
  replace hs17 : st17 = [.int (g2 (8 : Int32).toNatClampNeg)] := hs17
  subst st17
  refine z_top (st1 := [.int 8]) (by rw [show g2 ((8 : Int32).toNatClampNeg) = 8 from hg8]) ?_
  refine z_istore (lv' := [(4, .int 8), (3, .int 8), (0, .ref h), (1, .ref h2), (2, .int 383)]) B dX10_copyFrom_19 (Nat.le_of_ble_eq_true rfl) rfl ?_
  refine z_iload_n B dX10_copyFrom_21 rfl 4 rfl ?_
  refine z_iload B dX10_copyFrom_22 0 rfl ?_
  refine z_ishr B dX10_copyFrom_24 ?_
  refine z_top (st1 := [.int 1]) (congrArg (fun w9 : Int32 => ([.int w9] : List Value)) (show ((383 : Int32) >>> ((8 : Int32) &&& (31 : Int32)) : Int32) = 1 by decide +kernel)) ?_
  refine z_iconst (v := 1) B dX10_copyFrom_25 rfl ?_
  refine z_iand B dX10_copyFrom_26 ?_
  refine z_top (st1 := [.int 1]) (congrArg (fun w9 : Int32 => ([.int w9] : List Value)) (show (1 &&& 1 : Int32) = 1 by decide +kernel)) ?_
  refine z_iconst (v := 1) B dX10_copyFrom_27 rfl ?_
  refine z_icmp_ne (tgt := 37) B dX10_copyFrom_28 rfl (fun h9 => absurd (by decide) h9) (fun c_18 => ?_)
  refine z_aload_n B dX10_copyFrom_31 rfl 2 rfl ?_
  refine z_iload B dX10_copyFrom_32 0 rfl ?_
  have h_63 : Φ17 h = some (o_ 12 [.ref f, .int 7, .int 127, .int 21]) := ((fr17 h).trans ((fr16 h).trans h_58))
  have h_64 : Φ17 f = some (ai_ G 9 (upd (upd (upd (upd (upd (upd (upd g (0 : Int32).toNatClampNeg 0) (1 : Int32).toNatClampNeg 1) (2 : Int32).toNatClampNeg 2) (3 : Int32).toNatClampNeg 3) (4 : Int32).toNatClampNeg 4) (5 : Int32).toNatClampNeg 5) (6 : Int32).toNatClampNeg 6)) := ((fr17 f).trans ((fr16 f).trans h_57))
  refine z_callV (As := [.int 8]) (rest := []) B (c_X10_addField G l Φ17 sz h f 7 127 21 (upd (upd (upd (upd (upd (upd (upd g (0 : Int32).toNatClampNeg 0) (1 : Int32).toNatClampNeg 1) (2 : Int32).toNatClampNeg 2) (3 : Int32).toNatClampNeg 3) (4 : Int32).toNatClampNeg 4) (5 : Int32).toNatClampNeg 5) (6 : Int32).toNatClampNeg 6) 8 h_63 h_64 hne_h_f hna_h hna_f (by decide) (by decide) (by decide) (by decide) (vin rfl) (vin rfl)) (cwV 1 B.1.2.2.2.2 gX10_copyFrom_X10_addField rfl rfl rfl (by decide +kernel) ⟨Nat.le_of_ble_eq_true rfl, Nat.le_of_ble_eq_true rfl⟩) h_63 rfl rfl rfl rfl (Nat.le_of_ble_eq_true rfl) dX10_copyFrom_34 ⟨Nat.le_of_ble_eq_true rfl, Nat.le_of_ble_eq_true rfl⟩ (fun v18 Φ18 sz18 st18 hp18 hs18 => ?_)
  obtain ⟨rfl, hq18, fr18, h_65, h_66⟩ := hp18
  replace hq18 : sz18 = sz := hq18
  subst sz18
  replace hs18 : st18 = [] := hs18
  subst st18
  have h_67 : Φ18 f = some (ai_ G 9 (upd (upd (upd (upd (upd (upd (upd (upd g (0 : Int32).toNatClampNeg 0) (1 : Int32).toNatClampNeg 1) (2 : Int32).toNatClampNeg 2) (3 : Int32).toNatClampNeg 3) (4 : Int32).toNatClampNeg 4) (5 : Int32).toNatClampNeg 5) (6 : Int32).toNatClampNeg 6) (7 : Int32).toNatClampNeg 8)) := h_65
  have h_68 : Φ18 h = some (o_ 12 [.ref f, .int 8, .int 383, .int 25]) := h_66
  refine z_iinc (k := 1) (v := 9) (lv' := [(3, .int 9), (4, .int 8), (0, .ref h), (1, .ref h2), (2, .int 383)]) B dX10_copyFrom_37 rfl rfl (Nat.le_of_ble_eq_true rfl) rfl ?_
  refine z_goto (tgt := 6) B dX10_copyFrom_40 rfl ?_
  refine z_iload_n B dX10_copyFrom_6 rfl 0 rfl ?_
  refine z_aload_n B dX10_copyFrom_7 rfl 3 rfl ?_
  have h_69 : Φ18 h2 = some (o_ 12 [.ref f2, .int 9, .int b2, .int d2]) := ((fr18 h2 hne_h2_f (Ne.symm hne_h_h2)).trans ((fr17 h2).trans h_61))
  refine z_get (ref := "FlowExporter$Template") (C := RX10) (T := TX10) (N := 4) (ci := 12) (v := .int 9) B (by decide +kernel) rfl 1 (by decide) (by decide +kernel) rfl h_69 rfl dX10_copyFrom_8 ?_
  refine z_icmp_ge (tgt := 43) B dX10_copyFrom_11 rfl (fun c_19 => ?_) (fun h9 => absurd (by decide) h9)
  exact z_ret_v B dX10_copyFrom_43 ⟨rfl, rfl, (fun b9 h9a h9b => ((fr18 b9 h9a h9b).trans ((fr17 b9).trans ((fr16 b9).trans ((fr15 b9 h9a h9b).trans ((fr14 b9).trans ((fr13 b9 h9a h9b).trans ((fr12 b9).trans ((fr11 b9 h9a h9b).trans ((fr10 b9).trans ((fr9 b9 h9a h9b).trans ((fr8 b9).trans ((fr7 b9 h9a h9b).trans ((fr6 b9).trans ((fr5 b9 h9a h9b).trans ((fr4 b9).trans ((fr3 b9 h9a h9b).trans ((fr2 b9).trans ((fr1 b9 h9b).trans rfl))))))))))))))))))), h_67, h_68⟩

set_option maxHeartbeats 4000000 in
set_option maxRecDepth 100000 in
theorem c_X10_copyFrom_z7 (G : EnvG) (l : Launch) (Φ : Hm) (sz : Nat) (h : Nat) (f : Nat) (a : Int32) (b : Int32) (d : Int32) (h2 : Nat) (f2 : Nat) (b2 : Int32) (d2 : Int32) (hc0 : Φ h = some (o_ 12 [.ref f, .int a, .int b, .int d])) (hc1 : Φ h2 = some (o_ 12 [.ref f2, .int 0, .int b2, .int d2])) (hne_h_h2 : h ≠ h2) (hna_h : G.2.2.2 ≤ h) : Ct G l yX10_copyFrom wsX10_copyFrom ({ frames := 1, cells := 0, slots := 0, locals := 20 }) 0 0 [.ref h, .ref h2, .int 383] Φ sz (fun v Φ1 sz1 => v = none ∧ sz1 = sz ∧ (∀ b9 : Nat, b9 ≠ h → Φ1 b9 = Φ b9) ∧ Φ1 h = some (o_ 12 [.ref f, .int 0, .int 0, .int 0])) := by
  refine Ct.of (cc := cX10_copyFrom) (maxL := 5) (ret := none) (by decide) rfl (Nat.le_of_ble_eq_true rfl) ?_
  intro p9 e9 s9 m9 w9 t9 k9 B
  show Z p9 l e9 _ s9 m9 _ w9 t9 k9 _ G 5 0 [(0, .ref h), (1, .ref h2), (2, .int 383)] [] Φ (sz) 0 0
  refine z_aload_n B dX10_copyFrom_0 rfl 0 rfl ?_
  refine z_callV (As := []) (rest := []) B (c_X10_clear G l Φ sz h f a b d hc0 hna_h) (cwV 0 B.1.2.2.2.2 gX10_copyFrom_X10_clear rfl rfl rfl (by decide +kernel) ⟨Nat.le_of_ble_eq_true rfl, Nat.le_of_ble_eq_true rfl⟩) hc0 rfl rfl rfl rfl (Nat.le_of_ble_eq_true rfl) dX10_copyFrom_1 ⟨Nat.le_of_ble_eq_true rfl, Nat.le_of_ble_eq_true rfl⟩ (fun v1 Φ1 sz1 st1 hp1 hs1 => ?_)
  obtain ⟨rfl, hq1, fr1, h_1⟩ := hp1
  replace hq1 : sz1 = sz := hq1
  subst sz1
  replace hs1 : st1 = [] := hs1
  subst st1
  have h_2 : Φ1 h = some (o_ 12 [.ref f, .int 0, .int 0, .int 0]) := h_1
  refine z_iconst (v := 0) B dX10_copyFrom_4 rfl ?_
  refine z_istore_n (lv' := [(3, .int 0), (0, .ref h), (1, .ref h2), (2, .int 383)]) B dX10_copyFrom_5 rfl (Nat.le_of_ble_eq_true rfl) rfl ?_
  refine z_iload_n B dX10_copyFrom_6 rfl 0 rfl ?_
  refine z_aload_n B dX10_copyFrom_7 rfl 2 rfl ?_
  have h_3 : Φ1 h2 = some (o_ 12 [.ref f2, .int 0, .int b2, .int d2]) := ((fr1 h2 (Ne.symm hne_h_h2)).trans hc1)
  refine z_get (ref := "FlowExporter$Template") (C := RX10) (T := TX10) (N := 4) (ci := 12) (v := .int 0) B (by decide +kernel) rfl 1 (by decide) (by decide +kernel) rfl h_3 rfl dX10_copyFrom_8 ?_
  refine z_icmp_ge (tgt := 43) B dX10_copyFrom_11 rfl (fun c_1 => ?_) (fun h9 => absurd (by decide) h9)
  exact z_ret_v B dX10_copyFrom_43 ⟨rfl, rfl, (fun b9 h9a => ((fr1 b9 h9a).trans rfl)), h_2⟩

set_option maxHeartbeats 4000000 in
set_option maxRecDepth 100000 in
theorem f_X1_support_s7 (G : EnvG) (l : Launch) (Φ : Hm) (sz : Nat) (x : Nat) (hc3_ : Φ (x + 3) = some (o_ 3 [.ref (x + 4), .ref (x + 5), .ref (x + 6), .ref (x + 7), .int 1, .int 511])) (hc6_ : Φ (x + 6) = some (aq_ G 4 4 (va_up (va_up (va_up (va_up (fun _ => none) (0 : Int32).toNatClampNeg (some (x + 8))) (1 : Int32).toNatClampNeg (some (x + 12))) (2 : Int32).toNatClampNeg (some (x + 16))) (3 : Int32).toNatClampNeg (some (x + 20))))) (hc7_ : Φ (x + 7) = some (aq_ G 4 4 (va_up (va_up (va_up (va_up (fun _ => none) (0 : Int32).toNatClampNeg (some (x + 10))) (1 : Int32).toNatClampNeg (some (x + 14))) (2 : Int32).toNatClampNeg (some (x + 18))) (3 : Int32).toNatClampNeg (some (x + 22))))) (hc8_ : Φ (x + 8) = some (o_ 12 [.ref (x + 9), .int 9, .int 511, .int 29])) (hc9_ : Φ (x + 9) = some (ai_ G 9 (upd (upd (upd (upd (upd (upd (upd (upd (upd (fun _ => 0) (0 : Int32).toNatClampNeg 0) (1 : Int32).toNatClampNeg 1) (2 : Int32).toNatClampNeg 2) (3 : Int32).toNatClampNeg 3) (4 : Int32).toNatClampNeg 4) (5 : Int32).toNatClampNeg 5) (6 : Int32).toNatClampNeg 6) (7 : Int32).toNatClampNeg 7) (8 : Int32).toNatClampNeg 8))) (hc10_ : Φ (x + 10) = some (o_ 12 [.ref (x + 11), .int 9, .int 511, .int 29])) (hc11_ : Φ (x + 11) = some (ai_ G 9 (upd (upd (upd (upd (upd (upd (upd (upd (upd (fun _ => 0) (0 : Int32).toNatClampNeg 0) (1 : Int32).toNatClampNeg 1) (2 : Int32).toNatClampNeg 2) (3 : Int32).toNatClampNeg 3) (4 : Int32).toNatClampNeg 4) (5 : Int32).toNatClampNeg 5) (6 : Int32).toNatClampNeg 6) (7 : Int32).toNatClampNeg 7) (8 : Int32).toNatClampNeg 8))) (hc12_ : Φ (x + 12) = some (o_ 12 [.ref (x + 13), .int 0, .int 0, .int 0])) (hc14_ : Φ (x + 14) = some (o_ 12 [.ref (x + 15), .int 0, .int 0, .int 0])) (hc16_ : Φ (x + 16) = some (o_ 12 [.ref (x + 17), .int 0, .int 0, .int 0])) (hc18_ : Φ (x + 18) = some (o_ 12 [.ref (x + 19), .int 0, .int 0, .int 0])) (hc20_ : Φ (x + 20) = some (o_ 12 [.ref (x + 21), .int 0, .int 0, .int 0])) (hc22_ : Φ (x + 22) = some (o_ 12 [.ref (x + 23), .int 0, .int 0, .int 0])) (hna : G.2.2.2 ≤ x) : Ct G l yX1_support wsX1_support ({ frames := 2, cells := 0, slots := 0, locals := 45 }) 0 0 [.ref (x + 3), .int 383] Φ sz (fun v Φ1 sz1 => v = none ∧ sz1 = sz ∧ (∀ b9 : Nat, b9 ≠ x + 10 → b9 ≠ x + 11 → b9 ≠ x + 14 → b9 ≠ x + 18 → b9 ≠ x + 22 → b9 ≠ x + 3 → Φ1 b9 = Φ b9) ∧ Φ1 (x + 10) = some (o_ 12 [.ref (x + 11), .int 8, .int 383, .int 25]) ∧ Φ1 (x + 11) = some (ai_ G 9 (upd (upd (upd (upd (upd (upd (upd (upd (upd (upd (upd (upd (upd (upd (upd (upd (upd (fun _ => 0) (0 : Int32).toNatClampNeg 0) (1 : Int32).toNatClampNeg 1) (2 : Int32).toNatClampNeg 2) (3 : Int32).toNatClampNeg 3) (4 : Int32).toNatClampNeg 4) (5 : Int32).toNatClampNeg 5) (6 : Int32).toNatClampNeg 6) (7 : Int32).toNatClampNeg 7) (8 : Int32).toNatClampNeg 8) (0 : Int32).toNatClampNeg 0) (1 : Int32).toNatClampNeg 1) (2 : Int32).toNatClampNeg 2) (3 : Int32).toNatClampNeg 3) (4 : Int32).toNatClampNeg 4) (5 : Int32).toNatClampNeg 5) (6 : Int32).toNatClampNeg 6) (7 : Int32).toNatClampNeg 8)) ∧ Φ1 (x + 14) = some (o_ 12 [.ref (x + 15), .int 0, .int 0, .int 0]) ∧ Φ1 (x + 18) = some (o_ 12 [.ref (x + 19), .int 0, .int 0, .int 0]) ∧ Φ1 (x + 22) = some (o_ 12 [.ref (x + 23), .int 0, .int 0, .int 0]) ∧ Φ1 (x + 3) = some (o_ 3 [.ref (x + 4), .ref (x + 5), .ref (x + 6), .ref (x + 7), .int 1, .int 383])) := by
  refine Ct.of (cc := cX1_support) (maxL := 3) (ret := none) (by decide) rfl (Nat.le_of_ble_eq_true rfl) ?_
  intro p9 e9 s9 m9 w9 t9 k9 B
  show Z p9 l e9 _ s9 m9 _ w9 t9 k9 _ G 3 0 [(0, .ref (x + 3)), (1, .int 383)] [] Φ sz 0 0
  refine z_aload_n B dX1_support_0 rfl 0 rfl ?_
  refine z_iload_n B dX1_support_1 rfl 1 rfl ?_
  refine z_put (ref := "FlowExporter$Config") (C := RX1) (T := TX1) (N := 6) (ci := 3) (v := .int 383) B (by decide +kernel) tyX1 tyX1_ok nmX1 rfl 5 (by decide) (by decide +kernel) rfl (Or.inl rfl) hc3_ (Nat.le_trans hna (Nat.le_add_right x 3)) rfl rfl (Nat.le_of_ble_eq_true rfl) dX1_support_2 (fun Φ1 hΦ1 => ?_)
  have h_1 : Φ1 (x + 3) = some (o_ 3 [.ref (x + 4), .ref (x + 5), .ref (x + 6), .ref (x + 7), .int 1, .int 383]) := fset_at hΦ1
  refine z_iconst (v := 0) B dX1_support_5 rfl ?_
  refine z_istore_n (lv' := [(2, .int 0), (0, .ref (x + 3)), (1, .int 383)]) B dX1_support_6 rfl (Nat.le_of_ble_eq_true rfl) rfl ?_
  refine z_iload_n B dX1_support_7 rfl 0 rfl ?_
  refine z_iconst (v := 4) B dX1_support_8 rfl ?_
  refine z_icmp_ge (tgt := 34) B dX1_support_9 rfl (fun h9 => absurd h9 (by decide)) (fun c_1 => ?_)
  refine z_aload_n B dX1_support_12 rfl 1 rfl ?_
  refine z_get (ref := "FlowExporter$Config") (C := RX1) (T := TX1) (N := 6) (ci := 3) (v := .ref (x + 7)) B (by decide +kernel) rfl 3 (by decide) (by decide +kernel) rfl h_1 rfl dX1_support_13 ?_
  refine z_iload_n B dX1_support_16 rfl 0 rfl ?_
  have h_2 : Φ1 (x + 7) = some (aq_ G 4 4 (va_up (va_up (va_up (va_up (fun _ => none) (0 : Int32).toNatClampNeg (some (x + 10))) (1 : Int32).toNatClampNeg (some (x + 14))) (2 : Int32).toNatClampNeg (some (x + 18))) (3 : Int32).toNatClampNeg (some (x + 22)))) := ((fset_fr hΦ1 (ne_off (x := x) (i := 7) (j := 3) rfl)).trans hc7_)
  refine z_aald (b := x + 10) B rfl h_2 (vin rfl) rfl dX1_support_17 ?_
  refine z_aload_n B dX1_support_18 rfl 1 rfl ?_
  refine z_get (ref := "FlowExporter$Config") (C := RX1) (T := TX1) (N := 6) (ci := 3) (v := .ref (x + 6)) B (by decide +kernel) rfl 2 (by decide) (by decide +kernel) rfl h_1 rfl dX1_support_19 ?_
  refine z_iload_n B dX1_support_22 rfl 0 rfl ?_
  have h_3 : Φ1 (x + 6) = some (aq_ G 4 4 (va_up (va_up (va_up (va_up (fun _ => none) (0 : Int32).toNatClampNeg (some (x + 8))) (1 : Int32).toNatClampNeg (some (x + 12))) (2 : Int32).toNatClampNeg (some (x + 16))) (3 : Int32).toNatClampNeg (some (x + 20)))) := ((fset_fr hΦ1 (ne_off (x := x) (i := 6) (j := 3) rfl)).trans hc6_)
  refine z_aald (b := x + 8) B rfl h_3 (vin rfl) rfl dX1_support_23 ?_
  refine z_iload_n B dX1_support_24 rfl 2 rfl ?_
  have h_4 : Φ1 (x + 10) = some (o_ 12 [.ref (x + 11), .int 9, .int 511, .int 29]) := ((fset_fr hΦ1 (ne_off (x := x) (i := 10) (j := 3) rfl)).trans hc10_)
  have h_5 : Φ1 (x + 11) = some (ai_ G 9 (upd (upd (upd (upd (upd (upd (upd (upd (upd (fun _ => 0) (0 : Int32).toNatClampNeg 0) (1 : Int32).toNatClampNeg 1) (2 : Int32).toNatClampNeg 2) (3 : Int32).toNatClampNeg 3) (4 : Int32).toNatClampNeg 4) (5 : Int32).toNatClampNeg 5) (6 : Int32).toNatClampNeg 6) (7 : Int32).toNatClampNeg 7) (8 : Int32).toNatClampNeg 8)) := ((fset_fr hΦ1 (ne_off (x := x) (i := 11) (j := 3) rfl)).trans hc11_)
  have h_6 : Φ1 (x + 8) = some (o_ 12 [.ref (x + 9), .int 9, .int 511, .int 29]) := ((fset_fr hΦ1 (ne_off (x := x) (i := 8) (j := 3) rfl)).trans hc8_)
  have h_7 : Φ1 (x + 9) = some (ai_ G 9 (upd (upd (upd (upd (upd (upd (upd (upd (upd (fun _ => 0) (0 : Int32).toNatClampNeg 0) (1 : Int32).toNatClampNeg 1) (2 : Int32).toNatClampNeg 2) (3 : Int32).toNatClampNeg 3) (4 : Int32).toNatClampNeg 4) (5 : Int32).toNatClampNeg 5) (6 : Int32).toNatClampNeg 6) (7 : Int32).toNatClampNeg 7) (8 : Int32).toNatClampNeg 8)) := ((fset_fr hΦ1 (ne_off (x := x) (i := 9) (j := 3) rfl)).trans hc9_)
  refine z_callV (As := [.ref (x + 8), .int 383]) (rest := []) B (c_X10_copyFrom_s7 G l Φ1 sz (x + 10) (x + 11) 9 511 29 (upd (upd (upd (upd (upd (upd (upd (upd (upd (fun _ => 0) (0 : Int32).toNatClampNeg 0) (1 : Int32).toNatClampNeg 1) (2 : Int32).toNatClampNeg 2) (3 : Int32).toNatClampNeg 3) (4 : Int32).toNatClampNeg 4) (5 : Int32).toNatClampNeg 5) (6 : Int32).toNatClampNeg 6) (7 : Int32).toNatClampNeg 7) (8 : Int32).toNatClampNeg 8) (x + 8) (x + 9) 511 29 (upd (upd (upd (upd (upd (upd (upd (upd (upd (fun _ => 0) (0 : Int32).toNatClampNeg 0) (1 : Int32).toNatClampNeg 1) (2 : Int32).toNatClampNeg 2) (3 : Int32).toNatClampNeg 3) (4 : Int32).toNatClampNeg 4) (5 : Int32).toNatClampNeg 5) (6 : Int32).toNatClampNeg 6) (7 : Int32).toNatClampNeg 7) (8 : Int32).toNatClampNeg 8) h_4 h_5 h_6 h_7 (ne_off (x := x) (i := 10) (j := 8) rfl) (ne_off (x := x) (i := 11) (j := 9) rfl) (ne_off (x := x) (i := 10) (j := 11) rfl) (ne_off (x := x) (i := 8) (j := 11) rfl) (ne_off (x := x) (i := 10) (j := 9) rfl) (ne_off (x := x) (i := 8) (j := 9) rfl) (Nat.le_trans hna (Nat.le_add_right x 10)) (Nat.le_trans hna (Nat.le_add_right x 11)) rfl rfl rfl rfl rfl rfl rfl rfl rfl) (cwV 2 B.1.2.2.2.2 gX1_support_X10_copyFrom rfl rfl rfl (by decide +kernel) ⟨Nat.le_of_ble_eq_true rfl, Nat.le_of_ble_eq_true rfl⟩) h_4 rfl rfl rfl rfl (Nat.le_of_ble_eq_true rfl) dX1_support_25 ⟨Nat.le_of_ble_eq_true rfl, Nat.le_of_ble_eq_true rfl⟩ (fun v1 Φ2 sz1 st1 hp1 hs1 => ?_)
  obtain ⟨rfl, hq1, fr1, h_8, h_9⟩ := hp1
  replace hq1 : sz1 = sz := hq1
  subst sz1
  replace hs1 : st1 = [] := hs1
  subst st1
  have h_10 : Φ2 (x + 11) = some (ai_ G 9 (upd (upd (upd (upd (upd (upd (upd (upd (upd (upd (upd (upd (upd (upd (upd (upd (upd (fun _ => 0) (0 : Int32).toNatClampNeg 0) (1 : Int32).toNatClampNeg 1) (2 : Int32).toNatClampNeg 2) (3 : Int32).toNatClampNeg 3) (4 : Int32).toNatClampNeg 4) (5 : Int32).toNatClampNeg 5) (6 : Int32).toNatClampNeg 6) (7 : Int32).toNatClampNeg 7) (8 : Int32).toNatClampNeg 8) (0 : Int32).toNatClampNeg 0) (1 : Int32).toNatClampNeg 1) (2 : Int32).toNatClampNeg 2) (3 : Int32).toNatClampNeg 3) (4 : Int32).toNatClampNeg 4) (5 : Int32).toNatClampNeg 5) (6 : Int32).toNatClampNeg 6) (7 : Int32).toNatClampNeg 8)) := h_8
  have h_11 : Φ2 (x + 10) = some (o_ 12 [.ref (x + 11), .int 8, .int 383, .int 25]) := h_9
  refine z_iinc (k := 0) (v := 1) (lv' := [(2, .int 1), (0, .ref (x + 3)), (1, .int 383)]) B dX1_support_28 rfl rfl (Nat.le_of_ble_eq_true rfl) rfl ?_
  refine z_goto (tgt := 7) B dX1_support_31 rfl ?_
  refine z_iload_n B dX1_support_7 rfl 0 rfl ?_
  refine z_iconst (v := 4) B dX1_support_8 rfl ?_
  refine z_icmp_ge (tgt := 34) B dX1_support_9 rfl (fun h9 => absurd h9 (by decide)) (fun c_2 => ?_)
  refine z_aload_n B dX1_support_12 rfl 1 rfl ?_
  have h_12 : Φ2 (x + 3) = some (o_ 3 [.ref (x + 4), .ref (x + 5), .ref (x + 6), .ref (x + 7), .int 1, .int 383]) := ((fr1 (x + 3) (ne_off (x := x) (i := 3) (j := 11) rfl) (ne_off (x := x) (i := 3) (j := 10) rfl)).trans h_1)
  refine z_get (ref := "FlowExporter$Config") (C := RX1) (T := TX1) (N := 6) (ci := 3) (v := .ref (x + 7)) B (by decide +kernel) rfl 3 (by decide) (by decide +kernel) rfl h_12 rfl dX1_support_13 ?_
  refine z_iload_n B dX1_support_16 rfl 0 rfl ?_
  have h_13 : Φ2 (x + 7) = some (aq_ G 4 4 (va_up (va_up (va_up (va_up (fun _ => none) (0 : Int32).toNatClampNeg (some (x + 10))) (1 : Int32).toNatClampNeg (some (x + 14))) (2 : Int32).toNatClampNeg (some (x + 18))) (3 : Int32).toNatClampNeg (some (x + 22)))) := ((fr1 (x + 7) (ne_off (x := x) (i := 7) (j := 11) rfl) (ne_off (x := x) (i := 7) (j := 10) rfl)).trans h_2)
  refine z_aald (b := x + 14) B rfl h_13 (vin rfl) rfl dX1_support_17 ?_
  refine z_aload_n B dX1_support_18 rfl 1 rfl ?_
  refine z_get (ref := "FlowExporter$Config") (C := RX1) (T := TX1) (N := 6) (ci := 3) (v := .ref (x + 6)) B (by decide +kernel) rfl 2 (by decide) (by decide +kernel) rfl h_12 rfl dX1_support_19 ?_
  refine z_iload_n B dX1_support_22 rfl 0 rfl ?_
  have h_14 : Φ2 (x + 6) = some (aq_ G 4 4 (va_up (va_up (va_up (va_up (fun _ => none) (0 : Int32).toNatClampNeg (some (x + 8))) (1 : Int32).toNatClampNeg (some (x + 12))) (2 : Int32).toNatClampNeg (some (x + 16))) (3 : Int32).toNatClampNeg (some (x + 20)))) := ((fr1 (x + 6) (ne_off (x := x) (i := 6) (j := 11) rfl) (ne_off (x := x) (i := 6) (j := 10) rfl)).trans h_3)
  refine z_aald (b := x + 12) B rfl h_14 (vin rfl) rfl dX1_support_23 ?_
  refine z_iload_n B dX1_support_24 rfl 2 rfl ?_
  have h_15 : Φ2 (x + 14) = some (o_ 12 [.ref (x + 15), .int 0, .int 0, .int 0]) := ((fr1 (x + 14) (ne_off (x := x) (i := 14) (j := 11) rfl) (ne_off (x := x) (i := 14) (j := 10) rfl)).trans ((fset_fr hΦ1 (ne_off (x := x) (i := 14) (j := 3) rfl)).trans hc14_))
  have h_16 : Φ2 (x + 12) = some (o_ 12 [.ref (x + 13), .int 0, .int 0, .int 0]) := ((fr1 (x + 12) (ne_off (x := x) (i := 12) (j := 11) rfl) (ne_off (x := x) (i := 12) (j := 10) rfl)).trans ((fset_fr hΦ1 (ne_off (x := x) (i := 12) (j := 3) rfl)).trans hc12_))
  refine z_callV (As := [.ref (x + 12), .int 383]) (rest := []) B (c_X10_copyFrom_z7 G l Φ2 sz (x + 14) (x + 15) 0 0 0 (x + 12) (x + 13) 0 0 h_15 h_16 (ne_off (x := x) (i := 14) (j := 12) rfl) (Nat.le_trans hna (Nat.le_add_right x 14))) (cwV 2 B.1.2.2.2.2 gX1_support_X10_copyFrom rfl rfl rfl (by decide +kernel) ⟨Nat.le_of_ble_eq_true rfl, Nat.le_of_ble_eq_true rfl⟩) h_15 rfl rfl rfl rfl (Nat.le_of_ble_eq_true rfl) dX1_support_25 ⟨Nat.le_of_ble_eq_true rfl, Nat.le_of_ble_eq_true rfl⟩ (fun v2 Φ3 sz2 st2 hp2 hs2 => ?_)
  obtain ⟨rfl, hq2, fr2, h_17⟩ := hp2
  replace hq2 : sz2 = sz := hq2
  subst sz2
  replace hs2 : st2 = [] := hs2
  subst st2
  have h_18 : Φ3 (x + 14) = some (o_ 12 [.ref (x + 15), .int 0, .int 0, .int 0]) := h_17
  refine z_iinc (k := 0) (v := 2) (lv' := [(2, .int 2), (0, .ref (x + 3)), (1, .int 383)]) B dX1_support_28 rfl rfl (Nat.le_of_ble_eq_true rfl) rfl ?_
  refine z_goto (tgt := 7) B dX1_support_31 rfl ?_
  refine z_iload_n B dX1_support_7 rfl 0 rfl ?_
  refine z_iconst (v := 4) B dX1_support_8 rfl ?_
  refine z_icmp_ge (tgt := 34) B dX1_support_9 rfl (fun h9 => absurd h9 (by decide)) (fun c_3 => ?_)
  refine z_aload_n B dX1_support_12 rfl 1 rfl ?_
  have h_19 : Φ3 (x + 3) = some (o_ 3 [.ref (x + 4), .ref (x + 5), .ref (x + 6), .ref (x + 7), .int 1, .int 383]) := ((fr2 (x + 3) (ne_off (x := x) (i := 3) (j := 14) rfl)).trans h_12)
  refine z_get (ref := "FlowExporter$Config") (C := RX1) (T := TX1) (N := 6) (ci := 3) (v := .ref (x + 7)) B (by decide +kernel) rfl 3 (by decide) (by decide +kernel) rfl h_19 rfl dX1_support_13 ?_
  refine z_iload_n B dX1_support_16 rfl 0 rfl ?_
  have h_20 : Φ3 (x + 7) = some (aq_ G 4 4 (va_up (va_up (va_up (va_up (fun _ => none) (0 : Int32).toNatClampNeg (some (x + 10))) (1 : Int32).toNatClampNeg (some (x + 14))) (2 : Int32).toNatClampNeg (some (x + 18))) (3 : Int32).toNatClampNeg (some (x + 22)))) := ((fr2 (x + 7) (ne_off (x := x) (i := 7) (j := 14) rfl)).trans h_13)
  refine z_aald (b := x + 18) B rfl h_20 (vin rfl) rfl dX1_support_17 ?_
  refine z_aload_n B dX1_support_18 rfl 1 rfl ?_
  refine z_get (ref := "FlowExporter$Config") (C := RX1) (T := TX1) (N := 6) (ci := 3) (v := .ref (x + 6)) B (by decide +kernel) rfl 2 (by decide) (by decide +kernel) rfl h_19 rfl dX1_support_19 ?_
  refine z_iload_n B dX1_support_22 rfl 0 rfl ?_
  have h_21 : Φ3 (x + 6) = some (aq_ G 4 4 (va_up (va_up (va_up (va_up (fun _ => none) (0 : Int32).toNatClampNeg (some (x + 8))) (1 : Int32).toNatClampNeg (some (x + 12))) (2 : Int32).toNatClampNeg (some (x + 16))) (3 : Int32).toNatClampNeg (some (x + 20)))) := ((fr2 (x + 6) (ne_off (x := x) (i := 6) (j := 14) rfl)).trans h_14)
  refine z_aald (b := x + 16) B rfl h_21 (vin rfl) rfl dX1_support_23 ?_
  refine z_iload_n B dX1_support_24 rfl 2 rfl ?_
  have h_22 : Φ3 (x + 18) = some (o_ 12 [.ref (x + 19), .int 0, .int 0, .int 0]) := ((fr2 (x + 18) (ne_off (x := x) (i := 18) (j := 14) rfl)).trans ((fr1 (x + 18) (ne_off (x := x) (i := 18) (j := 11) rfl) (ne_off (x := x) (i := 18) (j := 10) rfl)).trans ((fset_fr hΦ1 (ne_off (x := x) (i := 18) (j := 3) rfl)).trans hc18_)))
  have h_23 : Φ3 (x + 16) = some (o_ 12 [.ref (x + 17), .int 0, .int 0, .int 0]) := ((fr2 (x + 16) (ne_off (x := x) (i := 16) (j := 14) rfl)).trans ((fr1 (x + 16) (ne_off (x := x) (i := 16) (j := 11) rfl) (ne_off (x := x) (i := 16) (j := 10) rfl)).trans ((fset_fr hΦ1 (ne_off (x := x) (i := 16) (j := 3) rfl)).trans hc16_)))
  refine z_callV (As := [.ref (x + 16), .int 383]) (rest := []) B (c_X10_copyFrom_z7 G l Φ3 sz (x + 18) (x + 19) 0 0 0 (x + 16) (x + 17) 0 0 h_22 h_23 (ne_off (x := x) (i := 18) (j := 16) rfl) (Nat.le_trans hna (Nat.le_add_right x 18))) (cwV 2 B.1.2.2.2.2 gX1_support_X10_copyFrom rfl rfl rfl (by decide +kernel) ⟨Nat.le_of_ble_eq_true rfl, Nat.le_of_ble_eq_true rfl⟩) h_22 rfl rfl rfl rfl (Nat.le_of_ble_eq_true rfl) dX1_support_25 ⟨Nat.le_of_ble_eq_true rfl, Nat.le_of_ble_eq_true rfl⟩ (fun v3 Φ4 sz3 st3 hp3 hs3 => ?_)
  obtain ⟨rfl, hq3, fr3, h_24⟩ := hp3
  replace hq3 : sz3 = sz := hq3
  subst sz3
  replace hs3 : st3 = [] := hs3
  subst st3
  have h_25 : Φ4 (x + 18) = some (o_ 12 [.ref (x + 19), .int 0, .int 0, .int 0]) := h_24
  refine z_iinc (k := 0) (v := 3) (lv' := [(2, .int 3), (0, .ref (x + 3)), (1, .int 383)]) B dX1_support_28 rfl rfl (Nat.le_of_ble_eq_true rfl) rfl ?_
  refine z_goto (tgt := 7) B dX1_support_31 rfl ?_
  refine z_iload_n B dX1_support_7 rfl 0 rfl ?_
  refine z_iconst (v := 4) B dX1_support_8 rfl ?_
  refine z_icmp_ge (tgt := 34) B dX1_support_9 rfl (fun h9 => absurd h9 (by decide)) (fun c_4 => ?_)
  refine z_aload_n B dX1_support_12 rfl 1 rfl ?_
  have h_26 : Φ4 (x + 3) = some (o_ 3 [.ref (x + 4), .ref (x + 5), .ref (x + 6), .ref (x + 7), .int 1, .int 383]) := ((fr3 (x + 3) (ne_off (x := x) (i := 3) (j := 18) rfl)).trans h_19)
  refine z_get (ref := "FlowExporter$Config") (C := RX1) (T := TX1) (N := 6) (ci := 3) (v := .ref (x + 7)) B (by decide +kernel) rfl 3 (by decide) (by decide +kernel) rfl h_26 rfl dX1_support_13 ?_
  refine z_iload_n B dX1_support_16 rfl 0 rfl ?_
  have h_27 : Φ4 (x + 7) = some (aq_ G 4 4 (va_up (va_up (va_up (va_up (fun _ => none) (0 : Int32).toNatClampNeg (some (x + 10))) (1 : Int32).toNatClampNeg (some (x + 14))) (2 : Int32).toNatClampNeg (some (x + 18))) (3 : Int32).toNatClampNeg (some (x + 22)))) := ((fr3 (x + 7) (ne_off (x := x) (i := 7) (j := 18) rfl)).trans h_20)
  refine z_aald (b := x + 22) B rfl h_27 (vin rfl) rfl dX1_support_17 ?_
  refine z_aload_n B dX1_support_18 rfl 1 rfl ?_
  refine z_get (ref := "FlowExporter$Config") (C := RX1) (T := TX1) (N := 6) (ci := 3) (v := .ref (x + 6)) B (by decide +kernel) rfl 2 (by decide) (by decide +kernel) rfl h_26 rfl dX1_support_19 ?_
  refine z_iload_n B dX1_support_22 rfl 0 rfl ?_
  have h_28 : Φ4 (x + 6) = some (aq_ G 4 4 (va_up (va_up (va_up (va_up (fun _ => none) (0 : Int32).toNatClampNeg (some (x + 8))) (1 : Int32).toNatClampNeg (some (x + 12))) (2 : Int32).toNatClampNeg (some (x + 16))) (3 : Int32).toNatClampNeg (some (x + 20)))) := ((fr3 (x + 6) (ne_off (x := x) (i := 6) (j := 18) rfl)).trans h_21)
  refine z_aald (b := x + 20) B rfl h_28 (vin rfl) rfl dX1_support_23 ?_
  refine z_iload_n B dX1_support_24 rfl 2 rfl ?_
  have h_29 : Φ4 (x + 22) = some (o_ 12 [.ref (x + 23), .int 0, .int 0, .int 0]) := ((fr3 (x + 22) (ne_off (x := x) (i := 22) (j := 18) rfl)).trans ((fr2 (x + 22) (ne_off (x := x) (i := 22) (j := 14) rfl)).trans ((fr1 (x + 22) (ne_off (x := x) (i := 22) (j := 11) rfl) (ne_off (x := x) (i := 22) (j := 10) rfl)).trans ((fset_fr hΦ1 (ne_off (x := x) (i := 22) (j := 3) rfl)).trans hc22_))))
  have h_30 : Φ4 (x + 20) = some (o_ 12 [.ref (x + 21), .int 0, .int 0, .int 0]) := ((fr3 (x + 20) (ne_off (x := x) (i := 20) (j := 18) rfl)).trans ((fr2 (x + 20) (ne_off (x := x) (i := 20) (j := 14) rfl)).trans ((fr1 (x + 20) (ne_off (x := x) (i := 20) (j := 11) rfl) (ne_off (x := x) (i := 20) (j := 10) rfl)).trans ((fset_fr hΦ1 (ne_off (x := x) (i := 20) (j := 3) rfl)).trans hc20_))))
  refine z_callV (As := [.ref (x + 20), .int 383]) (rest := []) B (c_X10_copyFrom_z7 G l Φ4 sz (x + 22) (x + 23) 0 0 0 (x + 20) (x + 21) 0 0 h_29 h_30 (ne_off (x := x) (i := 22) (j := 20) rfl) (Nat.le_trans hna (Nat.le_add_right x 22))) (cwV 2 B.1.2.2.2.2 gX1_support_X10_copyFrom rfl rfl rfl (by decide +kernel) ⟨Nat.le_of_ble_eq_true rfl, Nat.le_of_ble_eq_true rfl⟩) h_29 rfl rfl rfl rfl (Nat.le_of_ble_eq_true rfl) dX1_support_25 ⟨Nat.le_of_ble_eq_true rfl, Nat.le_of_ble_eq_true rfl⟩ (fun v4 Φ5 sz4 st4 hp4 hs4 => ?_)
  obtain ⟨rfl, hq4, fr4, h_31⟩ := hp4
  replace hq4 : sz4 = sz := hq4
  subst sz4
  replace hs4 : st4 = [] := hs4
  subst st4
  have h_32 : Φ5 (x + 22) = some (o_ 12 [.ref (x + 23), .int 0, .int 0, .int 0]) := h_31
  refine z_iinc (k := 0) (v := 4) (lv' := [(2, .int 4), (0, .ref (x + 3)), (1, .int 383)]) B dX1_support_28 rfl rfl (Nat.le_of_ble_eq_true rfl) rfl ?_
  refine z_goto (tgt := 7) B dX1_support_31 rfl ?_
  refine z_iload_n B dX1_support_7 rfl 0 rfl ?_
  refine z_iconst (v := 4) B dX1_support_8 rfl ?_
  refine z_icmp_ge (tgt := 34) B dX1_support_9 rfl (fun c_5 => ?_) (fun h9 => absurd (by decide) h9)
  have h_33 : Φ5 (x + 10) = some (o_ 12 [.ref (x + 11), .int 8, .int 383, .int 25]) := ((fr4 (x + 10) (ne_off (x := x) (i := 10) (j := 22) rfl)).trans ((fr3 (x + 10) (ne_off (x := x) (i := 10) (j := 18) rfl)).trans ((fr2 (x + 10) (ne_off (x := x) (i := 10) (j := 14) rfl)).trans h_11)))
  have h_34 : Φ5 (x + 11) = some (ai_ G 9 (upd (upd (upd (upd (upd (upd (upd (upd (upd (upd (upd (upd (upd (upd (upd (upd (upd (fun _ => 0) (0 : Int32).toNatClampNeg 0) (1 : Int32).toNatClampNeg 1) (2 : Int32).toNatClampNeg 2) (3 : Int32).toNatClampNeg 3) (4 : Int32).toNatClampNeg 4) (5 : Int32).toNatClampNeg 5) (6 : Int32).toNatClampNeg 6) (7 : Int32).toNatClampNeg 7) (8 : Int32).toNatClampNeg 8) (0 : Int32).toNatClampNeg 0) (1 : Int32).toNatClampNeg 1) (2 : Int32).toNatClampNeg 2) (3 : Int32).toNatClampNeg 3) (4 : Int32).toNatClampNeg 4) (5 : Int32).toNatClampNeg 5) (6 : Int32).toNatClampNeg 6) (7 : Int32).toNatClampNeg 8)) := ((fr4 (x + 11) (ne_off (x := x) (i := 11) (j := 22) rfl)).trans ((fr3 (x + 11) (ne_off (x := x) (i := 11) (j := 18) rfl)).trans ((fr2 (x + 11) (ne_off (x := x) (i := 11) (j := 14) rfl)).trans h_10)))
  have h_35 : Φ5 (x + 14) = some (o_ 12 [.ref (x + 15), .int 0, .int 0, .int 0]) := ((fr4 (x + 14) (ne_off (x := x) (i := 14) (j := 22) rfl)).trans ((fr3 (x + 14) (ne_off (x := x) (i := 14) (j := 18) rfl)).trans h_18))
  have h_36 : Φ5 (x + 18) = some (o_ 12 [.ref (x + 19), .int 0, .int 0, .int 0]) := ((fr4 (x + 18) (ne_off (x := x) (i := 18) (j := 22) rfl)).trans h_25)
  have h_37 : Φ5 (x + 3) = some (o_ 3 [.ref (x + 4), .ref (x + 5), .ref (x + 6), .ref (x + 7), .int 1, .int 383]) := ((fr4 (x + 3) (ne_off (x := x) (i := 3) (j := 22) rfl)).trans h_26)
  exact z_ret_v B dX1_support_34 ⟨rfl, rfl, (fun b9 h9a h9b h9c h9d h9e h9f => ((fr4 b9 h9e).trans ((fr3 b9 h9d).trans ((fr2 b9 h9c).trans ((fr1 b9 h9b h9a).trans ((fset_fr hΦ1 h9f).trans rfl)))))), h_33, h_34, h_35, h_36, h_32, h_37⟩

set_option maxHeartbeats 4000000 in
set_option maxRecDepth 100000 in
theorem c_X10_copyFrom_s8 (G : EnvG) (l : Launch) (Φ : Hm) (sz : Nat) (h : Nat) (f : Nat) (a : Int32) (b : Int32) (d : Int32) (g : Nat → Int32) (h2 : Nat) (f2 : Nat) (b2 : Int32) (d2 : Int32) (g2 : Nat → Int32) (hc0 : Φ h = some (o_ 12 [.ref f, .int a, .int b, .int d])) (hc1 : Φ f = some (ai_ G 9 g)) (hc2 : Φ h2 = some (o_ 12 [.ref f2, .int 9, .int b2, .int d2])) (hc3 : Φ f2 = some (ai_ G 9 g2)) (hne_h_h2 : h ≠ h2) (hne_f_f2 : f ≠ f2) (hne_h_f : h ≠ f) (hne_h2_f : h2 ≠ f) (hne_h_f2 : h ≠ f2) (hne_h2_f2 : h2 ≠ f2) (hna_h : G.2.2.2 ≤ h) (hna_f : G.2.2.2 ≤ f) (hg0 : g2 0 = 0) (hg1 : g2 1 = 1) (hg2 : g2 2 = 2) (hg3 : g2 3 = 3) (hg4 : g2 4 = 4) (hg5 : g2 5 = 5) (hg6 : g2 6 = 6) (hg7 : g2 7 = 7) (hg8 : g2 8 = 8) : Ct G l yX10_copyFrom wsX10_copyFrom ({ frames := 1, cells := 0, slots := 0, locals := 21 }) 0 0 [.ref h, .ref h2, .int 255] Φ sz (fun v Φ1 sz1 => v = none ∧ sz1 = sz ∧ (∀ b9 : Nat, b9 ≠ f → b9 ≠ h → Φ1 b9 = Φ b9) ∧ Φ1 f = some (ai_ G 9 (upd (upd (upd (upd (upd (upd (upd (upd g (0 : Int32).toNatClampNeg 0) (1 : Int32).toNatClampNeg 1) (2 : Int32).toNatClampNeg 2) (3 : Int32).toNatClampNeg 3) (4 : Int32).toNatClampNeg 4) (5 : Int32).toNatClampNeg 5) (6 : Int32).toNatClampNeg 6) (7 : Int32).toNatClampNeg 7)) ∧ Φ1 h = some (o_ 12 [.ref f, .int 8, .int 255, .int 25])) := by
  refine Ct.of (cc := cX10_copyFrom) (maxL := 5) (ret := none) (by decide) rfl (Nat.le_of_ble_eq_true rfl) ?_
  intro p9 e9 s9 m9 w9 t9 k9 B
  show Z p9 l e9 _ s9 m9 _ w9 t9 k9 _ G 5 0 [(0, .ref h), (1, .ref h2), (2, .int 255)] [] Φ (sz) 0 0
  refine z_aload_n B dX10_copyFrom_0 rfl 0 rfl ?_
  refine z_callV (As := []) (rest := []) B (c_X10_clear G l Φ sz h f a b d hc0 hna_h) (cwV 0 B.1.2.2.2.2 gX10_copyFrom_X10_clear rfl rfl rfl (by decide +kernel) ⟨Nat.le_of_ble_eq_true rfl, Nat.le_of_ble_eq_true rfl⟩) hc0 rfl rfl rfl rfl (Nat.le_of_ble_eq_true rfl) dX10_copyFrom_1 ⟨Nat.le_of_ble_eq_true rfl, Nat.le_of_ble_eq_true rfl⟩ (fun v1 Φ1 sz1 st1 hp1 hs1 => ?_)
  obtain ⟨rfl, hq1, fr1, h_1⟩ := hp1
  replace hq1 : sz1 = sz := hq1
  subst sz1
  replace hs1 : st1 = [] := hs1
  subst st1
  have h_2 : Φ1 h = some (o_ 12 [.ref f, .int 0, .int 0, .int 0]) := h_1
  refine z_iconst (v := 0) B dX10_copyFrom_4 rfl ?_
  refine z_istore_n (lv' := [(3, .int 0), (0, .ref h), (1, .ref h2), (2, .int 255)]) B dX10_copyFrom_5 rfl (Nat.le_of_ble_eq_true rfl) rfl ?_
  refine z_iload_n B dX10_copyFrom_6 rfl 0 rfl ?_
  refine z_aload_n B dX10_copyFrom_7 rfl 2 rfl ?_
  have h_3 : Φ1 h2 = some (o_ 12 [.ref f2, .int 9, .int b2, .int d2]) := ((fr1 h2 (Ne.symm hne_h_h2)).trans hc2)
  refine z_get (ref := "FlowExporter$Template") (C := RX10) (T := TX10) (N := 4) (ci := 12) (v := .int 9) B (by decide +kernel) rfl 1 (by decide) (by decide +kernel) rfl h_3 rfl dX10_copyFrom_8 ?_
  refine z_icmp_ge (tgt := 43) B dX10_copyFrom_11 rfl (fun h9 => absurd h9 (by decide)) (fun c_1 => ?_)
  refine z_aload_n B dX10_copyFrom_14 rfl 2 rfl ?_
  refine z_iload_n B dX10_copyFrom_15 rfl 0 rfl ?_
  have h_4 : Φ1 f2 = some (ai_ G 9 g2) := ((fr1 f2 (Ne.symm hne_h_f2)).trans hc3)
  refine z_callV (As := [.int 0]) (rest := []) B (c_X10_field G l Φ1 sz h2 f2 9 b2 d2 g2 0 h_3 h_4 (by decide) (by decide) (vin rfl)) (cwV 1 B.1.2.2.2.2 gX10_copyFrom_X10_field rfl rfl rfl (by decide +kernel) ⟨Nat.le_of_ble_eq_true rfl, Nat.le_of_ble_eq_true rfl⟩) h_3 rfl rfl rfl rfl (Nat.le_of_ble_eq_true rfl) dX10_copyFrom_16 ⟨Nat.le_of_ble_eq_true rfl, Nat.le_of_ble_eq_true rfl⟩ (fun v2 Φ2 sz2 st2 hp2 hs2 => ?_)
  obtain ⟨rfl, hq2, fr2⟩ := hp2
  replace hq2 : sz2 = sz := hq2
  subst sz2
  replace hs2 : st2 = [.int (g2 (0 : Int32).toNatClampNeg)] := hs2
  subst st2
  refine z_top (st1 := [.int 0]) (by rw [show g2 ((0 : Int32).toNatClampNeg) = 0 from hg0]) ?_
  refine z_istore (lv' := [(4, .int 0), (3, .int 0), (0, .ref h), (1, .ref h2), (2, .int 255)]) B dX10_copyFrom_19 (Nat.le_of_ble_eq_true rfl) rfl ?_
  refine z_iload_n B dX10_copyFrom_21 rfl 4 rfl ?_
  refine z_iload B dX10_copyFrom_22 0 rfl ?_
  refine z_ishr B dX10_copyFrom_24 ?_
  refine z_top (st1 := [.int 255]) (congrArg (fun w9 : Int32 => ([.int w9] : List Value)) (show ((255 : Int32) >>> ((0 : Int32) &&& (31 : Int32)) : Int32) = 255 by decide +kernel)) ?_
  refine z_iconst (v := 1) B dX10_copyFrom_25 rfl ?_
  refine z_iand B dX10_copyFrom_26 ?_
  refine z_top (st1 := [.int 1]) (congrArg (fun w9 : Int32 => ([.int w9] : List Value)) (show (255 &&& 1 : Int32) = 1 by decide +kernel)) ?_
  refine z_iconst (v := 1) B dX10_copyFrom_27 rfl ?_
  refine z_icmp_ne (tgt := 37) B dX10_copyFrom_28 rfl (fun h9 => absurd (by decide) h9) (fun c_2 => ?_)
  refine z_aload_n B dX10_copyFrom_31 rfl 2 rfl ?_
  refine z_iload B dX10_copyFrom_32 0 rfl ?_
  have h_5 : Φ2 h = some (o_ 12 [.ref f, .int 0, .int 0, .int 0]) := ((fr2 h).trans h_2)
  have h_6 : Φ2 f = some (ai_ G 9 g) := ((fr2 f).trans ((fr1 f (Ne.symm hne_h_f)).trans hc1))
  refine z_callV (As := [.int 0]) (rest := []) B (c_X10_addField G l Φ2 sz h f 0 0 0 g 0 h_5 h_6 hne_h_f hna_h hna_f (by decide) (by decide) (by decide) (by decide) (vin rfl) (vin rfl)) (cwV 1 B.1.2.2.2.2 gX10_copyFrom_X10_addField rfl rfl rfl (by decide +kernel) ⟨Nat.le_of_ble_eq_true rfl, Nat.le_of_ble_eq_true rfl⟩) h_5 rfl rfl rfl rfl (Nat.le_of_ble_eq_true rfl) dX10_copyFrom_34 ⟨Nat.le_of_ble_eq_true rfl, Nat.le_of_ble_eq_true rfl⟩ (fun v3 Φ3 sz3 st3 hp3 hs3 => ?_)
  obtain ⟨rfl, hq3, fr3, h_7, h_8⟩ := hp3
  replace hq3 : sz3 = sz := hq3
  subst sz3
  replace hs3 : st3 = [] := hs3
  subst st3
  have h_9 : Φ3 f = some (ai_ G 9 (upd g (0 : Int32).toNatClampNeg 0)) := h_7
  have h_10 : Φ3 h = some (o_ 12 [.ref f, .int 1, .int 1, .int 1]) := h_8
  refine z_iinc (k := 1) (v := 1) (lv' := [(3, .int 1), (4, .int 0), (0, .ref h), (1, .ref h2), (2, .int 255)]) B dX10_copyFrom_37 rfl rfl (Nat.le_of_ble_eq_true rfl) rfl ?_
  refine z_goto (tgt := 6) B dX10_copyFrom_40 rfl ?_
  refine z_iload_n B dX10_copyFrom_6 rfl 0 rfl ?_
  refine z_aload_n B dX10_copyFrom_7 rfl 3 rfl ?_
  have h_11 : Φ3 h2 = some (o_ 12 [.ref f2, .int 9, .int b2, .int d2]) := ((fr3 h2 hne_h2_f (Ne.symm hne_h_h2)).trans ((fr2 h2).trans h_3))
  refine z_get (ref := "FlowExporter$Template") (C := RX10) (T := TX10) (N := 4) (ci := 12) (v := .int 9) B (by decide +kernel) rfl 1 (by decide) (by decide +kernel) rfl h_11 rfl dX10_copyFrom_8 ?_
  refine z_icmp_ge (tgt := 43) B dX10_copyFrom_11 rfl (fun h9 => absurd h9 (by decide)) (fun c_3 => ?_)
  refine z_aload_n B dX10_copyFrom_14 rfl 3 rfl ?_
  refine z_iload_n B dX10_copyFrom_15 rfl 0 rfl ?_
  have h_12 : Φ3 f2 = some (ai_ G 9 g2) := ((fr3 f2 (Ne.symm hne_f_f2) (Ne.symm hne_h_f2)).trans ((fr2 f2).trans h_4))
  refine z_callV (As := [.int 1]) (rest := []) B (c_X10_field G l Φ3 sz h2 f2 9 b2 d2 g2 1 h_11 h_12 (by decide) (by decide) (vin rfl)) (cwV 1 B.1.2.2.2.2 gX10_copyFrom_X10_field rfl rfl rfl (by decide +kernel) ⟨Nat.le_of_ble_eq_true rfl, Nat.le_of_ble_eq_true rfl⟩) h_11 rfl rfl rfl rfl (Nat.le_of_ble_eq_true rfl) dX10_copyFrom_16 ⟨Nat.le_of_ble_eq_true rfl, Nat.le_of_ble_eq_true rfl⟩ (fun v4 Φ4 sz4 st4 hp4 hs4 => ?_)
  obtain ⟨rfl, hq4, fr4⟩ := hp4
  replace hq4 : sz4 = sz := hq4
  subst sz4
  replace hs4 : st4 = [.int (g2 (1 : Int32).toNatClampNeg)] := hs4
  subst st4
  refine z_top (st1 := [.int 1]) (by rw [show g2 ((1 : Int32).toNatClampNeg) = 1 from hg1]) ?_
  refine z_istore (lv' := [(4, .int 1), (3, .int 1), (0, .ref h), (1, .ref h2), (2, .int 255)]) B dX10_copyFrom_19 (Nat.le_of_ble_eq_true rfl) rfl ?_
  refine z_iload_n B dX10_copyFrom_21 rfl 4 rfl ?_
  refine z_iload B dX10_copyFrom_22 0 rfl ?_
  refine z_ishr B dX10_copyFrom_24 ?_
  refine z_top (st1 := [.int 127]) (congrArg (fun w9 : Int32 => ([.int w9] : List Value)) (show ((255 : Int32) >>> ((1 : Int32) &&& (31 : Int32)) : Int32) = 127 by decide +kernel)) ?_
  refine z_iconst (v := 1) B dX10_copyFrom_25 rfl ?_
  refine z_iand B dX10_copyFrom_26 ?_
  refine z_top (st1 := [.int 1]) (congrArg (fun w9 : Int32 => ([.int w9] : List Value)) (show (127 &&& 1 : Int32) = 1 by decide +kernel)) ?_
  refine z_iconst (v := 1) B dX10_copyFrom_27 rfl ?_
  refine z_icmp_ne (tgt := 37) B dX10_copyFrom_28 rfl (fun h9 => absurd (by decide) h9) (fun c_4 => ?_)
  refine z_aload_n B dX10_copyFrom_31 rfl 2 rfl ?_
  refine z_iload B dX10_copyFrom_32 0 rfl ?_
  have h_13 : Φ4 h = some (o_ 12 [.ref f, .int 1, .int 1, .int 1]) := ((fr4 h).trans h_10)
  have h_14 : Φ4 f = some (ai_ G 9 (upd g (0 : Int32).toNatClampNeg 0)) := ((fr4 f).trans h_9)
  refine z_callV (As := [.int 1]) (rest := []) B (c_X10_addField G l Φ4 sz h f 1 1 1 (upd g (0 : Int32).toNatClampNeg 0) 1 h_13 h_14 hne_h_f hna_h hna_f (by decide) (by decide) (by decide) (by decide) (vin rfl) (vin rfl)) (cwV 1 B.1.2.2.2.2 gX10_copyFrom_X10_addField rfl rfl rfl (by decide +kernel) ⟨Nat.le_of_ble_eq_true rfl, Nat.le_of_ble_eq_true rfl⟩) h_13 rfl rfl rfl rfl (Nat.le_of_ble_eq_true rfl) dX10_copyFrom_34 ⟨Nat.le_of_ble_eq_true rfl, Nat.le_of_ble_eq_true rfl⟩ (fun v5 Φ5 sz5 st5 hp5 hs5 => ?_)
  obtain ⟨rfl, hq5, fr5, h_15, h_16⟩ := hp5
  replace hq5 : sz5 = sz := hq5
  subst sz5
  replace hs5 : st5 = [] := hs5
  subst st5
  have h_17 : Φ5 f = some (ai_ G 9 (upd (upd g (0 : Int32).toNatClampNeg 0) (1 : Int32).toNatClampNeg 1)) := h_15
  have h_18 : Φ5 h = some (o_ 12 [.ref f, .int 2, .int 3, .int 2]) := h_16
  refine z_iinc (k := 1) (v := 2) (lv' := [(3, .int 2), (4, .int 1), (0, .ref h), (1, .ref h2), (2, .int 255)]) B dX10_copyFrom_37 rfl rfl (Nat.le_of_ble_eq_true rfl) rfl ?_
  refine z_goto (tgt := 6) B dX10_copyFrom_40 rfl ?_
  refine z_iload_n B dX10_copyFrom_6 rfl 0 rfl ?_
  refine z_aload_n B dX10_copyFrom_7 rfl 3 rfl ?_
  have h_19 : Φ5 h2 = some (o_ 12 [.ref f2, .int 9, .int b2, .int d2]) := ((fr5 h2 hne_h2_f (Ne.symm hne_h_h2)).trans ((fr4 h2).trans h_11))
  refine z_get (ref := "FlowExporter$Template") (C := RX10) (T := TX10) (N := 4) (ci := 12) (v := .int 9) B (by decide +kernel) rfl 1 (by decide) (by decide +kernel) rfl h_19 rfl dX10_copyFrom_8 ?_
  refine z_icmp_ge (tgt := 43) B dX10_copyFrom_11 rfl (fun h9 => absurd h9 (by decide)) (fun c_5 => ?_)
  refine z_aload_n B dX10_copyFrom_14 rfl 3 rfl ?_
  refine z_iload_n B dX10_copyFrom_15 rfl 0 rfl ?_
  have h_20 : Φ5 f2 = some (ai_ G 9 g2) := ((fr5 f2 (Ne.symm hne_f_f2) (Ne.symm hne_h_f2)).trans ((fr4 f2).trans h_12))
  refine z_callV (As := [.int 2]) (rest := []) B (c_X10_field G l Φ5 sz h2 f2 9 b2 d2 g2 2 h_19 h_20 (by decide) (by decide) (vin rfl)) (cwV 1 B.1.2.2.2.2 gX10_copyFrom_X10_field rfl rfl rfl (by decide +kernel) ⟨Nat.le_of_ble_eq_true rfl, Nat.le_of_ble_eq_true rfl⟩) h_19 rfl rfl rfl rfl (Nat.le_of_ble_eq_true rfl) dX10_copyFrom_16 ⟨Nat.le_of_ble_eq_true rfl, Nat.le_of_ble_eq_true rfl⟩ (fun v6 Φ6 sz6 st6 hp6 hs6 => ?_)
  obtain ⟨rfl, hq6, fr6⟩ := hp6
  replace hq6 : sz6 = sz := hq6
  subst sz6
  replace hs6 : st6 = [.int (g2 (2 : Int32).toNatClampNeg)] := hs6
  subst st6
  refine z_top (st1 := [.int 2]) (by rw [show g2 ((2 : Int32).toNatClampNeg) = 2 from hg2]) ?_
  refine z_istore (lv' := [(4, .int 2), (3, .int 2), (0, .ref h), (1, .ref h2), (2, .int 255)]) B dX10_copyFrom_19 (Nat.le_of_ble_eq_true rfl) rfl ?_
  refine z_iload_n B dX10_copyFrom_21 rfl 4 rfl ?_
  refine z_iload B dX10_copyFrom_22 0 rfl ?_
  refine z_ishr B dX10_copyFrom_24 ?_
  refine z_top (st1 := [.int 63]) (congrArg (fun w9 : Int32 => ([.int w9] : List Value)) (show ((255 : Int32) >>> ((2 : Int32) &&& (31 : Int32)) : Int32) = 63 by decide +kernel)) ?_
  refine z_iconst (v := 1) B dX10_copyFrom_25 rfl ?_
  refine z_iand B dX10_copyFrom_26 ?_
  refine z_top (st1 := [.int 1]) (congrArg (fun w9 : Int32 => ([.int w9] : List Value)) (show (63 &&& 1 : Int32) = 1 by decide +kernel)) ?_
  refine z_iconst (v := 1) B dX10_copyFrom_27 rfl ?_
  refine z_icmp_ne (tgt := 37) B dX10_copyFrom_28 rfl (fun h9 => absurd (by decide) h9) (fun c_6 => ?_)
  refine z_aload_n B dX10_copyFrom_31 rfl 2 rfl ?_
  refine z_iload B dX10_copyFrom_32 0 rfl ?_
  have h_21 : Φ6 h = some (o_ 12 [.ref f, .int 2, .int 3, .int 2]) := ((fr6 h).trans h_18)
  have h_22 : Φ6 f = some (ai_ G 9 (upd (upd g (0 : Int32).toNatClampNeg 0) (1 : Int32).toNatClampNeg 1)) := ((fr6 f).trans h_17)
  refine z_callV (As := [.int 2]) (rest := []) B (c_X10_addField G l Φ6 sz h f 2 3 2 (upd (upd g (0 : Int32).toNatClampNeg 0) (1 : Int32).toNatClampNeg 1) 2 h_21 h_22 hne_h_f hna_h hna_f (by decide) (by decide) (by decide) (by decide) (vin rfl) (vin rfl)) (cwV 1 B.1.2.2.2.2 gX10_copyFrom_X10_addField rfl rfl rfl (by decide +kernel) ⟨Nat.le_of_ble_eq_true rfl, Nat.le_of_ble_eq_true rfl⟩) h_21 rfl rfl rfl rfl (Nat.le_of_ble_eq_true rfl) dX10_copyFrom_34 ⟨Nat.le_of_ble_eq_true rfl, Nat.le_of_ble_eq_true rfl⟩ (fun v7 Φ7 sz7 st7 hp7 hs7 => ?_)
  obtain ⟨rfl, hq7, fr7, h_23, h_24⟩ := hp7
  replace hq7 : sz7 = sz := hq7
  subst sz7
  replace hs7 : st7 = [] := hs7
  subst st7
  have h_25 : Φ7 f = some (ai_ G 9 (upd (upd (upd g (0 : Int32).toNatClampNeg 0) (1 : Int32).toNatClampNeg 1) (2 : Int32).toNatClampNeg 2)) := h_23
  have h_26 : Φ7 h = some (o_ 12 [.ref f, .int 3, .int 7, .int 4]) := h_24
  refine z_iinc (k := 1) (v := 3) (lv' := [(3, .int 3), (4, .int 2), (0, .ref h), (1, .ref h2), (2, .int 255)]) B dX10_copyFrom_37 rfl rfl (Nat.le_of_ble_eq_true rfl) rfl ?_
  refine z_goto (tgt := 6) B dX10_copyFrom_40 rfl ?_
  refine z_iload_n B dX10_copyFrom_6 rfl 0 rfl ?_
  refine z_aload_n B dX10_copyFrom_7 rfl 3 rfl ?_
  have h_27 : Φ7 h2 = some (o_ 12 [.ref f2, .int 9, .int b2, .int d2]) := ((fr7 h2 hne_h2_f (Ne.symm hne_h_h2)).trans ((fr6 h2).trans h_19))
  refine z_get (ref := "FlowExporter$Template") (C := RX10) (T := TX10) (N := 4) (ci := 12) (v := .int 9) B (by decide +kernel) rfl 1 (by decide) (by decide +kernel) rfl h_27 rfl dX10_copyFrom_8 ?_
  refine z_icmp_ge (tgt := 43) B dX10_copyFrom_11 rfl (fun h9 => absurd h9 (by decide)) (fun c_7 => ?_)
  refine z_aload_n B dX10_copyFrom_14 rfl 3 rfl ?_
  refine z_iload_n B dX10_copyFrom_15 rfl 0 rfl ?_
  have h_28 : Φ7 f2 = some (ai_ G 9 g2) := ((fr7 f2 (Ne.symm hne_f_f2) (Ne.symm hne_h_f2)).trans ((fr6 f2).trans h_20))
  refine z_callV (As := [.int 3]) (rest := []) B (c_X10_field G l Φ7 sz h2 f2 9 b2 d2 g2 3 h_27 h_28 (by decide) (by decide) (vin rfl)) (cwV 1 B.1.2.2.2.2 gX10_copyFrom_X10_field rfl rfl rfl (by decide +kernel) ⟨Nat.le_of_ble_eq_true rfl, Nat.le_of_ble_eq_true rfl⟩) h_27 rfl rfl rfl rfl (Nat.le_of_ble_eq_true rfl) dX10_copyFrom_16 ⟨Nat.le_of_ble_eq_true rfl, Nat.le_of_ble_eq_true rfl⟩ (fun v8 Φ8 sz8 st8 hp8 hs8 => ?_)
  obtain ⟨rfl, hq8, fr8⟩ := hp8
  replace hq8 : sz8 = sz := hq8
  subst sz8
  replace hs8 : st8 = [.int (g2 (3 : Int32).toNatClampNeg)] := hs8
  subst st8
  refine z_top (st1 := [.int 3]) (by rw [show g2 ((3 : Int32).toNatClampNeg) = 3 from hg3]) ?_
  refine z_istore (lv' := [(4, .int 3), (3, .int 3), (0, .ref h), (1, .ref h2), (2, .int 255)]) B dX10_copyFrom_19 (Nat.le_of_ble_eq_true rfl) rfl ?_
  refine z_iload_n B dX10_copyFrom_21 rfl 4 rfl ?_
  refine z_iload B dX10_copyFrom_22 0 rfl ?_
  refine z_ishr B dX10_copyFrom_24 ?_
  refine z_top (st1 := [.int 31]) (congrArg (fun w9 : Int32 => ([.int w9] : List Value)) (show ((255 : Int32) >>> ((3 : Int32) &&& (31 : Int32)) : Int32) = 31 by decide +kernel)) ?_
  refine z_iconst (v := 1) B dX10_copyFrom_25 rfl ?_
  refine z_iand B dX10_copyFrom_26 ?_
  refine z_top (st1 := [.int 1]) (congrArg (fun w9 : Int32 => ([.int w9] : List Value)) (show (31 &&& 1 : Int32) = 1 by decide +kernel)) ?_
  refine z_iconst (v := 1) B dX10_copyFrom_27 rfl ?_
  refine z_icmp_ne (tgt := 37) B dX10_copyFrom_28 rfl (fun h9 => absurd (by decide) h9) (fun c_8 => ?_)
  refine z_aload_n B dX10_copyFrom_31 rfl 2 rfl ?_
  refine z_iload B dX10_copyFrom_32 0 rfl ?_
  have h_29 : Φ8 h = some (o_ 12 [.ref f, .int 3, .int 7, .int 4]) := ((fr8 h).trans h_26)
  have h_30 : Φ8 f = some (ai_ G 9 (upd (upd (upd g (0 : Int32).toNatClampNeg 0) (1 : Int32).toNatClampNeg 1) (2 : Int32).toNatClampNeg 2)) := ((fr8 f).trans h_25)
  refine z_callV (As := [.int 3]) (rest := []) B (c_X10_addField G l Φ8 sz h f 3 7 4 (upd (upd (upd g (0 : Int32).toNatClampNeg 0) (1 : Int32).toNatClampNeg 1) (2 : Int32).toNatClampNeg 2) 3 h_29 h_30 hne_h_f hna_h hna_f (by decide) (by decide) (by decide) (by decide) (vin rfl) (vin rfl)) (cwV 1 B.1.2.2.2.2 gX10_copyFrom_X10_addField rfl rfl rfl (by decide +kernel) ⟨Nat.le_of_ble_eq_true rfl, Nat.le_of_ble_eq_true rfl⟩) h_29 rfl rfl rfl rfl (Nat.le_of_ble_eq_true rfl) dX10_copyFrom_34 ⟨Nat.le_of_ble_eq_true rfl, Nat.le_of_ble_eq_true rfl⟩ (fun v9 Φ9 sz9 st9 hp9 hs9 => ?_)
  obtain ⟨rfl, hq9, fr9, h_31, h_32⟩ := hp9
  replace hq9 : sz9 = sz := hq9
  subst sz9
  replace hs9 : st9 = [] := hs9
  subst st9
  have h_33 : Φ9 f = some (ai_ G 9 (upd (upd (upd (upd g (0 : Int32).toNatClampNeg 0) (1 : Int32).toNatClampNeg 1) (2 : Int32).toNatClampNeg 2) (3 : Int32).toNatClampNeg 3)) := h_31
  have h_34 : Φ9 h = some (o_ 12 [.ref f, .int 4, .int 15, .int 5]) := h_32
  refine z_iinc (k := 1) (v := 4) (lv' := [(3, .int 4), (4, .int 3), (0, .ref h), (1, .ref h2), (2, .int 255)]) B dX10_copyFrom_37 rfl rfl (Nat.le_of_ble_eq_true rfl) rfl ?_
  refine z_goto (tgt := 6) B dX10_copyFrom_40 rfl ?_
  refine z_iload_n B dX10_copyFrom_6 rfl 0 rfl ?_
  refine z_aload_n B dX10_copyFrom_7 rfl 3 rfl ?_
  have h_35 : Φ9 h2 = some (o_ 12 [.ref f2, .int 9, .int b2, .int d2]) := ((fr9 h2 hne_h2_f (Ne.symm hne_h_h2)).trans ((fr8 h2).trans h_27))
  refine z_get (ref := "FlowExporter$Template") (C := RX10) (T := TX10) (N := 4) (ci := 12) (v := .int 9) B (by decide +kernel) rfl 1 (by decide) (by decide +kernel) rfl h_35 rfl dX10_copyFrom_8 ?_
  refine z_icmp_ge (tgt := 43) B dX10_copyFrom_11 rfl (fun h9 => absurd h9 (by decide)) (fun c_9 => ?_)
  refine z_aload_n B dX10_copyFrom_14 rfl 3 rfl ?_
  refine z_iload_n B dX10_copyFrom_15 rfl 0 rfl ?_
  have h_36 : Φ9 f2 = some (ai_ G 9 g2) := ((fr9 f2 (Ne.symm hne_f_f2) (Ne.symm hne_h_f2)).trans ((fr8 f2).trans h_28))
  refine z_callV (As := [.int 4]) (rest := []) B (c_X10_field G l Φ9 sz h2 f2 9 b2 d2 g2 4 h_35 h_36 (by decide) (by decide) (vin rfl)) (cwV 1 B.1.2.2.2.2 gX10_copyFrom_X10_field rfl rfl rfl (by decide +kernel) ⟨Nat.le_of_ble_eq_true rfl, Nat.le_of_ble_eq_true rfl⟩) h_35 rfl rfl rfl rfl (Nat.le_of_ble_eq_true rfl) dX10_copyFrom_16 ⟨Nat.le_of_ble_eq_true rfl, Nat.le_of_ble_eq_true rfl⟩ (fun v10 Φ10 sz10 st10 hp10 hs10 => ?_)
  obtain ⟨rfl, hq10, fr10⟩ := hp10
  replace hq10 : sz10 = sz := hq10
  subst sz10
  replace hs10 : st10 = [.int (g2 (4 : Int32).toNatClampNeg)] := hs10
  subst st10
  refine z_top (st1 := [.int 4]) (by rw [show g2 ((4 : Int32).toNatClampNeg) = 4 from hg4]) ?_
  refine z_istore (lv' := [(4, .int 4), (3, .int 4), (0, .ref h), (1, .ref h2), (2, .int 255)]) B dX10_copyFrom_19 (Nat.le_of_ble_eq_true rfl) rfl ?_
  refine z_iload_n B dX10_copyFrom_21 rfl 4 rfl ?_
  refine z_iload B dX10_copyFrom_22 0 rfl ?_
  refine z_ishr B dX10_copyFrom_24 ?_
  refine z_top (st1 := [.int 15]) (congrArg (fun w9 : Int32 => ([.int w9] : List Value)) (show ((255 : Int32) >>> ((4 : Int32) &&& (31 : Int32)) : Int32) = 15 by decide +kernel)) ?_
  refine z_iconst (v := 1) B dX10_copyFrom_25 rfl ?_
  refine z_iand B dX10_copyFrom_26 ?_
  refine z_top (st1 := [.int 1]) (congrArg (fun w9 : Int32 => ([.int w9] : List Value)) (show (15 &&& 1 : Int32) = 1 by decide +kernel)) ?_
  refine z_iconst (v := 1) B dX10_copyFrom_27 rfl ?_
  refine z_icmp_ne (tgt := 37) B dX10_copyFrom_28 rfl (fun h9 => absurd (by decide) h9) (fun c_10 => ?_)
  refine z_aload_n B dX10_copyFrom_31 rfl 2 rfl ?_
  refine z_iload B dX10_copyFrom_32 0 rfl ?_
  have h_37 : Φ10 h = some (o_ 12 [.ref f, .int 4, .int 15, .int 5]) := ((fr10 h).trans h_34)
  have h_38 : Φ10 f = some (ai_ G 9 (upd (upd (upd (upd g (0 : Int32).toNatClampNeg 0) (1 : Int32).toNatClampNeg 1) (2 : Int32).toNatClampNeg 2) (3 : Int32).toNatClampNeg 3)) := ((fr10 f).trans h_33)
  refine z_callV (As := [.int 4]) (rest := []) B (c_X10_addField G l Φ10 sz h f 4 15 5 (upd (upd (upd (upd g (0 : Int32).toNatClampNeg 0) (1 : Int32).toNatClampNeg 1) (2 : Int32).toNatClampNeg 2) (3 : Int32).toNatClampNeg 3) 4 h_37 h_38 hne_h_f hna_h hna_f (by decide) (by decide) (by decide) (by decide) (vin rfl) (vin rfl)) (cwV 1 B.1.2.2.2.2 gX10_copyFrom_X10_addField rfl rfl rfl (by decide +kernel) ⟨Nat.le_of_ble_eq_true rfl, Nat.le_of_ble_eq_true rfl⟩) h_37 rfl rfl rfl rfl (Nat.le_of_ble_eq_true rfl) dX10_copyFrom_34 ⟨Nat.le_of_ble_eq_true rfl, Nat.le_of_ble_eq_true rfl⟩ (fun v11 Φ11 sz11 st11 hp11 hs11 => ?_)
  obtain ⟨rfl, hq11, fr11, h_39, h_40⟩ := hp11
  replace hq11 : sz11 = sz := hq11
  subst sz11
  replace hs11 : st11 = [] := hs11
  subst st11
  have h_41 : Φ11 f = some (ai_ G 9 (upd (upd (upd (upd (upd g (0 : Int32).toNatClampNeg 0) (1 : Int32).toNatClampNeg 1) (2 : Int32).toNatClampNeg 2) (3 : Int32).toNatClampNeg 3) (4 : Int32).toNatClampNeg 4)) := h_39
  have h_42 : Φ11 h = some (o_ 12 [.ref f, .int 5, .int 31, .int 9]) := h_40
  refine z_iinc (k := 1) (v := 5) (lv' := [(3, .int 5), (4, .int 4), (0, .ref h), (1, .ref h2), (2, .int 255)]) B dX10_copyFrom_37 rfl rfl (Nat.le_of_ble_eq_true rfl) rfl ?_
  refine z_goto (tgt := 6) B dX10_copyFrom_40 rfl ?_
  refine z_iload_n B dX10_copyFrom_6 rfl 0 rfl ?_
  refine z_aload_n B dX10_copyFrom_7 rfl 3 rfl ?_
  have h_43 : Φ11 h2 = some (o_ 12 [.ref f2, .int 9, .int b2, .int d2]) := ((fr11 h2 hne_h2_f (Ne.symm hne_h_h2)).trans ((fr10 h2).trans h_35))
  refine z_get (ref := "FlowExporter$Template") (C := RX10) (T := TX10) (N := 4) (ci := 12) (v := .int 9) B (by decide +kernel) rfl 1 (by decide) (by decide +kernel) rfl h_43 rfl dX10_copyFrom_8 ?_
  refine z_icmp_ge (tgt := 43) B dX10_copyFrom_11 rfl (fun h9 => absurd h9 (by decide)) (fun c_11 => ?_)
  refine z_aload_n B dX10_copyFrom_14 rfl 3 rfl ?_
  refine z_iload_n B dX10_copyFrom_15 rfl 0 rfl ?_
  have h_44 : Φ11 f2 = some (ai_ G 9 g2) := ((fr11 f2 (Ne.symm hne_f_f2) (Ne.symm hne_h_f2)).trans ((fr10 f2).trans h_36))
  refine z_callV (As := [.int 5]) (rest := []) B (c_X10_field G l Φ11 sz h2 f2 9 b2 d2 g2 5 h_43 h_44 (by decide) (by decide) (vin rfl)) (cwV 1 B.1.2.2.2.2 gX10_copyFrom_X10_field rfl rfl rfl (by decide +kernel) ⟨Nat.le_of_ble_eq_true rfl, Nat.le_of_ble_eq_true rfl⟩) h_43 rfl rfl rfl rfl (Nat.le_of_ble_eq_true rfl) dX10_copyFrom_16 ⟨Nat.le_of_ble_eq_true rfl, Nat.le_of_ble_eq_true rfl⟩ (fun v12 Φ12 sz12 st12 hp12 hs12 => ?_)
  obtain ⟨rfl, hq12, fr12⟩ := hp12
  replace hq12 : sz12 = sz := hq12
  subst sz12
  replace hs12 : st12 = [.int (g2 (5 : Int32).toNatClampNeg)] := hs12
  subst st12
  refine z_top (st1 := [.int 5]) (by rw [show g2 ((5 : Int32).toNatClampNeg) = 5 from hg5]) ?_
  refine z_istore (lv' := [(4, .int 5), (3, .int 5), (0, .ref h), (1, .ref h2), (2, .int 255)]) B dX10_copyFrom_19 (Nat.le_of_ble_eq_true rfl) rfl ?_
  refine z_iload_n B dX10_copyFrom_21 rfl 4 rfl ?_
  refine z_iload B dX10_copyFrom_22 0 rfl ?_
  refine z_ishr B dX10_copyFrom_24 ?_
  refine z_top (st1 := [.int 7]) (congrArg (fun w9 : Int32 => ([.int w9] : List Value)) (show ((255 : Int32) >>> ((5 : Int32) &&& (31 : Int32)) : Int32) = 7 by decide +kernel)) ?_
  refine z_iconst (v := 1) B dX10_copyFrom_25 rfl ?_
  refine z_iand B dX10_copyFrom_26 ?_
  refine z_top (st1 := [.int 1]) (congrArg (fun w9 : Int32 => ([.int w9] : List Value)) (show (7 &&& 1 : Int32) = 1 by decide +kernel)) ?_
  refine z_iconst (v := 1) B dX10_copyFrom_27 rfl ?_
  refine z_icmp_ne (tgt := 37) B dX10_copyFrom_28 rfl (fun h9 => absurd (by decide) h9) (fun c_12 => ?_)
  refine z_aload_n B dX10_copyFrom_31 rfl 2 rfl ?_
  refine z_iload B dX10_copyFrom_32 0 rfl ?_
  have h_45 : Φ12 h = some (o_ 12 [.ref f, .int 5, .int 31, .int 9]) := ((fr12 h).trans h_42)
  have h_46 : Φ12 f = some (ai_ G 9 (upd (upd (upd (upd (upd g (0 : Int32).toNatClampNeg 0) (1 : Int32).toNatClampNeg 1) (2 : Int32).toNatClampNeg 2) (3 : Int32).toNatClampNeg 3) (4 : Int32).toNatClampNeg 4)) := ((fr12 f).trans h_41)
  refine z_callV (As := [.int 5]) (rest := []) B (c_X10_addField G l Φ12 sz h f 5 31 9 (upd (upd (upd (upd (upd g (0 : Int32).toNatClampNeg 0) (1 : Int32).toNatClampNeg 1) (2 : Int32).toNatClampNeg 2) (3 : Int32).toNatClampNeg 3) (4 : Int32).toNatClampNeg 4) 5 h_45 h_46 hne_h_f hna_h hna_f (by decide) (by decide) (by decide) (by decide) (vin rfl) (vin rfl)) (cwV 1 B.1.2.2.2.2 gX10_copyFrom_X10_addField rfl rfl rfl (by decide +kernel) ⟨Nat.le_of_ble_eq_true rfl, Nat.le_of_ble_eq_true rfl⟩) h_45 rfl rfl rfl rfl (Nat.le_of_ble_eq_true rfl) dX10_copyFrom_34 ⟨Nat.le_of_ble_eq_true rfl, Nat.le_of_ble_eq_true rfl⟩ (fun v13 Φ13 sz13 st13 hp13 hs13 => ?_)
  obtain ⟨rfl, hq13, fr13, h_47, h_48⟩ := hp13
  replace hq13 : sz13 = sz := hq13
  subst sz13
  replace hs13 : st13 = [] := hs13
  subst st13
  have h_49 : Φ13 f = some (ai_ G 9 (upd (upd (upd (upd (upd (upd g (0 : Int32).toNatClampNeg 0) (1 : Int32).toNatClampNeg 1) (2 : Int32).toNatClampNeg 2) (3 : Int32).toNatClampNeg 3) (4 : Int32).toNatClampNeg 4) (5 : Int32).toNatClampNeg 5)) := h_47
  have h_50 : Φ13 h = some (o_ 12 [.ref f, .int 6, .int 63, .int 17]) := h_48
  refine z_iinc (k := 1) (v := 6) (lv' := [(3, .int 6), (4, .int 5), (0, .ref h), (1, .ref h2), (2, .int 255)]) B dX10_copyFrom_37 rfl rfl (Nat.le_of_ble_eq_true rfl) rfl ?_
  refine z_goto (tgt := 6) B dX10_copyFrom_40 rfl ?_
  refine z_iload_n B dX10_copyFrom_6 rfl 0 rfl ?_
  refine z_aload_n B dX10_copyFrom_7 rfl 3 rfl ?_
  have h_51 : Φ13 h2 = some (o_ 12 [.ref f2, .int 9, .int b2, .int d2]) := ((fr13 h2 hne_h2_f (Ne.symm hne_h_h2)).trans ((fr12 h2).trans h_43))
  refine z_get (ref := "FlowExporter$Template") (C := RX10) (T := TX10) (N := 4) (ci := 12) (v := .int 9) B (by decide +kernel) rfl 1 (by decide) (by decide +kernel) rfl h_51 rfl dX10_copyFrom_8 ?_
  refine z_icmp_ge (tgt := 43) B dX10_copyFrom_11 rfl (fun h9 => absurd h9 (by decide)) (fun c_13 => ?_)
  refine z_aload_n B dX10_copyFrom_14 rfl 3 rfl ?_
  refine z_iload_n B dX10_copyFrom_15 rfl 0 rfl ?_
  have h_52 : Φ13 f2 = some (ai_ G 9 g2) := ((fr13 f2 (Ne.symm hne_f_f2) (Ne.symm hne_h_f2)).trans ((fr12 f2).trans h_44))
  refine z_callV (As := [.int 6]) (rest := []) B (c_X10_field G l Φ13 sz h2 f2 9 b2 d2 g2 6 h_51 h_52 (by decide) (by decide) (vin rfl)) (cwV 1 B.1.2.2.2.2 gX10_copyFrom_X10_field rfl rfl rfl (by decide +kernel) ⟨Nat.le_of_ble_eq_true rfl, Nat.le_of_ble_eq_true rfl⟩) h_51 rfl rfl rfl rfl (Nat.le_of_ble_eq_true rfl) dX10_copyFrom_16 ⟨Nat.le_of_ble_eq_true rfl, Nat.le_of_ble_eq_true rfl⟩ (fun v14 Φ14 sz14 st14 hp14 hs14 => ?_)
  obtain ⟨rfl, hq14, fr14⟩ := hp14
  replace hq14 : sz14 = sz := hq14
  subst sz14
  replace hs14 : st14 = [.int (g2 (6 : Int32).toNatClampNeg)] := hs14
  subst st14
  refine z_top (st1 := [.int 6]) (by rw [show g2 ((6 : Int32).toNatClampNeg) = 6 from hg6]) ?_
  refine z_istore (lv' := [(4, .int 6), (3, .int 6), (0, .ref h), (1, .ref h2), (2, .int 255)]) B dX10_copyFrom_19 (Nat.le_of_ble_eq_true rfl) rfl ?_
  refine z_iload_n B dX10_copyFrom_21 rfl 4 rfl ?_
  refine z_iload B dX10_copyFrom_22 0 rfl ?_
  refine z_ishr B dX10_copyFrom_24 ?_
  refine z_top (st1 := [.int 3]) (congrArg (fun w9 : Int32 => ([.int w9] : List Value)) (show ((255 : Int32) >>> ((6 : Int32) &&& (31 : Int32)) : Int32) = 3 by decide +kernel)) ?_
  refine z_iconst (v := 1) B dX10_copyFrom_25 rfl ?_
  refine z_iand B dX10_copyFrom_26 ?_
  refine z_top (st1 := [.int 1]) (congrArg (fun w9 : Int32 => ([.int w9] : List Value)) (show (3 &&& 1 : Int32) = 1 by decide +kernel)) ?_
  refine z_iconst (v := 1) B dX10_copyFrom_27 rfl ?_
  refine z_icmp_ne (tgt := 37) B dX10_copyFrom_28 rfl (fun h9 => absurd (by decide) h9) (fun c_14 => ?_)
  refine z_aload_n B dX10_copyFrom_31 rfl 2 rfl ?_
  refine z_iload B dX10_copyFrom_32 0 rfl ?_
  have h_53 : Φ14 h = some (o_ 12 [.ref f, .int 6, .int 63, .int 17]) := ((fr14 h).trans h_50)
  have h_54 : Φ14 f = some (ai_ G 9 (upd (upd (upd (upd (upd (upd g (0 : Int32).toNatClampNeg 0) (1 : Int32).toNatClampNeg 1) (2 : Int32).toNatClampNeg 2) (3 : Int32).toNatClampNeg 3) (4 : Int32).toNatClampNeg 4) (5 : Int32).toNatClampNeg 5)) := ((fr14 f).trans h_49)
  refine z_callV (As := [.int 6]) (rest := []) B (c_X10_addField G l Φ14 sz h f 6 63 17 (upd (upd (upd (upd (upd (upd g (0 : Int32).toNatClampNeg 0) (1 : Int32).toNatClampNeg 1) (2 : Int32).toNatClampNeg 2) (3 : Int32).toNatClampNeg 3) (4 : Int32).toNatClampNeg 4) (5 : Int32).toNatClampNeg 5) 6 h_53 h_54 hne_h_f hna_h hna_f (by decide) (by decide) (by decide) (by decide) (vin rfl) (vin rfl)) (cwV 1 B.1.2.2.2.2 gX10_copyFrom_X10_addField rfl rfl rfl (by decide +kernel) ⟨Nat.le_of_ble_eq_true rfl, Nat.le_of_ble_eq_true rfl⟩) h_53 rfl rfl rfl rfl (Nat.le_of_ble_eq_true rfl) dX10_copyFrom_34 ⟨Nat.le_of_ble_eq_true rfl, Nat.le_of_ble_eq_true rfl⟩ (fun v15 Φ15 sz15 st15 hp15 hs15 => ?_)
  obtain ⟨rfl, hq15, fr15, h_55, h_56⟩ := hp15
  replace hq15 : sz15 = sz := hq15
  subst sz15
  replace hs15 : st15 = [] := hs15
  subst st15
  have h_57 : Φ15 f = some (ai_ G 9 (upd (upd (upd (upd (upd (upd (upd g (0 : Int32).toNatClampNeg 0) (1 : Int32).toNatClampNeg 1) (2 : Int32).toNatClampNeg 2) (3 : Int32).toNatClampNeg 3) (4 : Int32).toNatClampNeg 4) (5 : Int32).toNatClampNeg 5) (6 : Int32).toNatClampNeg 6)) := h_55
  have h_58 : Φ15 h = some (o_ 12 [.ref f, .int 7, .int 127, .int 21]) := h_56
  refine z_iinc (k := 1) (v := 7) (lv' := [(3, .int 7), (4, .int 6), (0, .ref h), (1, .ref h2), (2, .int 255)]) B dX10_copyFrom_37 rfl rfl (Nat.le_of_ble_eq_true rfl) rfl ?_
  refine z_goto (tgt := 6) B dX10_copyFrom_40 rfl ?_
  refine z_iload_n B dX10_copyFrom_6 rfl 0 rfl ?_
  refine z_aload_n B dX10_copyFrom_7 rfl 3 rfl ?_
  have h_59 : Φ15 h2 = some (o_ 12 [.ref f2, .int 9, .int b2, .int d2]) := ((fr15 h2 hne_h2_f (Ne.symm hne_h_h2)).trans ((fr14 h2).trans h_51))
  refine z_get (ref := "FlowExporter$Template") (C := RX10) (T := TX10) (N := 4) (ci := 12) (v := .int 9) B (by decide +kernel) rfl 1 (by decide) (by decide +kernel) rfl h_59 rfl dX10_copyFrom_8 ?_
  refine z_icmp_ge (tgt := 43) B dX10_copyFrom_11 rfl (fun h9 => absurd h9 (by decide)) (fun c_15 => ?_)
  refine z_aload_n B dX10_copyFrom_14 rfl 3 rfl ?_
  refine z_iload_n B dX10_copyFrom_15 rfl 0 rfl ?_
  have h_60 : Φ15 f2 = some (ai_ G 9 g2) := ((fr15 f2 (Ne.symm hne_f_f2) (Ne.symm hne_h_f2)).trans ((fr14 f2).trans h_52))
  refine z_callV (As := [.int 7]) (rest := []) B (c_X10_field G l Φ15 sz h2 f2 9 b2 d2 g2 7 h_59 h_60 (by decide) (by decide) (vin rfl)) (cwV 1 B.1.2.2.2.2 gX10_copyFrom_X10_field rfl rfl rfl (by decide +kernel) ⟨Nat.le_of_ble_eq_true rfl, Nat.le_of_ble_eq_true rfl⟩) h_59 rfl rfl rfl rfl (Nat.le_of_ble_eq_true rfl) dX10_copyFrom_16 ⟨Nat.le_of_ble_eq_true rfl, Nat.le_of_ble_eq_true rfl⟩ (fun v16 Φ16 sz16 st16 hp16 hs16 => ?_)
  obtain ⟨rfl, hq16, fr16⟩ := hp16
  replace hq16 : sz16 = sz := hq16
  subst sz16
  replace hs16 : st16 = [.int (g2 (7 : Int32).toNatClampNeg)] := hs16
  subst st16
  refine z_top (st1 := [.int 7]) (by rw [show g2 ((7 : Int32).toNatClampNeg) = 7 from hg7]) ?_
  refine z_istore (lv' := [(4, .int 7), (3, .int 7), (0, .ref h), (1, .ref h2), (2, .int 255)]) B dX10_copyFrom_19 (Nat.le_of_ble_eq_true rfl) rfl ?_
  refine z_iload_n B dX10_copyFrom_21 rfl 4 rfl ?_
  refine z_iload B dX10_copyFrom_22 0 rfl ?_
  refine z_ishr B dX10_copyFrom_24 ?_
  refine z_top (st1 := [.int 1]) (congrArg (fun w9 : Int32 => ([.int w9] : List Value)) (show ((255 : Int32) >>> ((7 : Int32) &&& (31 : Int32)) : Int32) = 1 by decide +kernel)) ?_
  refine z_iconst (v := 1) B dX10_copyFrom_25 rfl ?_
  refine z_iand B dX10_copyFrom_26 ?_
  refine z_top (st1 := [.int 1]) (congrArg (fun w9 : Int32 => ([.int w9] : List Value)) (show (1 &&& 1 : Int32) = 1 by decide +kernel)) ?_
  refine z_iconst (v := 1) B dX10_copyFrom_27 rfl ?_
  refine z_icmp_ne (tgt := 37) B dX10_copyFrom_28 rfl (fun h9 => absurd (by decide) h9) (fun c_16 => ?_)
  refine z_aload_n B dX10_copyFrom_31 rfl 2 rfl ?_
  refine z_iload B dX10_copyFrom_32 0 rfl ?_
  have h_61 : Φ16 h = some (o_ 12 [.ref f, .int 7, .int 127, .int 21]) := ((fr16 h).trans h_58)
  have h_62 : Φ16 f = some (ai_ G 9 (upd (upd (upd (upd (upd (upd (upd g (0 : Int32).toNatClampNeg 0) (1 : Int32).toNatClampNeg 1) (2 : Int32).toNatClampNeg 2) (3 : Int32).toNatClampNeg 3) (4 : Int32).toNatClampNeg 4) (5 : Int32).toNatClampNeg 5) (6 : Int32).toNatClampNeg 6)) := ((fr16 f).trans h_57)
  refine z_callV (As := [.int 7]) (rest := []) B (c_X10_addField G l Φ16 sz h f 7 127 21 (upd (upd (upd (upd (upd (upd (upd g (0 : Int32).toNatClampNeg 0) (1 : Int32).toNatClampNeg 1) (2 : Int32).toNatClampNeg 2) (3 : Int32).toNatClampNeg 3) (4 : Int32).toNatClampNeg 4) (5 : Int32).toNatClampNeg 5) (6 : Int32).toNatClampNeg 6) 7 h_61 h_62 hne_h_f hna_h hna_f (by decide) (by decide) (by decide) (by decide) (vin rfl) (vin rfl)) (cwV 1 B.1.2.2.2.2 gX10_copyFrom_X10_addField rfl rfl rfl (by decide +kernel) ⟨Nat.le_of_ble_eq_true rfl, Nat.le_of_ble_eq_true rfl⟩) h_61 rfl rfl rfl rfl (Nat.le_of_ble_eq_true rfl) dX10_copyFrom_34 ⟨Nat.le_of_ble_eq_true rfl, Nat.le_of_ble_eq_true rfl⟩ (fun v17 Φ17 sz17 st17 hp17 hs17 => ?_)
  obtain ⟨rfl, hq17, fr17, h_63, h_64⟩ := hp17
  replace hq17 : sz17 = sz := hq17
  subst sz17
  replace hs17 : st17 = [] := hs17
  subst st17
  have h_65 : Φ17 f = some (ai_ G 9 (upd (upd (upd (upd (upd (upd (upd (upd g (0 : Int32).toNatClampNeg 0) (1 : Int32).toNatClampNeg 1) (2 : Int32).toNatClampNeg 2) (3 : Int32).toNatClampNeg 3) (4 : Int32).toNatClampNeg 4) (5 : Int32).toNatClampNeg 5) (6 : Int32).toNatClampNeg 6) (7 : Int32).toNatClampNeg 7)) := h_63
  have h_66 : Φ17 h = some (o_ 12 [.ref f, .int 8, .int 255, .int 25]) := h_64
  refine z_iinc (k := 1) (v := 8) (lv' := [(3, .int 8), (4, .int 7), (0, .ref h), (1, .ref h2), (2, .int 255)]) B dX10_copyFrom_37 rfl rfl (Nat.le_of_ble_eq_true rfl) rfl ?_
  refine z_goto (tgt := 6) B dX10_copyFrom_40 rfl ?_
  refine z_iload_n B dX10_copyFrom_6 rfl 0 rfl ?_
  refine z_aload_n B dX10_copyFrom_7 rfl 3 rfl ?_
  have h_67 : Φ17 h2 = some (o_ 12 [.ref f2, .int 9, .int b2, .int d2]) := ((fr17 h2 hne_h2_f (Ne.symm hne_h_h2)).trans ((fr16 h2).trans h_59))
  refine z_get (ref := "FlowExporter$Template") (C := RX10) (T := TX10) (N := 4) (ci := 12) (v := .int 9) B (by decide +kernel) rfl 1 (by decide) (by decide +kernel) rfl h_67 rfl dX10_copyFrom_8 ?_
  refine z_icmp_ge (tgt := 43) B dX10_copyFrom_11 rfl (fun h9 => absurd h9 (by decide)) (fun c_17 => ?_)
  refine z_aload_n B dX10_copyFrom_14 rfl 3 rfl ?_
  refine z_iload_n B dX10_copyFrom_15 rfl 0 rfl ?_
  have h_68 : Φ17 f2 = some (ai_ G 9 g2) := ((fr17 f2 (Ne.symm hne_f_f2) (Ne.symm hne_h_f2)).trans ((fr16 f2).trans h_60))
  refine z_callV (As := [.int 8]) (rest := []) B (c_X10_field G l Φ17 sz h2 f2 9 b2 d2 g2 8 h_67 h_68 (by decide) (by decide) (vin rfl)) (cwV 1 B.1.2.2.2.2 gX10_copyFrom_X10_field rfl rfl rfl (by decide +kernel) ⟨Nat.le_of_ble_eq_true rfl, Nat.le_of_ble_eq_true rfl⟩) h_67 rfl rfl rfl rfl (Nat.le_of_ble_eq_true rfl) dX10_copyFrom_16 ⟨Nat.le_of_ble_eq_true rfl, Nat.le_of_ble_eq_true rfl⟩ (fun v18 Φ18 sz18 st18 hp18 hs18 => ?_)
  obtain ⟨rfl, hq18, fr18⟩ := hp18
  replace hq18 : sz18 = sz := hq18
  subst sz18
  replace hs18 : st18 = [.int (g2 (8 : Int32).toNatClampNeg)] := hs18
  subst st18
  refine z_top (st1 := [.int 8]) (by rw [show g2 ((8 : Int32).toNatClampNeg) = 8 from hg8]) ?_
  refine z_istore (lv' := [(4, .int 8), (3, .int 8), (0, .ref h), (1, .ref h2), (2, .int 255)]) B dX10_copyFrom_19 (Nat.le_of_ble_eq_true rfl) rfl ?_
  refine z_iload_n B dX10_copyFrom_21 rfl 4 rfl ?_
  refine z_iload B dX10_copyFrom_22 0 rfl ?_
  refine z_ishr B dX10_copyFrom_24 ?_
  refine z_top (st1 := [.int 0]) (congrArg (fun w9 : Int32 => ([.int w9] : List Value)) (show ((255 : Int32) >>> ((8 : Int32) &&& (31 : Int32)) : Int32) = 0 by decide +kernel)) ?_
  refine z_iconst (v := 1) B dX10_copyFrom_25 rfl ?_
  refine z_iand B dX10_copyFrom_26 ?_
  refine z_top (st1 := [.int 0]) (congrArg (fun w9 : Int32 => ([.int w9] : List Value)) (show (0 &&& 1 : Int32) = 0 by decide +kernel)) ?_
  refine z_iconst (v := 1) B dX10_copyFrom_27 rfl ?_
  refine z_icmp_ne (tgt := 37) B dX10_copyFrom_28 rfl (fun c_18 => ?_) (fun h9 => absurd h9 (by decide))
  refine z_iinc (k := 1) (v := 9) (lv' := [(3, .int 9), (4, .int 8), (0, .ref h), (1, .ref h2), (2, .int 255)]) B dX10_copyFrom_37 rfl rfl (Nat.le_of_ble_eq_true rfl) rfl ?_
  refine z_goto (tgt := 6) B dX10_copyFrom_40 rfl ?_
  refine z_iload_n B dX10_copyFrom_6 rfl 0 rfl ?_
  refine z_aload_n B dX10_copyFrom_7 rfl 3 rfl ?_
  have h_69 : Φ18 h2 = some (o_ 12 [.ref f2, .int 9, .int b2, .int d2]) := ((fr18 h2).trans h_67)
  refine z_get (ref := "FlowExporter$Template") (C := RX10) (T := TX10) (N := 4) (ci := 12) (v := .int 9) B (by decide +kernel) rfl 1 (by decide) (by decide +kernel) rfl h_69 rfl dX10_copyFrom_8 ?_
  refine z_icmp_ge (tgt := 43) B dX10_copyFrom_11 rfl (fun c_19 => ?_) (fun h9 => absurd (by decide) h9)
  have h_70 : Φ18 f = some (ai_ G 9 (upd (upd (upd (upd (upd (upd (upd (upd g (0 : Int32).toNatClampNeg 0) (1 : Int32).toNatClampNeg 1) (2 : Int32).toNatClampNeg 2) (3 : Int32).toNatClampNeg 3) (4 : Int32).toNatClampNeg 4) (5 : Int32).toNatClampNeg 5) (6 : Int32).toNatClampNeg 6) (7 : Int32).toNatClampNeg 7)) := ((fr18 f).trans h_65)
  have h_71 : Φ18 h = some (o_ 12 [.ref f, .int 8, .int 255, .int 25]) := ((fr18 h).trans h_66)
  exact z_ret_v B dX10_copyFrom_43 ⟨rfl, rfl, (fun b9 h9a h9b => ((fr18 b9).trans ((fr17 b9 h9a h9b).trans ((fr16 b9).trans ((fr15 b9 h9a h9b).trans ((fr14 b9).trans ((fr13 b9 h9a h9b).trans ((fr12 b9).trans ((fr11 b9 h9a h9b).trans ((fr10 b9).trans ((fr9 b9 h9a h9b).trans ((fr8 b9).trans ((fr7 b9 h9a h9b).trans ((fr6 b9).trans ((fr5 b9 h9a h9b).trans ((fr4 b9).trans ((fr3 b9 h9a h9b).trans ((fr2 b9).trans ((fr1 b9 h9b).trans rfl))))))))))))))))))), h_70, h_71⟩

set_option maxHeartbeats 4000000 in
set_option maxRecDepth 100000 in
theorem c_X10_copyFrom_z8 (G : EnvG) (l : Launch) (Φ : Hm) (sz : Nat) (h : Nat) (f : Nat) (a : Int32) (b : Int32) (d : Int32) (h2 : Nat) (f2 : Nat) (b2 : Int32) (d2 : Int32) (hc0 : Φ h = some (o_ 12 [.ref f, .int a, .int b, .int d])) (hc1 : Φ h2 = some (o_ 12 [.ref f2, .int 0, .int b2, .int d2])) (hne_h_h2 : h ≠ h2) (hna_h : G.2.2.2 ≤ h) : Ct G l yX10_copyFrom wsX10_copyFrom ({ frames := 1, cells := 0, slots := 0, locals := 20 }) 0 0 [.ref h, .ref h2, .int 255] Φ sz (fun v Φ1 sz1 => v = none ∧ sz1 = sz ∧ (∀ b9 : Nat, b9 ≠ h → Φ1 b9 = Φ b9) ∧ Φ1 h = some (o_ 12 [.ref f, .int 0, .int 0, .int 0])) := by
  refine Ct.of (cc := cX10_copyFrom) (maxL := 5) (ret := none) (by decide) rfl (Nat.le_of_ble_eq_true rfl) ?_
  intro p9 e9 s9 m9 w9 t9 k9 B
  show Z p9 l e9 _ s9 m9 _ w9 t9 k9 _ G 5 0 [(0, .ref h), (1, .ref h2), (2, .int 255)] [] Φ (sz) 0 0
  refine z_aload_n B dX10_copyFrom_0 rfl 0 rfl ?_
  refine z_callV (As := []) (rest := []) B (c_X10_clear G l Φ sz h f a b d hc0 hna_h) (cwV 0 B.1.2.2.2.2 gX10_copyFrom_X10_clear rfl rfl rfl (by decide +kernel) ⟨Nat.le_of_ble_eq_true rfl, Nat.le_of_ble_eq_true rfl⟩) hc0 rfl rfl rfl rfl (Nat.le_of_ble_eq_true rfl) dX10_copyFrom_1 ⟨Nat.le_of_ble_eq_true rfl, Nat.le_of_ble_eq_true rfl⟩ (fun v1 Φ1 sz1 st1 hp1 hs1 => ?_)
  obtain ⟨rfl, hq1, fr1, h_1⟩ := hp1
  replace hq1 : sz1 = sz := hq1
  subst sz1
  replace hs1 : st1 = [] := hs1
  subst st1
  have h_2 : Φ1 h = some (o_ 12 [.ref f, .int 0, .int 0, .int 0]) := h_1
  refine z_iconst (v := 0) B dX10_copyFrom_4 rfl ?_
  refine z_istore_n (lv' := [(3, .int 0), (0, .ref h), (1, .ref h2), (2, .int 255)]) B dX10_copyFrom_5 rfl (Nat.le_of_ble_eq_true rfl) rfl ?_
  refine z_iload_n B dX10_copyFrom_6 rfl 0 rfl ?_
  refine z_aload_n B dX10_copyFrom_7 rfl 2 rfl ?_
  have h_3 : Φ1 h2 = some (o_ 12 [.ref f2, .int 0, .int b2, .int d2]) := ((fr1 h2 (Ne.symm hne_h_h2)).trans hc1)
  refine z_get (ref := "FlowExporter$Template") (C := RX10) (T := TX10) (N := 4) (ci := 12) (v := .int 0) B (by decide +kernel) rfl 1 (by decide) (by decide +kernel) rfl h_3 rfl dX10_copyFrom_8 ?_
  refine z_icmp_ge (tgt := 43) B dX10_copyFrom_11 rfl (fun c_1 => ?_) (fun h9 => absurd (by decide) h9)
  exact z_ret_v B dX10_copyFrom_43 ⟨rfl, rfl, (fun b9 h9a => ((fr1 b9 h9a).trans rfl)), h_2⟩

set_option maxHeartbeats 4000000 in
set_option maxRecDepth 100000 in
theorem f_X1_support_s8 (G : EnvG) (l : Launch) (Φ : Hm) (sz : Nat) (x : Nat) (hc3_ : Φ (x + 3) = some (o_ 3 [.ref (x + 4), .ref (x + 5), .ref (x + 6), .ref (x + 7), .int 1, .int 511])) (hc6_ : Φ (x + 6) = some (aq_ G 4 4 (va_up (va_up (va_up (va_up (fun _ => none) (0 : Int32).toNatClampNeg (some (x + 8))) (1 : Int32).toNatClampNeg (some (x + 12))) (2 : Int32).toNatClampNeg (some (x + 16))) (3 : Int32).toNatClampNeg (some (x + 20))))) (hc7_ : Φ (x + 7) = some (aq_ G 4 4 (va_up (va_up (va_up (va_up (fun _ => none) (0 : Int32).toNatClampNeg (some (x + 10))) (1 : Int32).toNatClampNeg (some (x + 14))) (2 : Int32).toNatClampNeg (some (x + 18))) (3 : Int32).toNatClampNeg (some (x + 22))))) (hc8_ : Φ (x + 8) = some (o_ 12 [.ref (x + 9), .int 9, .int 511, .int 29])) (hc9_ : Φ (x + 9) = some (ai_ G 9 (upd (upd (upd (upd (upd (upd (upd (upd (upd (fun _ => 0) (0 : Int32).toNatClampNeg 0) (1 : Int32).toNatClampNeg 1) (2 : Int32).toNatClampNeg 2) (3 : Int32).toNatClampNeg 3) (4 : Int32).toNatClampNeg 4) (5 : Int32).toNatClampNeg 5) (6 : Int32).toNatClampNeg 6) (7 : Int32).toNatClampNeg 7) (8 : Int32).toNatClampNeg 8))) (hc10_ : Φ (x + 10) = some (o_ 12 [.ref (x + 11), .int 9, .int 511, .int 29])) (hc11_ : Φ (x + 11) = some (ai_ G 9 (upd (upd (upd (upd (upd (upd (upd (upd (upd (fun _ => 0) (0 : Int32).toNatClampNeg 0) (1 : Int32).toNatClampNeg 1) (2 : Int32).toNatClampNeg 2) (3 : Int32).toNatClampNeg 3) (4 : Int32).toNatClampNeg 4) (5 : Int32).toNatClampNeg 5) (6 : Int32).toNatClampNeg 6) (7 : Int32).toNatClampNeg 7) (8 : Int32).toNatClampNeg 8))) (hc12_ : Φ (x + 12) = some (o_ 12 [.ref (x + 13), .int 0, .int 0, .int 0])) (hc14_ : Φ (x + 14) = some (o_ 12 [.ref (x + 15), .int 0, .int 0, .int 0])) (hc16_ : Φ (x + 16) = some (o_ 12 [.ref (x + 17), .int 0, .int 0, .int 0])) (hc18_ : Φ (x + 18) = some (o_ 12 [.ref (x + 19), .int 0, .int 0, .int 0])) (hc20_ : Φ (x + 20) = some (o_ 12 [.ref (x + 21), .int 0, .int 0, .int 0])) (hc22_ : Φ (x + 22) = some (o_ 12 [.ref (x + 23), .int 0, .int 0, .int 0])) (hna : G.2.2.2 ≤ x) : Ct G l yX1_support wsX1_support ({ frames := 2, cells := 0, slots := 0, locals := 45 }) 0 0 [.ref (x + 3), .int 255] Φ sz (fun v Φ1 sz1 => v = none ∧ sz1 = sz ∧ (∀ b9 : Nat, b9 ≠ x + 10 → b9 ≠ x + 11 → b9 ≠ x + 14 → b9 ≠ x + 18 → b9 ≠ x + 22 → b9 ≠ x + 3 → Φ1 b9 = Φ b9) ∧ Φ1 (x + 10) = some (o_ 12 [.ref (x + 11), .int 8, .int 255, .int 25]) ∧ Φ1 (x + 11) = some (ai_ G 9 (upd (upd (upd (upd (upd (upd (upd (upd (upd (upd (upd (upd (upd (upd (upd (upd (upd (fun _ => 0) (0 : Int32).toNatClampNeg 0) (1 : Int32).toNatClampNeg 1) (2 : Int32).toNatClampNeg 2) (3 : Int32).toNatClampNeg 3) (4 : Int32).toNatClampNeg 4) (5 : Int32).toNatClampNeg 5) (6 : Int32).toNatClampNeg 6) (7 : Int32).toNatClampNeg 7) (8 : Int32).toNatClampNeg 8) (0 : Int32).toNatClampNeg 0) (1 : Int32).toNatClampNeg 1) (2 : Int32).toNatClampNeg 2) (3 : Int32).toNatClampNeg 3) (4 : Int32).toNatClampNeg 4) (5 : Int32).toNatClampNeg 5) (6 : Int32).toNatClampNeg 6) (7 : Int32).toNatClampNeg 7)) ∧ Φ1 (x + 14) = some (o_ 12 [.ref (x + 15), .int 0, .int 0, .int 0]) ∧ Φ1 (x + 18) = some (o_ 12 [.ref (x + 19), .int 0, .int 0, .int 0]) ∧ Φ1 (x + 22) = some (o_ 12 [.ref (x + 23), .int 0, .int 0, .int 0]) ∧ Φ1 (x + 3) = some (o_ 3 [.ref (x + 4), .ref (x + 5), .ref (x + 6), .ref (x + 7), .int 1, .int 255])) := by
  refine Ct.of (cc := cX1_support) (maxL := 3) (ret := none) (by decide) rfl (Nat.le_of_ble_eq_true rfl) ?_
  intro p9 e9 s9 m9 w9 t9 k9 B
  show Z p9 l e9 _ s9 m9 _ w9 t9 k9 _ G 3 0 [(0, .ref (x + 3)), (1, .int 255)] [] Φ sz 0 0
  refine z_aload_n B dX1_support_0 rfl 0 rfl ?_
  refine z_iload_n B dX1_support_1 rfl 1 rfl ?_
  refine z_put (ref := "FlowExporter$Config") (C := RX1) (T := TX1) (N := 6) (ci := 3) (v := .int 255) B (by decide +kernel) tyX1 tyX1_ok nmX1 rfl 5 (by decide) (by decide +kernel) rfl (Or.inl rfl) hc3_ (Nat.le_trans hna (Nat.le_add_right x 3)) rfl rfl (Nat.le_of_ble_eq_true rfl) dX1_support_2 (fun Φ1 hΦ1 => ?_)
  have h_1 : Φ1 (x + 3) = some (o_ 3 [.ref (x + 4), .ref (x + 5), .ref (x + 6), .ref (x + 7), .int 1, .int 255]) := fset_at hΦ1
  refine z_iconst (v := 0) B dX1_support_5 rfl ?_
  refine z_istore_n (lv' := [(2, .int 0), (0, .ref (x + 3)), (1, .int 255)]) B dX1_support_6 rfl (Nat.le_of_ble_eq_true rfl) rfl ?_
  refine z_iload_n B dX1_support_7 rfl 0 rfl ?_
  refine z_iconst (v := 4) B dX1_support_8 rfl ?_
  refine z_icmp_ge (tgt := 34) B dX1_support_9 rfl (fun h9 => absurd h9 (by decide)) (fun c_1 => ?_)
  refine z_aload_n B dX1_support_12 rfl 1 rfl ?_
  refine z_get (ref := "FlowExporter$Config") (C := RX1) (T := TX1) (N := 6) (ci := 3) (v := .ref (x + 7)) B (by decide +kernel) rfl 3 (by decide) (by decide +kernel) rfl h_1 rfl dX1_support_13 ?_
  refine z_iload_n B dX1_support_16 rfl 0 rfl ?_
  have h_2 : Φ1 (x + 7) = some (aq_ G 4 4 (va_up (va_up (va_up (va_up (fun _ => none) (0 : Int32).toNatClampNeg (some (x + 10))) (1 : Int32).toNatClampNeg (some (x + 14))) (2 : Int32).toNatClampNeg (some (x + 18))) (3 : Int32).toNatClampNeg (some (x + 22)))) := ((fset_fr hΦ1 (ne_off (x := x) (i := 7) (j := 3) rfl)).trans hc7_)
  refine z_aald (b := x + 10) B rfl h_2 (vin rfl) rfl dX1_support_17 ?_
  refine z_aload_n B dX1_support_18 rfl 1 rfl ?_
  refine z_get (ref := "FlowExporter$Config") (C := RX1) (T := TX1) (N := 6) (ci := 3) (v := .ref (x + 6)) B (by decide +kernel) rfl 2 (by decide) (by decide +kernel) rfl h_1 rfl dX1_support_19 ?_
  refine z_iload_n B dX1_support_22 rfl 0 rfl ?_
  have h_3 : Φ1 (x + 6) = some (aq_ G 4 4 (va_up (va_up (va_up (va_up (fun _ => none) (0 : Int32).toNatClampNeg (some (x + 8))) (1 : Int32).toNatClampNeg (some (x + 12))) (2 : Int32).toNatClampNeg (some (x + 16))) (3 : Int32).toNatClampNeg (some (x + 20)))) := ((fset_fr hΦ1 (ne_off (x := x) (i := 6) (j := 3) rfl)).trans hc6_)
  refine z_aald (b := x + 8) B rfl h_3 (vin rfl) rfl dX1_support_23 ?_
  refine z_iload_n B dX1_support_24 rfl 2 rfl ?_
  have h_4 : Φ1 (x + 10) = some (o_ 12 [.ref (x + 11), .int 9, .int 511, .int 29]) := ((fset_fr hΦ1 (ne_off (x := x) (i := 10) (j := 3) rfl)).trans hc10_)
  have h_5 : Φ1 (x + 11) = some (ai_ G 9 (upd (upd (upd (upd (upd (upd (upd (upd (upd (fun _ => 0) (0 : Int32).toNatClampNeg 0) (1 : Int32).toNatClampNeg 1) (2 : Int32).toNatClampNeg 2) (3 : Int32).toNatClampNeg 3) (4 : Int32).toNatClampNeg 4) (5 : Int32).toNatClampNeg 5) (6 : Int32).toNatClampNeg 6) (7 : Int32).toNatClampNeg 7) (8 : Int32).toNatClampNeg 8)) := ((fset_fr hΦ1 (ne_off (x := x) (i := 11) (j := 3) rfl)).trans hc11_)
  have h_6 : Φ1 (x + 8) = some (o_ 12 [.ref (x + 9), .int 9, .int 511, .int 29]) := ((fset_fr hΦ1 (ne_off (x := x) (i := 8) (j := 3) rfl)).trans hc8_)
  have h_7 : Φ1 (x + 9) = some (ai_ G 9 (upd (upd (upd (upd (upd (upd (upd (upd (upd (fun _ => 0) (0 : Int32).toNatClampNeg 0) (1 : Int32).toNatClampNeg 1) (2 : Int32).toNatClampNeg 2) (3 : Int32).toNatClampNeg 3) (4 : Int32).toNatClampNeg 4) (5 : Int32).toNatClampNeg 5) (6 : Int32).toNatClampNeg 6) (7 : Int32).toNatClampNeg 7) (8 : Int32).toNatClampNeg 8)) := ((fset_fr hΦ1 (ne_off (x := x) (i := 9) (j := 3) rfl)).trans hc9_)
  refine z_callV (As := [.ref (x + 8), .int 255]) (rest := []) B (c_X10_copyFrom_s8 G l Φ1 sz (x + 10) (x + 11) 9 511 29 (upd (upd (upd (upd (upd (upd (upd (upd (upd (fun _ => 0) (0 : Int32).toNatClampNeg 0) (1 : Int32).toNatClampNeg 1) (2 : Int32).toNatClampNeg 2) (3 : Int32).toNatClampNeg 3) (4 : Int32).toNatClampNeg 4) (5 : Int32).toNatClampNeg 5) (6 : Int32).toNatClampNeg 6) (7 : Int32).toNatClampNeg 7) (8 : Int32).toNatClampNeg 8) (x + 8) (x + 9) 511 29 (upd (upd (upd (upd (upd (upd (upd (upd (upd (fun _ => 0) (0 : Int32).toNatClampNeg 0) (1 : Int32).toNatClampNeg 1) (2 : Int32).toNatClampNeg 2) (3 : Int32).toNatClampNeg 3) (4 : Int32).toNatClampNeg 4) (5 : Int32).toNatClampNeg 5) (6 : Int32).toNatClampNeg 6) (7 : Int32).toNatClampNeg 7) (8 : Int32).toNatClampNeg 8) h_4 h_5 h_6 h_7 (ne_off (x := x) (i := 10) (j := 8) rfl) (ne_off (x := x) (i := 11) (j := 9) rfl) (ne_off (x := x) (i := 10) (j := 11) rfl) (ne_off (x := x) (i := 8) (j := 11) rfl) (ne_off (x := x) (i := 10) (j := 9) rfl) (ne_off (x := x) (i := 8) (j := 9) rfl) (Nat.le_trans hna (Nat.le_add_right x 10)) (Nat.le_trans hna (Nat.le_add_right x 11)) rfl rfl rfl rfl rfl rfl rfl rfl rfl) (cwV 2 B.1.2.2.2.2 gX1_support_X10_copyFrom rfl rfl rfl (by decide +kernel) ⟨Nat.le_of_ble_eq_true rfl, Nat.le_of_ble_eq_true rfl⟩) h_4 rfl rfl rfl rfl (Nat.le_of_ble_eq_true rfl) dX1_support_25 ⟨Nat.le_of_ble_eq_true rfl, Nat.le_of_ble_eq_true rfl⟩ (fun v1 Φ2 sz1 st1 hp1 hs1 => ?_)
  obtain ⟨rfl, hq1, fr1, h_8, h_9⟩ := hp1
  replace hq1 : sz1 = sz := hq1
  subst sz1
  replace hs1 : st1 = [] := hs1
  subst st1
  have h_10 : Φ2 (x + 11) = some (ai_ G 9 (upd (upd (upd (upd (upd (upd (upd (upd (upd (upd (upd (upd (upd (upd (upd (upd (upd (fun _ => 0) (0 : Int32).toNatClampNeg 0) (1 : Int32).toNatClampNeg 1) (2 : Int32).toNatClampNeg 2) (3 : Int32).toNatClampNeg 3) (4 : Int32).toNatClampNeg 4) (5 : Int32).toNatClampNeg 5) (6 : Int32).toNatClampNeg 6) (7 : Int32).toNatClampNeg 7) (8 : Int32).toNatClampNeg 8) (0 : Int32).toNatClampNeg 0) (1 : Int32).toNatClampNeg 1) (2 : Int32).toNatClampNeg 2) (3 : Int32).toNatClampNeg 3) (4 : Int32).toNatClampNeg 4) (5 : Int32).toNatClampNeg 5) (6 : Int32).toNatClampNeg 6) (7 : Int32).toNatClampNeg 7)) := h_8
  have h_11 : Φ2 (x + 10) = some (o_ 12 [.ref (x + 11), .int 8, .int 255, .int 25]) := h_9
  refine z_iinc (k := 0) (v := 1) (lv' := [(2, .int 1), (0, .ref (x + 3)), (1, .int 255)]) B dX1_support_28 rfl rfl (Nat.le_of_ble_eq_true rfl) rfl ?_
  refine z_goto (tgt := 7) B dX1_support_31 rfl ?_
  refine z_iload_n B dX1_support_7 rfl 0 rfl ?_
  refine z_iconst (v := 4) B dX1_support_8 rfl ?_
  refine z_icmp_ge (tgt := 34) B dX1_support_9 rfl (fun h9 => absurd h9 (by decide)) (fun c_2 => ?_)
  refine z_aload_n B dX1_support_12 rfl 1 rfl ?_
  have h_12 : Φ2 (x + 3) = some (o_ 3 [.ref (x + 4), .ref (x + 5), .ref (x + 6), .ref (x + 7), .int 1, .int 255]) := ((fr1 (x + 3) (ne_off (x := x) (i := 3) (j := 11) rfl) (ne_off (x := x) (i := 3) (j := 10) rfl)).trans h_1)
  refine z_get (ref := "FlowExporter$Config") (C := RX1) (T := TX1) (N := 6) (ci := 3) (v := .ref (x + 7)) B (by decide +kernel) rfl 3 (by decide) (by decide +kernel) rfl h_12 rfl dX1_support_13 ?_
  refine z_iload_n B dX1_support_16 rfl 0 rfl ?_
  have h_13 : Φ2 (x + 7) = some (aq_ G 4 4 (va_up (va_up (va_up (va_up (fun _ => none) (0 : Int32).toNatClampNeg (some (x + 10))) (1 : Int32).toNatClampNeg (some (x + 14))) (2 : Int32).toNatClampNeg (some (x + 18))) (3 : Int32).toNatClampNeg (some (x + 22)))) := ((fr1 (x + 7) (ne_off (x := x) (i := 7) (j := 11) rfl) (ne_off (x := x) (i := 7) (j := 10) rfl)).trans h_2)
  refine z_aald (b := x + 14) B rfl h_13 (vin rfl) rfl dX1_support_17 ?_
  refine z_aload_n B dX1_support_18 rfl 1 rfl ?_
  refine z_get (ref := "FlowExporter$Config") (C := RX1) (T := TX1) (N := 6) (ci := 3) (v := .ref (x + 6)) B (by decide +kernel) rfl 2 (by decide) (by decide +kernel) rfl h_12 rfl dX1_support_19 ?_
  refine z_iload_n B dX1_support_22 rfl 0 rfl ?_
  have h_14 : Φ2 (x + 6) = some (aq_ G 4 4 (va_up (va_up (va_up (va_up (fun _ => none) (0 : Int32).toNatClampNeg (some (x + 8))) (1 : Int32).toNatClampNeg (some (x + 12))) (2 : Int32).toNatClampNeg (some (x + 16))) (3 : Int32).toNatClampNeg (some (x + 20)))) := ((fr1 (x + 6) (ne_off (x := x) (i := 6) (j := 11) rfl) (ne_off (x := x) (i := 6) (j := 10) rfl)).trans h_3)
  refine z_aald (b := x + 12) B rfl h_14 (vin rfl) rfl dX1_support_23 ?_
  refine z_iload_n B dX1_support_24 rfl 2 rfl ?_
  have h_15 : Φ2 (x + 14) = some (o_ 12 [.ref (x + 15), .int 0, .int 0, .int 0]) := ((fr1 (x + 14) (ne_off (x := x) (i := 14) (j := 11) rfl) (ne_off (x := x) (i := 14) (j := 10) rfl)).trans ((fset_fr hΦ1 (ne_off (x := x) (i := 14) (j := 3) rfl)).trans hc14_))
  have h_16 : Φ2 (x + 12) = some (o_ 12 [.ref (x + 13), .int 0, .int 0, .int 0]) := ((fr1 (x + 12) (ne_off (x := x) (i := 12) (j := 11) rfl) (ne_off (x := x) (i := 12) (j := 10) rfl)).trans ((fset_fr hΦ1 (ne_off (x := x) (i := 12) (j := 3) rfl)).trans hc12_))
  refine z_callV (As := [.ref (x + 12), .int 255]) (rest := []) B (c_X10_copyFrom_z8 G l Φ2 sz (x + 14) (x + 15) 0 0 0 (x + 12) (x + 13) 0 0 h_15 h_16 (ne_off (x := x) (i := 14) (j := 12) rfl) (Nat.le_trans hna (Nat.le_add_right x 14))) (cwV 2 B.1.2.2.2.2 gX1_support_X10_copyFrom rfl rfl rfl (by decide +kernel) ⟨Nat.le_of_ble_eq_true rfl, Nat.le_of_ble_eq_true rfl⟩) h_15 rfl rfl rfl rfl (Nat.le_of_ble_eq_true rfl) dX1_support_25 ⟨Nat.le_of_ble_eq_true rfl, Nat.le_of_ble_eq_true rfl⟩ (fun v2 Φ3 sz2 st2 hp2 hs2 => ?_)
  obtain ⟨rfl, hq2, fr2, h_17⟩ := hp2
  replace hq2 : sz2 = sz := hq2
  subst sz2
  replace hs2 : st2 = [] := hs2
  subst st2
  have h_18 : Φ3 (x + 14) = some (o_ 12 [.ref (x + 15), .int 0, .int 0, .int 0]) := h_17
  refine z_iinc (k := 0) (v := 2) (lv' := [(2, .int 2), (0, .ref (x + 3)), (1, .int 255)]) B dX1_support_28 rfl rfl (Nat.le_of_ble_eq_true rfl) rfl ?_
  refine z_goto (tgt := 7) B dX1_support_31 rfl ?_
  refine z_iload_n B dX1_support_7 rfl 0 rfl ?_
  refine z_iconst (v := 4) B dX1_support_8 rfl ?_
  refine z_icmp_ge (tgt := 34) B dX1_support_9 rfl (fun h9 => absurd h9 (by decide)) (fun c_3 => ?_)
  refine z_aload_n B dX1_support_12 rfl 1 rfl ?_
  have h_19 : Φ3 (x + 3) = some (o_ 3 [.ref (x + 4), .ref (x + 5), .ref (x + 6), .ref (x + 7), .int 1, .int 255]) := ((fr2 (x + 3) (ne_off (x := x) (i := 3) (j := 14) rfl)).trans h_12)
  refine z_get (ref := "FlowExporter$Config") (C := RX1) (T := TX1) (N := 6) (ci := 3) (v := .ref (x + 7)) B (by decide +kernel) rfl 3 (by decide) (by decide +kernel) rfl h_19 rfl dX1_support_13 ?_
  refine z_iload_n B dX1_support_16 rfl 0 rfl ?_
  have h_20 : Φ3 (x + 7) = some (aq_ G 4 4 (va_up (va_up (va_up (va_up (fun _ => none) (0 : Int32).toNatClampNeg (some (x + 10))) (1 : Int32).toNatClampNeg (some (x + 14))) (2 : Int32).toNatClampNeg (some (x + 18))) (3 : Int32).toNatClampNeg (some (x + 22)))) := ((fr2 (x + 7) (ne_off (x := x) (i := 7) (j := 14) rfl)).trans h_13)
  refine z_aald (b := x + 18) B rfl h_20 (vin rfl) rfl dX1_support_17 ?_
  refine z_aload_n B dX1_support_18 rfl 1 rfl ?_
  refine z_get (ref := "FlowExporter$Config") (C := RX1) (T := TX1) (N := 6) (ci := 3) (v := .ref (x + 6)) B (by decide +kernel) rfl 2 (by decide) (by decide +kernel) rfl h_19 rfl dX1_support_19 ?_
  refine z_iload_n B dX1_support_22 rfl 0 rfl ?_
  have h_21 : Φ3 (x + 6) = some (aq_ G 4 4 (va_up (va_up (va_up (va_up (fun _ => none) (0 : Int32).toNatClampNeg (some (x + 8))) (1 : Int32).toNatClampNeg (some (x + 12))) (2 : Int32).toNatClampNeg (some (x + 16))) (3 : Int32).toNatClampNeg (some (x + 20)))) := ((fr2 (x + 6) (ne_off (x := x) (i := 6) (j := 14) rfl)).trans h_14)
  refine z_aald (b := x + 16) B rfl h_21 (vin rfl) rfl dX1_support_23 ?_
  refine z_iload_n B dX1_support_24 rfl 2 rfl ?_
  have h_22 : Φ3 (x + 18) = some (o_ 12 [.ref (x + 19), .int 0, .int 0, .int 0]) := ((fr2 (x + 18) (ne_off (x := x) (i := 18) (j := 14) rfl)).trans ((fr1 (x + 18) (ne_off (x := x) (i := 18) (j := 11) rfl) (ne_off (x := x) (i := 18) (j := 10) rfl)).trans ((fset_fr hΦ1 (ne_off (x := x) (i := 18) (j := 3) rfl)).trans hc18_)))
  have h_23 : Φ3 (x + 16) = some (o_ 12 [.ref (x + 17), .int 0, .int 0, .int 0]) := ((fr2 (x + 16) (ne_off (x := x) (i := 16) (j := 14) rfl)).trans ((fr1 (x + 16) (ne_off (x := x) (i := 16) (j := 11) rfl) (ne_off (x := x) (i := 16) (j := 10) rfl)).trans ((fset_fr hΦ1 (ne_off (x := x) (i := 16) (j := 3) rfl)).trans hc16_)))
  refine z_callV (As := [.ref (x + 16), .int 255]) (rest := []) B (c_X10_copyFrom_z8 G l Φ3 sz (x + 18) (x + 19) 0 0 0 (x + 16) (x + 17) 0 0 h_22 h_23 (ne_off (x := x) (i := 18) (j := 16) rfl) (Nat.le_trans hna (Nat.le_add_right x 18))) (cwV 2 B.1.2.2.2.2 gX1_support_X10_copyFrom rfl rfl rfl (by decide +kernel) ⟨Nat.le_of_ble_eq_true rfl, Nat.le_of_ble_eq_true rfl⟩) h_22 rfl rfl rfl rfl (Nat.le_of_ble_eq_true rfl) dX1_support_25 ⟨Nat.le_of_ble_eq_true rfl, Nat.le_of_ble_eq_true rfl⟩ (fun v3 Φ4 sz3 st3 hp3 hs3 => ?_)
  obtain ⟨rfl, hq3, fr3, h_24⟩ := hp3
  replace hq3 : sz3 = sz := hq3
  subst sz3
  replace hs3 : st3 = [] := hs3
  subst st3
  have h_25 : Φ4 (x + 18) = some (o_ 12 [.ref (x + 19), .int 0, .int 0, .int 0]) := h_24
  refine z_iinc (k := 0) (v := 3) (lv' := [(2, .int 3), (0, .ref (x + 3)), (1, .int 255)]) B dX1_support_28 rfl rfl (Nat.le_of_ble_eq_true rfl) rfl ?_
  refine z_goto (tgt := 7) B dX1_support_31 rfl ?_
  refine z_iload_n B dX1_support_7 rfl 0 rfl ?_
  refine z_iconst (v := 4) B dX1_support_8 rfl ?_
  refine z_icmp_ge (tgt := 34) B dX1_support_9 rfl (fun h9 => absurd h9 (by decide)) (fun c_4 => ?_)
  refine z_aload_n B dX1_support_12 rfl 1 rfl ?_
  have h_26 : Φ4 (x + 3) = some (o_ 3 [.ref (x + 4), .ref (x + 5), .ref (x + 6), .ref (x + 7), .int 1, .int 255]) := ((fr3 (x + 3) (ne_off (x := x) (i := 3) (j := 18) rfl)).trans h_19)
  refine z_get (ref := "FlowExporter$Config") (C := RX1) (T := TX1) (N := 6) (ci := 3) (v := .ref (x + 7)) B (by decide +kernel) rfl 3 (by decide) (by decide +kernel) rfl h_26 rfl dX1_support_13 ?_
  refine z_iload_n B dX1_support_16 rfl 0 rfl ?_
  have h_27 : Φ4 (x + 7) = some (aq_ G 4 4 (va_up (va_up (va_up (va_up (fun _ => none) (0 : Int32).toNatClampNeg (some (x + 10))) (1 : Int32).toNatClampNeg (some (x + 14))) (2 : Int32).toNatClampNeg (some (x + 18))) (3 : Int32).toNatClampNeg (some (x + 22)))) := ((fr3 (x + 7) (ne_off (x := x) (i := 7) (j := 18) rfl)).trans h_20)
  refine z_aald (b := x + 22) B rfl h_27 (vin rfl) rfl dX1_support_17 ?_
  refine z_aload_n B dX1_support_18 rfl 1 rfl ?_
  refine z_get (ref := "FlowExporter$Config") (C := RX1) (T := TX1) (N := 6) (ci := 3) (v := .ref (x + 6)) B (by decide +kernel) rfl 2 (by decide) (by decide +kernel) rfl h_26 rfl dX1_support_19 ?_
  refine z_iload_n B dX1_support_22 rfl 0 rfl ?_
  have h_28 : Φ4 (x + 6) = some (aq_ G 4 4 (va_up (va_up (va_up (va_up (fun _ => none) (0 : Int32).toNatClampNeg (some (x + 8))) (1 : Int32).toNatClampNeg (some (x + 12))) (2 : Int32).toNatClampNeg (some (x + 16))) (3 : Int32).toNatClampNeg (some (x + 20)))) := ((fr3 (x + 6) (ne_off (x := x) (i := 6) (j := 18) rfl)).trans h_21)
  refine z_aald (b := x + 20) B rfl h_28 (vin rfl) rfl dX1_support_23 ?_
  refine z_iload_n B dX1_support_24 rfl 2 rfl ?_
  have h_29 : Φ4 (x + 22) = some (o_ 12 [.ref (x + 23), .int 0, .int 0, .int 0]) := ((fr3 (x + 22) (ne_off (x := x) (i := 22) (j := 18) rfl)).trans ((fr2 (x + 22) (ne_off (x := x) (i := 22) (j := 14) rfl)).trans ((fr1 (x + 22) (ne_off (x := x) (i := 22) (j := 11) rfl) (ne_off (x := x) (i := 22) (j := 10) rfl)).trans ((fset_fr hΦ1 (ne_off (x := x) (i := 22) (j := 3) rfl)).trans hc22_))))
  have h_30 : Φ4 (x + 20) = some (o_ 12 [.ref (x + 21), .int 0, .int 0, .int 0]) := ((fr3 (x + 20) (ne_off (x := x) (i := 20) (j := 18) rfl)).trans ((fr2 (x + 20) (ne_off (x := x) (i := 20) (j := 14) rfl)).trans ((fr1 (x + 20) (ne_off (x := x) (i := 20) (j := 11) rfl) (ne_off (x := x) (i := 20) (j := 10) rfl)).trans ((fset_fr hΦ1 (ne_off (x := x) (i := 20) (j := 3) rfl)).trans hc20_))))
  refine z_callV (As := [.ref (x + 20), .int 255]) (rest := []) B (c_X10_copyFrom_z8 G l Φ4 sz (x + 22) (x + 23) 0 0 0 (x + 20) (x + 21) 0 0 h_29 h_30 (ne_off (x := x) (i := 22) (j := 20) rfl) (Nat.le_trans hna (Nat.le_add_right x 22))) (cwV 2 B.1.2.2.2.2 gX1_support_X10_copyFrom rfl rfl rfl (by decide +kernel) ⟨Nat.le_of_ble_eq_true rfl, Nat.le_of_ble_eq_true rfl⟩) h_29 rfl rfl rfl rfl (Nat.le_of_ble_eq_true rfl) dX1_support_25 ⟨Nat.le_of_ble_eq_true rfl, Nat.le_of_ble_eq_true rfl⟩ (fun v4 Φ5 sz4 st4 hp4 hs4 => ?_)
  obtain ⟨rfl, hq4, fr4, h_31⟩ := hp4
  replace hq4 : sz4 = sz := hq4
  subst sz4
  replace hs4 : st4 = [] := hs4
  subst st4
  have h_32 : Φ5 (x + 22) = some (o_ 12 [.ref (x + 23), .int 0, .int 0, .int 0]) := h_31
  refine z_iinc (k := 0) (v := 4) (lv' := [(2, .int 4), (0, .ref (x + 3)), (1, .int 255)]) B dX1_support_28 rfl rfl (Nat.le_of_ble_eq_true rfl) rfl ?_
  refine z_goto (tgt := 7) B dX1_support_31 rfl ?_
  refine z_iload_n B dX1_support_7 rfl 0 rfl ?_
  refine z_iconst (v := 4) B dX1_support_8 rfl ?_
  refine z_icmp_ge (tgt := 34) B dX1_support_9 rfl (fun c_5 => ?_) (fun h9 => absurd (by decide) h9)
  have h_33 : Φ5 (x + 10) = some (o_ 12 [.ref (x + 11), .int 8, .int 255, .int 25]) := ((fr4 (x + 10) (ne_off (x := x) (i := 10) (j := 22) rfl)).trans ((fr3 (x + 10) (ne_off (x := x) (i := 10) (j := 18) rfl)).trans ((fr2 (x + 10) (ne_off (x := x) (i := 10) (j := 14) rfl)).trans h_11)))
  have h_34 : Φ5 (x + 11) = some (ai_ G 9 (upd (upd (upd (upd (upd (upd (upd (upd (upd (upd (upd (upd (upd (upd (upd (upd (upd (fun _ => 0) (0 : Int32).toNatClampNeg 0) (1 : Int32).toNatClampNeg 1) (2 : Int32).toNatClampNeg 2) (3 : Int32).toNatClampNeg 3) (4 : Int32).toNatClampNeg 4) (5 : Int32).toNatClampNeg 5) (6 : Int32).toNatClampNeg 6) (7 : Int32).toNatClampNeg 7) (8 : Int32).toNatClampNeg 8) (0 : Int32).toNatClampNeg 0) (1 : Int32).toNatClampNeg 1) (2 : Int32).toNatClampNeg 2) (3 : Int32).toNatClampNeg 3) (4 : Int32).toNatClampNeg 4) (5 : Int32).toNatClampNeg 5) (6 : Int32).toNatClampNeg 6) (7 : Int32).toNatClampNeg 7)) := ((fr4 (x + 11) (ne_off (x := x) (i := 11) (j := 22) rfl)).trans ((fr3 (x + 11) (ne_off (x := x) (i := 11) (j := 18) rfl)).trans ((fr2 (x + 11) (ne_off (x := x) (i := 11) (j := 14) rfl)).trans h_10)))
  have h_35 : Φ5 (x + 14) = some (o_ 12 [.ref (x + 15), .int 0, .int 0, .int 0]) := ((fr4 (x + 14) (ne_off (x := x) (i := 14) (j := 22) rfl)).trans ((fr3 (x + 14) (ne_off (x := x) (i := 14) (j := 18) rfl)).trans h_18))
  have h_36 : Φ5 (x + 18) = some (o_ 12 [.ref (x + 19), .int 0, .int 0, .int 0]) := ((fr4 (x + 18) (ne_off (x := x) (i := 18) (j := 22) rfl)).trans h_25)
  have h_37 : Φ5 (x + 3) = some (o_ 3 [.ref (x + 4), .ref (x + 5), .ref (x + 6), .ref (x + 7), .int 1, .int 255]) := ((fr4 (x + 3) (ne_off (x := x) (i := 3) (j := 22) rfl)).trans h_26)
  exact z_ret_v B dX1_support_34 ⟨rfl, rfl, (fun b9 h9a h9b h9c h9d h9e h9f => ((fr4 b9 h9e).trans ((fr3 b9 h9d).trans ((fr2 b9 h9c).trans ((fr1 b9 h9b h9a).trans ((fset_fr hΦ1 h9f).trans rfl)))))), h_33, h_34, h_35, h_36, h_32, h_37⟩

set_option maxHeartbeats 4000000 in
set_option maxRecDepth 100000 in
theorem f_X1_template_u0 (G : EnvG) (l : Launch) (Φ : Hm) (sz : Nat) (x : Nat) (u : Int32) (hc3_ : Φ (x + 3) = some (o_ 3 [.ref (x + 4), .ref (x + 5), .ref (x + 6), .ref (x + 7), .int 1, .int u])) (hc6_ : Φ (x + 6) = some (aq_ G 4 4 (va_up (va_up (va_up (va_up (fun _ => none) (0 : Int32).toNatClampNeg (some (x + 8))) (1 : Int32).toNatClampNeg (some (x + 12))) (2 : Int32).toNatClampNeg (some (x + 16))) (3 : Int32).toNatClampNeg (some (x + 20))))) : Ct G l yX1_template wsX1_template ({ frames := 0, cells := 0, slots := 0, locals := 0 }) 0 0 [.ref (x + 3), .int 0] Φ sz (fun v Φ1 sz1 => v = some (.ref (x + 8)) ∧ sz1 = sz ∧ (∀ b9 : Nat, Φ1 b9 = Φ b9)) := by
  refine Ct.of (cc := cX1_template) (maxL := 2) (ret := (some (.object "FlowExporter$Template"))) (by decide) rfl (Nat.le_of_ble_eq_true rfl) ?_
  intro p9 e9 s9 m9 w9 t9 k9 B
  show Z p9 l e9 _ s9 m9 _ w9 t9 k9 _ G 2 0 [(0, .ref (x + 3)), (1, .int 0)] [] Φ sz 0 0
  refine z_aload_n B dX1_template_0 rfl 0 rfl ?_
  refine z_get (ref := "FlowExporter$Config") (C := RX1) (T := TX1) (N := 6) (ci := 3) (v := .ref (x + 6)) B (by decide +kernel) rfl 2 (by decide) (by decide +kernel) rfl hc3_ rfl dX1_template_1 ?_
  refine z_iload_n B dX1_template_4 rfl 1 rfl ?_
  refine z_if_lt (tgt := 17) B dX1_template_5 rfl (fun h9 => absurd h9 (by decide)) (fun c_1 => ?_)
  refine z_iload_n B dX1_template_8 rfl 1 rfl ?_
  refine z_iconst (v := 4) B dX1_template_9 rfl ?_
  refine z_icmp_ge (tgt := 17) B dX1_template_10 rfl (fun h9 => absurd h9 (by decide)) (fun c_2 => ?_)
  refine z_iload_n B dX1_template_13 rfl 1 rfl ?_
  refine z_goto (tgt := 18) B dX1_template_14 rfl ?_
  refine z_aald (b := x + 8) B rfl hc6_ (vin rfl) rfl dX1_template_18 ?_
  exact z_ret_a B dX1_template_19 ⟨rfl, rfl, (fun b9 => rfl)⟩

set_option maxHeartbeats 4000000 in
set_option maxRecDepth 100000 in
theorem f_X1_template_u1 (G : EnvG) (l : Launch) (Φ : Hm) (sz : Nat) (x : Nat) (u : Int32) (hc3_ : Φ (x + 3) = some (o_ 3 [.ref (x + 4), .ref (x + 5), .ref (x + 6), .ref (x + 7), .int 1, .int u])) (hc6_ : Φ (x + 6) = some (aq_ G 4 4 (va_up (va_up (va_up (va_up (fun _ => none) (0 : Int32).toNatClampNeg (some (x + 8))) (1 : Int32).toNatClampNeg (some (x + 12))) (2 : Int32).toNatClampNeg (some (x + 16))) (3 : Int32).toNatClampNeg (some (x + 20))))) : Ct G l yX1_template wsX1_template ({ frames := 0, cells := 0, slots := 0, locals := 0 }) 0 0 [.ref (x + 3), .int 1] Φ sz (fun v Φ1 sz1 => v = some (.ref (x + 12)) ∧ sz1 = sz ∧ (∀ b9 : Nat, Φ1 b9 = Φ b9)) := by
  refine Ct.of (cc := cX1_template) (maxL := 2) (ret := (some (.object "FlowExporter$Template"))) (by decide) rfl (Nat.le_of_ble_eq_true rfl) ?_
  intro p9 e9 s9 m9 w9 t9 k9 B
  show Z p9 l e9 _ s9 m9 _ w9 t9 k9 _ G 2 0 [(0, .ref (x + 3)), (1, .int 1)] [] Φ sz 0 0
  refine z_aload_n B dX1_template_0 rfl 0 rfl ?_
  refine z_get (ref := "FlowExporter$Config") (C := RX1) (T := TX1) (N := 6) (ci := 3) (v := .ref (x + 6)) B (by decide +kernel) rfl 2 (by decide) (by decide +kernel) rfl hc3_ rfl dX1_template_1 ?_
  refine z_iload_n B dX1_template_4 rfl 1 rfl ?_
  refine z_if_lt (tgt := 17) B dX1_template_5 rfl (fun h9 => absurd h9 (by decide)) (fun c_1 => ?_)
  refine z_iload_n B dX1_template_8 rfl 1 rfl ?_
  refine z_iconst (v := 4) B dX1_template_9 rfl ?_
  refine z_icmp_ge (tgt := 17) B dX1_template_10 rfl (fun h9 => absurd h9 (by decide)) (fun c_2 => ?_)
  refine z_iload_n B dX1_template_13 rfl 1 rfl ?_
  refine z_goto (tgt := 18) B dX1_template_14 rfl ?_
  refine z_aald (b := x + 12) B rfl hc6_ (vin rfl) rfl dX1_template_18 ?_
  exact z_ret_a B dX1_template_19 ⟨rfl, rfl, (fun b9 => rfl)⟩

set_option maxHeartbeats 4000000 in
set_option maxRecDepth 100000 in
theorem f_X1_template_u2 (G : EnvG) (l : Launch) (Φ : Hm) (sz : Nat) (x : Nat) (u : Int32) (hc3_ : Φ (x + 3) = some (o_ 3 [.ref (x + 4), .ref (x + 5), .ref (x + 6), .ref (x + 7), .int 1, .int u])) (hc6_ : Φ (x + 6) = some (aq_ G 4 4 (va_up (va_up (va_up (va_up (fun _ => none) (0 : Int32).toNatClampNeg (some (x + 8))) (1 : Int32).toNatClampNeg (some (x + 12))) (2 : Int32).toNatClampNeg (some (x + 16))) (3 : Int32).toNatClampNeg (some (x + 20))))) : Ct G l yX1_template wsX1_template ({ frames := 0, cells := 0, slots := 0, locals := 0 }) 0 0 [.ref (x + 3), .int 2] Φ sz (fun v Φ1 sz1 => v = some (.ref (x + 16)) ∧ sz1 = sz ∧ (∀ b9 : Nat, Φ1 b9 = Φ b9)) := by
  refine Ct.of (cc := cX1_template) (maxL := 2) (ret := (some (.object "FlowExporter$Template"))) (by decide) rfl (Nat.le_of_ble_eq_true rfl) ?_
  intro p9 e9 s9 m9 w9 t9 k9 B
  show Z p9 l e9 _ s9 m9 _ w9 t9 k9 _ G 2 0 [(0, .ref (x + 3)), (1, .int 2)] [] Φ sz 0 0
  refine z_aload_n B dX1_template_0 rfl 0 rfl ?_
  refine z_get (ref := "FlowExporter$Config") (C := RX1) (T := TX1) (N := 6) (ci := 3) (v := .ref (x + 6)) B (by decide +kernel) rfl 2 (by decide) (by decide +kernel) rfl hc3_ rfl dX1_template_1 ?_
  refine z_iload_n B dX1_template_4 rfl 1 rfl ?_
  refine z_if_lt (tgt := 17) B dX1_template_5 rfl (fun h9 => absurd h9 (by decide)) (fun c_1 => ?_)
  refine z_iload_n B dX1_template_8 rfl 1 rfl ?_
  refine z_iconst (v := 4) B dX1_template_9 rfl ?_
  refine z_icmp_ge (tgt := 17) B dX1_template_10 rfl (fun h9 => absurd h9 (by decide)) (fun c_2 => ?_)
  refine z_iload_n B dX1_template_13 rfl 1 rfl ?_
  refine z_goto (tgt := 18) B dX1_template_14 rfl ?_
  refine z_aald (b := x + 16) B rfl hc6_ (vin rfl) rfl dX1_template_18 ?_
  exact z_ret_a B dX1_template_19 ⟨rfl, rfl, (fun b9 => rfl)⟩

set_option maxHeartbeats 4000000 in
set_option maxRecDepth 100000 in
theorem f_X1_template_u3 (G : EnvG) (l : Launch) (Φ : Hm) (sz : Nat) (x : Nat) (u : Int32) (hc3_ : Φ (x + 3) = some (o_ 3 [.ref (x + 4), .ref (x + 5), .ref (x + 6), .ref (x + 7), .int 1, .int u])) (hc6_ : Φ (x + 6) = some (aq_ G 4 4 (va_up (va_up (va_up (va_up (fun _ => none) (0 : Int32).toNatClampNeg (some (x + 8))) (1 : Int32).toNatClampNeg (some (x + 12))) (2 : Int32).toNatClampNeg (some (x + 16))) (3 : Int32).toNatClampNeg (some (x + 20))))) : Ct G l yX1_template wsX1_template ({ frames := 0, cells := 0, slots := 0, locals := 0 }) 0 0 [.ref (x + 3), .int 3] Φ sz (fun v Φ1 sz1 => v = some (.ref (x + 20)) ∧ sz1 = sz ∧ (∀ b9 : Nat, Φ1 b9 = Φ b9)) := by
  refine Ct.of (cc := cX1_template) (maxL := 2) (ret := (some (.object "FlowExporter$Template"))) (by decide) rfl (Nat.le_of_ble_eq_true rfl) ?_
  intro p9 e9 s9 m9 w9 t9 k9 B
  show Z p9 l e9 _ s9 m9 _ w9 t9 k9 _ G 2 0 [(0, .ref (x + 3)), (1, .int 3)] [] Φ sz 0 0
  refine z_aload_n B dX1_template_0 rfl 0 rfl ?_
  refine z_get (ref := "FlowExporter$Config") (C := RX1) (T := TX1) (N := 6) (ci := 3) (v := .ref (x + 6)) B (by decide +kernel) rfl 2 (by decide) (by decide +kernel) rfl hc3_ rfl dX1_template_1 ?_
  refine z_iload_n B dX1_template_4 rfl 1 rfl ?_
  refine z_if_lt (tgt := 17) B dX1_template_5 rfl (fun h9 => absurd h9 (by decide)) (fun c_1 => ?_)
  refine z_iload_n B dX1_template_8 rfl 1 rfl ?_
  refine z_iconst (v := 4) B dX1_template_9 rfl ?_
  refine z_icmp_ge (tgt := 17) B dX1_template_10 rfl (fun h9 => absurd h9 (by decide)) (fun c_2 => ?_)
  refine z_iload_n B dX1_template_13 rfl 1 rfl ?_
  refine z_goto (tgt := 18) B dX1_template_14 rfl ?_
  refine z_aald (b := x + 20) B rfl hc6_ (vin rfl) rfl dX1_template_18 ?_
  exact z_ret_a B dX1_template_19 ⟨rfl, rfl, (fun b9 => rfl)⟩

set_option maxHeartbeats 4000000 in
set_option maxRecDepth 100000 in
theorem f_X10_has_0_0 (G : EnvG) (l : Launch) (Φ : Hm) (sz : Nat) (x : Nat) (hc8_ : Φ (x + 8) = some (o_ 12 [.ref (x + 9), .int 9, .int 511, .int 29])) : Ct G l yX10_has wsX10_has ({ frames := 0, cells := 0, slots := 0, locals := 0 }) 0 0 [.ref (x + 8), .int 0] Φ sz (fun v Φ1 sz1 => v = some (.int 1) ∧ sz1 = sz ∧ (∀ b9 : Nat, Φ1 b9 = Φ b9)) := by
  refine Ct.of (cc := cX10_has) (maxL := 2) (ret := (some .boolean)) (by decide) rfl (Nat.le_of_ble_eq_true rfl) ?_
  intro p9 e9 s9 m9 w9 t9 k9 B
  show Z p9 l e9 _ s9 m9 _ w9 t9 k9 _ G 2 0 [(0, .ref (x + 8)), (1, .int 0)] [] Φ sz 0 0
  refine z_iload_n B dX10_has_0 rfl 1 rfl ?_
  refine z_if_lt (tgt := 26) B dX10_has_1 rfl (fun h9 => absurd h9 (by decide)) (fun c_1 => ?_)
  refine z_iload_n B dX10_has_4 rfl 1 rfl ?_
  refine z_bipush (v := 9) B dX10_has_5 rfl ?_
  refine z_icmp_ge (tgt := 26) B dX10_has_7 rfl (fun h9 => absurd h9 (by decide)) (fun c_2 => ?_)
  refine z_aload_n B dX10_has_10 rfl 0 rfl ?_
  refine z_get (ref := "FlowExporter$Template") (C := RX10) (T := TX10) (N := 4) (ci := 12) (v := .int 511) B (by decide +kernel) rfl 2 (by decide) (by decide +kernel) rfl hc8_ rfl dX10_has_11 ?_
  refine z_iload_n B dX10_has_14 rfl 1 rfl ?_
  refine z_ishr B dX10_has_15 ?_
  refine z_top (st1 := [.int 511]) (congrArg (fun w9 : Int32 => ([.int w9] : List Value)) (show ((511 : Int32) >>> ((0 : Int32) &&& (31 : Int32)) : Int32) = 511 by decide +kernel)) ?_
  refine z_iconst (v := 1) B dX10_has_16 rfl ?_
  refine z_iand B dX10_has_17 ?_
  refine z_top (st1 := [.int 1]) (congrArg (fun w9 : Int32 => ([.int w9] : List Value)) (show (511 &&& 1 : Int32) = 1 by decide +kernel)) ?_
  refine z_iconst (v := 1) B dX10_has_18 rfl ?_
  refine z_icmp_ne (tgt := 26) B dX10_has_19 rfl (fun h9 => absurd (by decide) h9) (fun c_3 => ?_)
  refine z_iconst (v := 1) B dX10_has_22 rfl ?_
  refine z_goto (tgt := 27) B dX10_has_23 rfl ?_
  exact z_ret_z B dX10_has_27 (by decide) ⟨rfl, rfl, (fun b9 => rfl)⟩

set_option maxHeartbeats 4000000 in
set_option maxRecDepth 100000 in
theorem f_X10_has_1_0 (G : EnvG) (l : Launch) (Φ : Hm) (sz : Nat) (x : Nat) (hc12_ : Φ (x + 12) = some (o_ 12 [.ref (x + 13), .int 0, .int 0, .int 0])) : Ct G l yX10_has wsX10_has ({ frames := 0, cells := 0, slots := 0, locals := 0 }) 0 0 [.ref (x + 12), .int 0] Φ sz (fun v Φ1 sz1 => v = some (.int 0) ∧ sz1 = sz ∧ (∀ b9 : Nat, Φ1 b9 = Φ b9)) := by
  refine Ct.of (cc := cX10_has) (maxL := 2) (ret := (some .boolean)) (by decide) rfl (Nat.le_of_ble_eq_true rfl) ?_
  intro p9 e9 s9 m9 w9 t9 k9 B
  show Z p9 l e9 _ s9 m9 _ w9 t9 k9 _ G 2 0 [(0, .ref (x + 12)), (1, .int 0)] [] Φ sz 0 0
  refine z_iload_n B dX10_has_0 rfl 1 rfl ?_
  refine z_if_lt (tgt := 26) B dX10_has_1 rfl (fun h9 => absurd h9 (by decide)) (fun c_1 => ?_)
  refine z_iload_n B dX10_has_4 rfl 1 rfl ?_
  refine z_bipush (v := 9) B dX10_has_5 rfl ?_
  refine z_icmp_ge (tgt := 26) B dX10_has_7 rfl (fun h9 => absurd h9 (by decide)) (fun c_2 => ?_)
  refine z_aload_n B dX10_has_10 rfl 0 rfl ?_
  refine z_get (ref := "FlowExporter$Template") (C := RX10) (T := TX10) (N := 4) (ci := 12) (v := .int 0) B (by decide +kernel) rfl 2 (by decide) (by decide +kernel) rfl hc12_ rfl dX10_has_11 ?_
  refine z_iload_n B dX10_has_14 rfl 1 rfl ?_
  refine z_ishr B dX10_has_15 ?_
  refine z_top (st1 := [.int 0]) (congrArg (fun w9 : Int32 => ([.int w9] : List Value)) (show ((0 : Int32) >>> ((0 : Int32) &&& (31 : Int32)) : Int32) = 0 by decide +kernel)) ?_
  refine z_iconst (v := 1) B dX10_has_16 rfl ?_
  refine z_iand B dX10_has_17 ?_
  refine z_top (st1 := [.int 0]) (congrArg (fun w9 : Int32 => ([.int w9] : List Value)) (show (0 &&& 1 : Int32) = 0 by decide +kernel)) ?_
  refine z_iconst (v := 1) B dX10_has_18 rfl ?_
  refine z_icmp_ne (tgt := 26) B dX10_has_19 rfl (fun c_3 => ?_) (fun h9 => absurd h9 (by decide))
  refine z_iconst (v := 0) B dX10_has_26 rfl ?_
  exact z_ret_z B dX10_has_27 (by decide) ⟨rfl, rfl, (fun b9 => rfl)⟩

set_option maxHeartbeats 4000000 in
set_option maxRecDepth 100000 in
theorem f_X10_has_2_0 (G : EnvG) (l : Launch) (Φ : Hm) (sz : Nat) (x : Nat) (hc16_ : Φ (x + 16) = some (o_ 12 [.ref (x + 17), .int 0, .int 0, .int 0])) : Ct G l yX10_has wsX10_has ({ frames := 0, cells := 0, slots := 0, locals := 0 }) 0 0 [.ref (x + 16), .int 0] Φ sz (fun v Φ1 sz1 => v = some (.int 0) ∧ sz1 = sz ∧ (∀ b9 : Nat, Φ1 b9 = Φ b9)) := by
  refine Ct.of (cc := cX10_has) (maxL := 2) (ret := (some .boolean)) (by decide) rfl (Nat.le_of_ble_eq_true rfl) ?_
  intro p9 e9 s9 m9 w9 t9 k9 B
  show Z p9 l e9 _ s9 m9 _ w9 t9 k9 _ G 2 0 [(0, .ref (x + 16)), (1, .int 0)] [] Φ sz 0 0
  refine z_iload_n B dX10_has_0 rfl 1 rfl ?_
  refine z_if_lt (tgt := 26) B dX10_has_1 rfl (fun h9 => absurd h9 (by decide)) (fun c_1 => ?_)
  refine z_iload_n B dX10_has_4 rfl 1 rfl ?_
  refine z_bipush (v := 9) B dX10_has_5 rfl ?_
  refine z_icmp_ge (tgt := 26) B dX10_has_7 rfl (fun h9 => absurd h9 (by decide)) (fun c_2 => ?_)
  refine z_aload_n B dX10_has_10 rfl 0 rfl ?_
  refine z_get (ref := "FlowExporter$Template") (C := RX10) (T := TX10) (N := 4) (ci := 12) (v := .int 0) B (by decide +kernel) rfl 2 (by decide) (by decide +kernel) rfl hc16_ rfl dX10_has_11 ?_
  refine z_iload_n B dX10_has_14 rfl 1 rfl ?_
  refine z_ishr B dX10_has_15 ?_
  refine z_top (st1 := [.int 0]) (congrArg (fun w9 : Int32 => ([.int w9] : List Value)) (show ((0 : Int32) >>> ((0 : Int32) &&& (31 : Int32)) : Int32) = 0 by decide +kernel)) ?_
  refine z_iconst (v := 1) B dX10_has_16 rfl ?_
  refine z_iand B dX10_has_17 ?_
  refine z_top (st1 := [.int 0]) (congrArg (fun w9 : Int32 => ([.int w9] : List Value)) (show (0 &&& 1 : Int32) = 0 by decide +kernel)) ?_
  refine z_iconst (v := 1) B dX10_has_18 rfl ?_
  refine z_icmp_ne (tgt := 26) B dX10_has_19 rfl (fun c_3 => ?_) (fun h9 => absurd h9 (by decide))
  refine z_iconst (v := 0) B dX10_has_26 rfl ?_
  exact z_ret_z B dX10_has_27 (by decide) ⟨rfl, rfl, (fun b9 => rfl)⟩

set_option maxHeartbeats 4000000 in
set_option maxRecDepth 100000 in
theorem f_X10_has_3_0 (G : EnvG) (l : Launch) (Φ : Hm) (sz : Nat) (x : Nat) (hc20_ : Φ (x + 20) = some (o_ 12 [.ref (x + 21), .int 0, .int 0, .int 0])) : Ct G l yX10_has wsX10_has ({ frames := 0, cells := 0, slots := 0, locals := 0 }) 0 0 [.ref (x + 20), .int 0] Φ sz (fun v Φ1 sz1 => v = some (.int 0) ∧ sz1 = sz ∧ (∀ b9 : Nat, Φ1 b9 = Φ b9)) := by
  refine Ct.of (cc := cX10_has) (maxL := 2) (ret := (some .boolean)) (by decide) rfl (Nat.le_of_ble_eq_true rfl) ?_
  intro p9 e9 s9 m9 w9 t9 k9 B
  show Z p9 l e9 _ s9 m9 _ w9 t9 k9 _ G 2 0 [(0, .ref (x + 20)), (1, .int 0)] [] Φ sz 0 0
  refine z_iload_n B dX10_has_0 rfl 1 rfl ?_
  refine z_if_lt (tgt := 26) B dX10_has_1 rfl (fun h9 => absurd h9 (by decide)) (fun c_1 => ?_)
  refine z_iload_n B dX10_has_4 rfl 1 rfl ?_
  refine z_bipush (v := 9) B dX10_has_5 rfl ?_
  refine z_icmp_ge (tgt := 26) B dX10_has_7 rfl (fun h9 => absurd h9 (by decide)) (fun c_2 => ?_)
  refine z_aload_n B dX10_has_10 rfl 0 rfl ?_
  refine z_get (ref := "FlowExporter$Template") (C := RX10) (T := TX10) (N := 4) (ci := 12) (v := .int 0) B (by decide +kernel) rfl 2 (by decide) (by decide +kernel) rfl hc20_ rfl dX10_has_11 ?_
  refine z_iload_n B dX10_has_14 rfl 1 rfl ?_
  refine z_ishr B dX10_has_15 ?_
  refine z_top (st1 := [.int 0]) (congrArg (fun w9 : Int32 => ([.int w9] : List Value)) (show ((0 : Int32) >>> ((0 : Int32) &&& (31 : Int32)) : Int32) = 0 by decide +kernel)) ?_
  refine z_iconst (v := 1) B dX10_has_16 rfl ?_
  refine z_iand B dX10_has_17 ?_
  refine z_top (st1 := [.int 0]) (congrArg (fun w9 : Int32 => ([.int w9] : List Value)) (show (0 &&& 1 : Int32) = 0 by decide +kernel)) ?_
  refine z_iconst (v := 1) B dX10_has_18 rfl ?_
  refine z_icmp_ne (tgt := 26) B dX10_has_19 rfl (fun c_3 => ?_) (fun h9 => absurd h9 (by decide))
  refine z_iconst (v := 0) B dX10_has_26 rfl ?_
  exact z_ret_z B dX10_has_27 (by decide) ⟨rfl, rfl, (fun b9 => rfl)⟩

set_option maxHeartbeats 4000000 in
set_option maxRecDepth 100000 in
theorem f_X8_forget_0 (G : EnvG) (l : Launch) (Φ : Hm) (sz : Nat) (x : Nat) (u : Int32) (hc3_ : Φ (x + 3) = some (o_ 3 [.ref (x + 4), .ref (x + 5), .ref (x + 6), .ref (x + 7), .int 1, .int u])) (hc6_ : Φ (x + 6) = some (aq_ G 4 4 (va_up (va_up (va_up (va_up (fun _ => none) (0 : Int32).toNatClampNeg (some (x + 8))) (1 : Int32).toNatClampNeg (some (x + 12))) (2 : Int32).toNatClampNeg (some (x + 16))) (3 : Int32).toNatClampNeg (some (x + 20))))) (hc8_ : Φ (x + 8) = some (o_ 12 [.ref (x + 9), .int 9, .int 511, .int 29])) (hc12_ : Φ (x + 12) = some (o_ 12 [.ref (x + 13), .int 0, .int 0, .int 0])) (hc16_ : Φ (x + 16) = some (o_ 12 [.ref (x + 17), .int 0, .int 0, .int 0])) (hc20_ : Φ (x + 20) = some (o_ 12 [.ref (x + 21), .int 0, .int 0, .int 0])) (hc74_ : Φ (x + 74) = some (o_ 10 [.ref (x + 3), .ref (x + 46), .ref (x + 75), .ref (x + 77), .int 0, .ref (x + 78), .ref (x + 79), .int 0, .long 0, .int 0])) (hc78_ : Φ (x + 78) = some (ai_ G 4 (fun _ => 0))) (hna : G.2.2.2 ≤ x) : Ct G l yX8_forgetTemplatesWith wsX8_forgetTemplatesWith ({ frames := 1, cells := 0, slots := 0, locals := 21 }) 0 0 [.ref (x + 74), .int 0] Φ sz (fun v Φ1 sz1 => v = none ∧ sz1 = sz ∧ (∀ b9 : Nat, b9 ≠ x + 78 → Φ1 b9 = Φ b9) ∧ Φ1 (x + 78) = some (ai_ G 4 (upd (fun _ => 0) (0 : Int32).toNatClampNeg 0))) := by
  refine Ct.of (cc := cX8_forgetTemplatesWith) (maxL := 3) (ret := none) (by decide) rfl (Nat.le_of_ble_eq_true rfl) ?_
  intro p9 e9 s9 m9 w9 t9 k9 B
  show Z p9 l e9 _ s9 m9 _ w9 t9 k9 _ G 3 0 [(0, .ref (x + 74)), (1, .int 0)] [] Φ sz 0 0
  refine z_iconst (v := 0) B dX8_forgetTemplatesWith_0 rfl ?_
  refine z_istore_n (lv' := [(2, .int 0), (0, .ref (x + 74)), (1, .int 0)]) B dX8_forgetTemplatesWith_1 rfl (Nat.le_of_ble_eq_true rfl) rfl ?_
  refine z_iload_n B dX8_forgetTemplatesWith_2 rfl 0 rfl ?_
  refine z_iconst (v := 4) B dX8_forgetTemplatesWith_3 rfl ?_
  refine z_icmp_ge (tgt := 35) B dX8_forgetTemplatesWith_4 rfl (fun h9 => absurd h9 (by decide)) (fun c_1 => ?_)
  refine z_aload_n B dX8_forgetTemplatesWith_7 rfl 1 rfl ?_
  refine z_get (ref := "FlowExporter$Sender") (C := RX8) (T := TX8) (N := 10) (ci := 10) (v := .ref (x + 3)) B (by decide +kernel) rfl 0 (by decide) (by decide +kernel) rfl hc74_ rfl dX8_forgetTemplatesWith_8 ?_
  refine z_iload_n B dX8_forgetTemplatesWith_11 rfl 0 rfl ?_
  refine z_callV (As := [.int 0]) (rest := []) B (f_X1_template_u0 G l Φ sz x u hc3_ hc6_) (cwV 1 B.1.2.2.2.2 gX8_forgetTemplatesWith_X1_template rfl rfl rfl (by decide +kernel) ⟨Nat.le_of_ble_eq_true rfl, Nat.le_of_ble_eq_true rfl⟩) hc3_ rfl rfl rfl rfl (Nat.le_of_ble_eq_true rfl) dX8_forgetTemplatesWith_12 ⟨Nat.le_of_ble_eq_true rfl, Nat.le_of_ble_eq_true rfl⟩ (fun v1 Φ1 sz1 st1 hp1 hs1 => ?_)
  obtain ⟨rfl, hq1, fr1⟩ := hp1
  replace hq1 : sz1 = sz := hq1
  subst sz1
  replace hs1 : st1 = [.ref (x + 8)] := hs1
  subst st1
  refine z_iload_n B dX8_forgetTemplatesWith_15 rfl 2 rfl ?_
  have h_1 : Φ1 (x + 8) = some (o_ 12 [.ref (x + 9), .int 9, .int 511, .int 29]) := ((fr1 (x + 8)).trans hc8_)
  refine z_callV (As := [.int 0]) (rest := []) B (f_X10_has_0_0 G l Φ1 sz x h_1) (cwV 1 B.1.2.2.2.2 gX8_forgetTemplatesWith_X10_has rfl rfl rfl (by decide +kernel) ⟨Nat.le_of_ble_eq_true rfl, Nat.le_of_ble_eq_true rfl⟩) h_1 rfl rfl rfl rfl (Nat.le_of_ble_eq_true rfl) dX8_forgetTemplatesWith_16 ⟨Nat.le_of_ble_eq_true rfl, Nat.le_of_ble_eq_true rfl⟩ (fun v2 Φ2 sz2 st2 hp2 hs2 => ?_)
  obtain ⟨rfl, hq2, fr2⟩ := hp2
  replace hq2 : sz2 = sz := hq2
  subst sz2
  replace hs2 : st2 = [.int 1] := hs2
  subst st2
  refine z_if_eq (tgt := 29) B dX8_forgetTemplatesWith_19 rfl (fun h9 => absurd h9 (by decide)) (fun c_2 => ?_)
  refine z_aload_n B dX8_forgetTemplatesWith_22 rfl 1 rfl ?_
  have h_2 : Φ2 (x + 74) = some (o_ 10 [.ref (x + 3), .ref (x + 46), .ref (x + 75), .ref (x + 77), .int 0, .ref (x + 78), .ref (x + 79), .int 0, .long 0, .int 0]) := ((fr2 (x + 74)).trans ((fr1 (x + 74)).trans hc74_))
  refine z_get (ref := "FlowExporter$Sender") (C := RX8) (T := TX8) (N := 10) (ci := 10) (v := .ref (x + 78)) B (by decide +kernel) rfl 5 (by decide) (by decide +kernel) rfl h_2 rfl dX8_forgetTemplatesWith_23 ?_
  refine z_iload_n B dX8_forgetTemplatesWith_26 rfl 0 rfl ?_
  refine z_iconst (v := 0) B dX8_forgetTemplatesWith_27 rfl ?_
  have h_3 : Φ2 (x + 78) = some (ai_ G 4 (fun _ => 0)) := ((fr2 (x + 78)).trans ((fr1 (x + 78)).trans hc78_))
  refine z_iast B h_3 (Nat.le_trans hna (Nat.le_add_right x 78)) (vin rfl) dX8_forgetTemplatesWith_28 (fun Φ3 hΦ1 => ?_)
  have h_4 : Φ3 (x + 78) = some (ai_ G 4 (upd (fun _ => 0) (0 : Int32).toNatClampNeg 0)) := fset_at hΦ1
  refine z_iinc (k := 0) (v := 1) (lv' := [(2, .int 1), (0, .ref (x + 74)), (1, .int 0)]) B dX8_forgetTemplatesWith_29 rfl rfl (Nat.le_of_ble_eq_true rfl) rfl ?_
  refine z_goto (tgt := 2) B dX8_forgetTemplatesWith_32 rfl ?_
  refine z_iload_n B dX8_forgetTemplatesWith_2 rfl 0 rfl ?_
  refine z_iconst (v := 4) B dX8_forgetTemplatesWith_3 rfl ?_
  refine z_icmp_ge (tgt := 35) B dX8_forgetTemplatesWith_4 rfl (fun h9 => absurd h9 (by decide)) (fun c_3 => ?_)
  refine z_aload_n B dX8_forgetTemplatesWith_7 rfl 1 rfl ?_
  have h_5 : Φ3 (x + 74) = some (o_ 10 [.ref (x + 3), .ref (x + 46), .ref (x + 75), .ref (x + 77), .int 0, .ref (x + 78), .ref (x + 79), .int 0, .long 0, .int 0]) := ((fset_fr hΦ1 (ne_off (x := x) (i := 74) (j := 78) rfl)).trans h_2)
  refine z_get (ref := "FlowExporter$Sender") (C := RX8) (T := TX8) (N := 10) (ci := 10) (v := .ref (x + 3)) B (by decide +kernel) rfl 0 (by decide) (by decide +kernel) rfl h_5 rfl dX8_forgetTemplatesWith_8 ?_
  refine z_iload_n B dX8_forgetTemplatesWith_11 rfl 0 rfl ?_
  have h_6 : Φ3 (x + 3) = some (o_ 3 [.ref (x + 4), .ref (x + 5), .ref (x + 6), .ref (x + 7), .int 1, .int u]) := ((fset_fr hΦ1 (ne_off (x := x) (i := 3) (j := 78) rfl)).trans ((fr2 (x + 3)).trans ((fr1 (x + 3)).trans hc3_)))
  have h_7 : Φ3 (x + 6) = some (aq_ G 4 4 (va_up (va_up (va_up (va_up (fun _ => none) (0 : Int32).toNatClampNeg (some (x + 8))) (1 : Int32).toNatClampNeg (some (x + 12))) (2 : Int32).toNatClampNeg (some (x + 16))) (3 : Int32).toNatClampNeg (some (x + 20)))) := ((fset_fr hΦ1 (ne_off (x := x) (i := 6) (j := 78) rfl)).trans ((fr2 (x + 6)).trans ((fr1 (x + 6)).trans hc6_)))
  refine z_callV (As := [.int 1]) (rest := []) B (f_X1_template_u1 G l Φ3 sz x u h_6 h_7) (cwV 1 B.1.2.2.2.2 gX8_forgetTemplatesWith_X1_template rfl rfl rfl (by decide +kernel) ⟨Nat.le_of_ble_eq_true rfl, Nat.le_of_ble_eq_true rfl⟩) h_6 rfl rfl rfl rfl (Nat.le_of_ble_eq_true rfl) dX8_forgetTemplatesWith_12 ⟨Nat.le_of_ble_eq_true rfl, Nat.le_of_ble_eq_true rfl⟩ (fun v3 Φ4 sz3 st3 hp3 hs3 => ?_)
  obtain ⟨rfl, hq3, fr3⟩ := hp3
  replace hq3 : sz3 = sz := hq3
  subst sz3
  replace hs3 : st3 = [.ref (x + 12)] := hs3
  subst st3
  refine z_iload_n B dX8_forgetTemplatesWith_15 rfl 2 rfl ?_
  have h_8 : Φ4 (x + 12) = some (o_ 12 [.ref (x + 13), .int 0, .int 0, .int 0]) := ((fr3 (x + 12)).trans ((fset_fr hΦ1 (ne_off (x := x) (i := 12) (j := 78) rfl)).trans ((fr2 (x + 12)).trans ((fr1 (x + 12)).trans hc12_))))
  refine z_callV (As := [.int 0]) (rest := []) B (f_X10_has_1_0 G l Φ4 sz x h_8) (cwV 1 B.1.2.2.2.2 gX8_forgetTemplatesWith_X10_has rfl rfl rfl (by decide +kernel) ⟨Nat.le_of_ble_eq_true rfl, Nat.le_of_ble_eq_true rfl⟩) h_8 rfl rfl rfl rfl (Nat.le_of_ble_eq_true rfl) dX8_forgetTemplatesWith_16 ⟨Nat.le_of_ble_eq_true rfl, Nat.le_of_ble_eq_true rfl⟩ (fun v4 Φ5 sz4 st4 hp4 hs4 => ?_)
  obtain ⟨rfl, hq4, fr4⟩ := hp4
  replace hq4 : sz4 = sz := hq4
  subst sz4
  replace hs4 : st4 = [.int 0] := hs4
  subst st4
  refine z_if_eq (tgt := 29) B dX8_forgetTemplatesWith_19 rfl (fun c_4 => ?_) (fun h9 => absurd (by decide) h9)
  refine z_iinc (k := 0) (v := 2) (lv' := [(2, .int 2), (0, .ref (x + 74)), (1, .int 0)]) B dX8_forgetTemplatesWith_29 rfl rfl (Nat.le_of_ble_eq_true rfl) rfl ?_
  refine z_goto (tgt := 2) B dX8_forgetTemplatesWith_32 rfl ?_
  refine z_iload_n B dX8_forgetTemplatesWith_2 rfl 0 rfl ?_
  refine z_iconst (v := 4) B dX8_forgetTemplatesWith_3 rfl ?_
  refine z_icmp_ge (tgt := 35) B dX8_forgetTemplatesWith_4 rfl (fun h9 => absurd h9 (by decide)) (fun c_5 => ?_)
  refine z_aload_n B dX8_forgetTemplatesWith_7 rfl 1 rfl ?_
  have h_9 : Φ5 (x + 74) = some (o_ 10 [.ref (x + 3), .ref (x + 46), .ref (x + 75), .ref (x + 77), .int 0, .ref (x + 78), .ref (x + 79), .int 0, .long 0, .int 0]) := ((fr4 (x + 74)).trans ((fr3 (x + 74)).trans h_5))
  refine z_get (ref := "FlowExporter$Sender") (C := RX8) (T := TX8) (N := 10) (ci := 10) (v := .ref (x + 3)) B (by decide +kernel) rfl 0 (by decide) (by decide +kernel) rfl h_9 rfl dX8_forgetTemplatesWith_8 ?_
  refine z_iload_n B dX8_forgetTemplatesWith_11 rfl 0 rfl ?_
  have h_10 : Φ5 (x + 3) = some (o_ 3 [.ref (x + 4), .ref (x + 5), .ref (x + 6), .ref (x + 7), .int 1, .int u]) := ((fr4 (x + 3)).trans ((fr3 (x + 3)).trans h_6))
  have h_11 : Φ5 (x + 6) = some (aq_ G 4 4 (va_up (va_up (va_up (va_up (fun _ => none) (0 : Int32).toNatClampNeg (some (x + 8))) (1 : Int32).toNatClampNeg (some (x + 12))) (2 : Int32).toNatClampNeg (some (x + 16))) (3 : Int32).toNatClampNeg (some (x + 20)))) := ((fr4 (x + 6)).trans ((fr3 (x + 6)).trans h_7))
  refine z_callV (As := [.int 2]) (rest := []) B (f_X1_template_u2 G l Φ5 sz x u h_10 h_11) (cwV 1 B.1.2.2.2.2 gX8_forgetTemplatesWith_X1_template rfl rfl rfl (by decide +kernel) ⟨Nat.le_of_ble_eq_true rfl, Nat.le_of_ble_eq_true rfl⟩) h_10 rfl rfl rfl rfl (Nat.le_of_ble_eq_true rfl) dX8_forgetTemplatesWith_12 ⟨Nat.le_of_ble_eq_true rfl, Nat.le_of_ble_eq_true rfl⟩ (fun v5 Φ6 sz5 st5 hp5 hs5 => ?_)
  obtain ⟨rfl, hq5, fr5⟩ := hp5
  replace hq5 : sz5 = sz := hq5
  subst sz5
  replace hs5 : st5 = [.ref (x + 16)] := hs5
  subst st5
  refine z_iload_n B dX8_forgetTemplatesWith_15 rfl 2 rfl ?_
  have h_12 : Φ6 (x + 16) = some (o_ 12 [.ref (x + 17), .int 0, .int 0, .int 0]) := ((fr5 (x + 16)).trans ((fr4 (x + 16)).trans ((fr3 (x + 16)).trans ((fset_fr hΦ1 (ne_off (x := x) (i := 16) (j := 78) rfl)).trans ((fr2 (x + 16)).trans ((fr1 (x + 16)).trans hc16_))))))
  refine z_callV (As := [.int 0]) (rest := []) B (f_X10_has_2_0 G l Φ6 sz x h_12) (cwV 1 B.1.2.2.2.2 gX8_forgetTemplatesWith_X10_has rfl rfl rfl (by decide +kernel) ⟨Nat.le_of_ble_eq_true rfl, Nat.le_of_ble_eq_true rfl⟩) h_12 rfl rfl rfl rfl (Nat.le_of_ble_eq_true rfl) dX8_forgetTemplatesWith_16 ⟨Nat.le_of_ble_eq_true rfl, Nat.le_of_ble_eq_true rfl⟩ (fun v6 Φ7 sz6 st6 hp6 hs6 => ?_)
  obtain ⟨rfl, hq6, fr6⟩ := hp6
  replace hq6 : sz6 = sz := hq6
  subst sz6
  replace hs6 : st6 = [.int 0] := hs6
  subst st6
  refine z_if_eq (tgt := 29) B dX8_forgetTemplatesWith_19 rfl (fun c_6 => ?_) (fun h9 => absurd (by decide) h9)
  refine z_iinc (k := 0) (v := 3) (lv' := [(2, .int 3), (0, .ref (x + 74)), (1, .int 0)]) B dX8_forgetTemplatesWith_29 rfl rfl (Nat.le_of_ble_eq_true rfl) rfl ?_
  refine z_goto (tgt := 2) B dX8_forgetTemplatesWith_32 rfl ?_
  refine z_iload_n B dX8_forgetTemplatesWith_2 rfl 0 rfl ?_
  refine z_iconst (v := 4) B dX8_forgetTemplatesWith_3 rfl ?_
  refine z_icmp_ge (tgt := 35) B dX8_forgetTemplatesWith_4 rfl (fun h9 => absurd h9 (by decide)) (fun c_7 => ?_)
  refine z_aload_n B dX8_forgetTemplatesWith_7 rfl 1 rfl ?_
  have h_13 : Φ7 (x + 74) = some (o_ 10 [.ref (x + 3), .ref (x + 46), .ref (x + 75), .ref (x + 77), .int 0, .ref (x + 78), .ref (x + 79), .int 0, .long 0, .int 0]) := ((fr6 (x + 74)).trans ((fr5 (x + 74)).trans h_9))
  refine z_get (ref := "FlowExporter$Sender") (C := RX8) (T := TX8) (N := 10) (ci := 10) (v := .ref (x + 3)) B (by decide +kernel) rfl 0 (by decide) (by decide +kernel) rfl h_13 rfl dX8_forgetTemplatesWith_8 ?_
  refine z_iload_n B dX8_forgetTemplatesWith_11 rfl 0 rfl ?_
  have h_14 : Φ7 (x + 3) = some (o_ 3 [.ref (x + 4), .ref (x + 5), .ref (x + 6), .ref (x + 7), .int 1, .int u]) := ((fr6 (x + 3)).trans ((fr5 (x + 3)).trans h_10))
  have h_15 : Φ7 (x + 6) = some (aq_ G 4 4 (va_up (va_up (va_up (va_up (fun _ => none) (0 : Int32).toNatClampNeg (some (x + 8))) (1 : Int32).toNatClampNeg (some (x + 12))) (2 : Int32).toNatClampNeg (some (x + 16))) (3 : Int32).toNatClampNeg (some (x + 20)))) := ((fr6 (x + 6)).trans ((fr5 (x + 6)).trans h_11))
  refine z_callV (As := [.int 3]) (rest := []) B (f_X1_template_u3 G l Φ7 sz x u h_14 h_15) (cwV 1 B.1.2.2.2.2 gX8_forgetTemplatesWith_X1_template rfl rfl rfl (by decide +kernel) ⟨Nat.le_of_ble_eq_true rfl, Nat.le_of_ble_eq_true rfl⟩) h_14 rfl rfl rfl rfl (Nat.le_of_ble_eq_true rfl) dX8_forgetTemplatesWith_12 ⟨Nat.le_of_ble_eq_true rfl, Nat.le_of_ble_eq_true rfl⟩ (fun v7 Φ8 sz7 st7 hp7 hs7 => ?_)
  obtain ⟨rfl, hq7, fr7⟩ := hp7
  replace hq7 : sz7 = sz := hq7
  subst sz7
  replace hs7 : st7 = [.ref (x + 20)] := hs7
  subst st7
  refine z_iload_n B dX8_forgetTemplatesWith_15 rfl 2 rfl ?_
  have h_16 : Φ8 (x + 20) = some (o_ 12 [.ref (x + 21), .int 0, .int 0, .int 0]) := ((fr7 (x + 20)).trans ((fr6 (x + 20)).trans ((fr5 (x + 20)).trans ((fr4 (x + 20)).trans ((fr3 (x + 20)).trans ((fset_fr hΦ1 (ne_off (x := x) (i := 20) (j := 78) rfl)).trans ((fr2 (x + 20)).trans ((fr1 (x + 20)).trans hc20_))))))))
  refine z_callV (As := [.int 0]) (rest := []) B (f_X10_has_3_0 G l Φ8 sz x h_16) (cwV 1 B.1.2.2.2.2 gX8_forgetTemplatesWith_X10_has rfl rfl rfl (by decide +kernel) ⟨Nat.le_of_ble_eq_true rfl, Nat.le_of_ble_eq_true rfl⟩) h_16 rfl rfl rfl rfl (Nat.le_of_ble_eq_true rfl) dX8_forgetTemplatesWith_16 ⟨Nat.le_of_ble_eq_true rfl, Nat.le_of_ble_eq_true rfl⟩ (fun v8 Φ9 sz8 st8 hp8 hs8 => ?_)
  obtain ⟨rfl, hq8, fr8⟩ := hp8
  replace hq8 : sz8 = sz := hq8
  subst sz8
  replace hs8 : st8 = [.int 0] := hs8
  subst st8
  refine z_if_eq (tgt := 29) B dX8_forgetTemplatesWith_19 rfl (fun c_8 => ?_) (fun h9 => absurd (by decide) h9)
  refine z_iinc (k := 0) (v := 4) (lv' := [(2, .int 4), (0, .ref (x + 74)), (1, .int 0)]) B dX8_forgetTemplatesWith_29 rfl rfl (Nat.le_of_ble_eq_true rfl) rfl ?_
  refine z_goto (tgt := 2) B dX8_forgetTemplatesWith_32 rfl ?_
  refine z_iload_n B dX8_forgetTemplatesWith_2 rfl 0 rfl ?_
  refine z_iconst (v := 4) B dX8_forgetTemplatesWith_3 rfl ?_
  refine z_icmp_ge (tgt := 35) B dX8_forgetTemplatesWith_4 rfl (fun c_9 => ?_) (fun h9 => absurd (by decide) h9)
  have h_17 : Φ9 (x + 78) = some (ai_ G 4 (upd (fun _ => 0) (0 : Int32).toNatClampNeg 0)) := ((fr8 (x + 78)).trans ((fr7 (x + 78)).trans ((fr6 (x + 78)).trans ((fr5 (x + 78)).trans ((fr4 (x + 78)).trans ((fr3 (x + 78)).trans h_4))))))
  exact z_ret_v B dX8_forgetTemplatesWith_35 ⟨rfl, rfl, (fun b9 h9a => ((fr8 b9).trans ((fr7 b9).trans ((fr6 b9).trans ((fr5 b9).trans ((fr4 b9).trans ((fr3 b9).trans ((fset_fr hΦ1 h9a).trans ((fr2 b9).trans ((fr1 b9).trans rfl)))))))))), h_17⟩

set_option maxHeartbeats 4000000 in
set_option maxRecDepth 100000 in
theorem f_X11_setSupport_0_0 (G : EnvG) (l : Launch) (Φ : Hm) (sz : Nat) (x : Nat) (hc0_ : Φ x = some (o_ 13 [.ref (x + 1), .ref (x + 3), .ref (x + 24), .ref (x + 46), .ref (x + 74), .ref (x + 80), .ref (x + 132), .ref (x + 121)])) (hc3_ : Φ (x + 3) = some (o_ 3 [.ref (x + 4), .ref (x + 5), .ref (x + 6), .ref (x + 7), .int 1, .int 511])) (hc6_ : Φ (x + 6) = some (aq_ G 4 4 (va_up (va_up (va_up (va_up (fun _ => none) (0 : Int32).toNatClampNeg (some (x + 8))) (1 : Int32).toNatClampNeg (some (x + 12))) (2 : Int32).toNatClampNeg (some (x + 16))) (3 : Int32).toNatClampNeg (some (x + 20))))) (hc7_ : Φ (x + 7) = some (aq_ G 4 4 (va_up (va_up (va_up (va_up (fun _ => none) (0 : Int32).toNatClampNeg (some (x + 10))) (1 : Int32).toNatClampNeg (some (x + 14))) (2 : Int32).toNatClampNeg (some (x + 18))) (3 : Int32).toNatClampNeg (some (x + 22))))) (hc8_ : Φ (x + 8) = some (o_ 12 [.ref (x + 9), .int 9, .int 511, .int 29])) (hc9_ : Φ (x + 9) = some (ai_ G 9 (upd (upd (upd (upd (upd (upd (upd (upd (upd (fun _ => 0) (0 : Int32).toNatClampNeg 0) (1 : Int32).toNatClampNeg 1) (2 : Int32).toNatClampNeg 2) (3 : Int32).toNatClampNeg 3) (4 : Int32).toNatClampNeg 4) (5 : Int32).toNatClampNeg 5) (6 : Int32).toNatClampNeg 6) (7 : Int32).toNatClampNeg 7) (8 : Int32).toNatClampNeg 8))) (hc10_ : Φ (x + 10) = some (o_ 12 [.ref (x + 11), .int 9, .int 511, .int 29])) (hc11_ : Φ (x + 11) = some (ai_ G 9 (upd (upd (upd (upd (upd (upd (upd (upd (upd (fun _ => 0) (0 : Int32).toNatClampNeg 0) (1 : Int32).toNatClampNeg 1) (2 : Int32).toNatClampNeg 2) (3 : Int32).toNatClampNeg 3) (4 : Int32).toNatClampNeg 4) (5 : Int32).toNatClampNeg 5) (6 : Int32).toNatClampNeg 6) (7 : Int32).toNatClampNeg 7) (8 : Int32).toNatClampNeg 8))) (hc12_ : Φ (x + 12) = some (o_ 12 [.ref (x + 13), .int 0, .int 0, .int 0])) (hc14_ : Φ (x + 14) = some (o_ 12 [.ref (x + 15), .int 0, .int 0, .int 0])) (hc16_ : Φ (x + 16) = some (o_ 12 [.ref (x + 17), .int 0, .int 0, .int 0])) (hc18_ : Φ (x + 18) = some (o_ 12 [.ref (x + 19), .int 0, .int 0, .int 0])) (hc20_ : Φ (x + 20) = some (o_ 12 [.ref (x + 21), .int 0, .int 0, .int 0])) (hc22_ : Φ (x + 22) = some (o_ 12 [.ref (x + 23), .int 0, .int 0, .int 0])) (hc74_ : Φ (x + 74) = some (o_ 10 [.ref (x + 3), .ref (x + 46), .ref (x + 75), .ref (x + 77), .int 0, .ref (x + 78), .ref (x + 79), .int 0, .long 0, .int 0])) (hc78_ : Φ (x + 78) = some (ai_ G 4 (fun _ => 0))) (hna : G.2.2.2 ≤ x) : Ct G l yX11_setSupport wsX11_setSupport ({ frames := 3, cells := 0, slots := 0, locals := 67 }) 0 0 [.ref x, .int 0, .int 0] Φ sz (fun v Φ1 sz1 => v = some (.int 1) ∧ ∀ b9 : Nat, x + 149 ≤ b9 → Φ1 b9 = Φ b9) := by
  refine Ct.of (cc := cX11_setSupport) (maxL := 4) (ret := (some .boolean)) (by decide) rfl (Nat.le_of_ble_eq_true rfl) ?_
  intro p9 e9 s9 m9 w9 t9 k9 B
  show Z p9 l e9 _ s9 m9 _ w9 t9 k9 _ G 4 0 [(0, .ref x), (1, .int 0), (2, .int 0)] [] Φ sz 0 0
  refine z_iload_n B dX11_setSupport_0 rfl 1 rfl ?_
  refine z_if_lt (tgt := 10) B dX11_setSupport_1 rfl (fun h9 => absurd h9 (by decide)) (fun c_1 => ?_)
  refine z_iload_n B dX11_setSupport_4 rfl 1 rfl ?_
  refine z_bipush (v := 9) B dX11_setSupport_5 rfl ?_
  refine z_icmp_lt (tgt := 18) B dX11_setSupport_7 rfl (fun c_2 => ?_) (fun h9 => absurd (by decide) h9)
  refine z_aload_n B dX11_setSupport_18 rfl 0 rfl ?_
  refine z_get (ref := "FlowExporter") (C := RX11) (T := TX11) (N := 8) (ci := 13) (v := .ref (x + 3)) B (by decide +kernel) rfl 1 (by decide) (by decide +kernel) rfl hc0_ rfl dX11_setSupport_19 ?_
  refine z_get (ref := "FlowExporter$Config") (C := RX1) (T := TX1) (N := 6) (ci := 3) (v := .int 511) B (by decide +kernel) rfl 5 (by decide) (by decide +kernel) rfl hc3_ rfl dX11_setSupport_22 ?_
  refine z_iload_n B dX11_setSupport_25 rfl 1 rfl ?_
  refine z_ishr B dX11_setSupport_26 ?_
  refine z_top (st1 := [.int 511]) (congrArg (fun w9 : Int32 => ([.int w9] : List Value)) (show ((511 : Int32) >>> ((0 : Int32) &&& (31 : Int32)) : Int32) = 511 by decide +kernel)) ?_
  refine z_iconst (v := 1) B dX11_setSupport_27 rfl ?_
  refine z_iand B dX11_setSupport_28 ?_
  refine z_top (st1 := [.int 1]) (congrArg (fun w9 : Int32 => ([.int w9] : List Value)) (show (511 &&& 1 : Int32) = 1 by decide +kernel)) ?_
  refine z_iconst (v := 1) B dX11_setSupport_29 rfl ?_
  refine z_icmp_ne (tgt := 37) B dX11_setSupport_30 rfl (fun h9 => absurd (by decide) h9) (fun c_3 => ?_)
  refine z_iconst (v := 1) B dX11_setSupport_33 rfl ?_
  refine z_goto (tgt := 38) B dX11_setSupport_34 rfl ?_
  refine z_istore_n (lv' := [(3, .int 1), (0, .ref x), (1, .int 0), (2, .int 0)]) B dX11_setSupport_38 rfl (Nat.le_of_ble_eq_true rfl) rfl ?_
  refine z_iload_n B dX11_setSupport_39 rfl 0 rfl ?_
  refine z_iload_n B dX11_setSupport_40 rfl 3 rfl ?_
  refine z_icmp_eq (tgt := 70) B dX11_setSupport_41 rfl (fun h9 => absurd h9 (by decide)) (fun c_4 => ?_)
  refine z_aload_n B dX11_setSupport_44 rfl 1 rfl ?_
  refine z_get (ref := "FlowExporter") (C := RX11) (T := TX11) (N := 8) (ci := 13) (v := .ref (x + 3)) B (by decide +kernel) rfl 1 (by decide) (by decide +kernel) rfl hc0_ rfl dX11_setSupport_45 ?_
  refine z_aload_n B dX11_setSupport_48 rfl 1 rfl ?_
  refine z_get (ref := "FlowExporter") (C := RX11) (T := TX11) (N := 8) (ci := 13) (v := .ref (x + 3)) B (by decide +kernel) rfl 1 (by decide) (by decide +kernel) rfl hc0_ rfl dX11_setSupport_49 ?_
  refine z_get (ref := "FlowExporter$Config") (C := RX1) (T := TX1) (N := 6) (ci := 3) (v := .int 511) B (by decide +kernel) rfl 5 (by decide) (by decide +kernel) rfl hc3_ rfl dX11_setSupport_52 ?_
  refine z_iconst (v := 1) B dX11_setSupport_55 rfl ?_
  refine z_iload_n B dX11_setSupport_56 rfl 2 rfl ?_
  refine z_ishl B dX11_setSupport_57 ?_
  refine z_top (st1 := [.int 1, .int 511, .ref (x + 3)]) (congrArg (fun w9 : Int32 => ([.int w9, .int 511, .ref (x + 3)] : List Value)) (show ((1 : Int32) <<< ((0 : Int32) &&& (31 : Int32)) : Int32) = 1 by decide +kernel)) ?_
  refine z_ixor B dX11_setSupport_58 ?_
  refine z_top (st1 := [.int 510, .ref (x + 3)]) (congrArg (fun w9 : Int32 => ([.int w9, .ref (x + 3)] : List Value)) (show (511 ^^^ 1 : Int32) = 510 by decide +kernel)) ?_
  refine z_callV (As := [.int 510]) (rest := []) B (f_X1_support_s0 G l Φ sz x hc3_ hc6_ hc7_ hc8_ hc9_ hc10_ hc11_ hc12_ hc14_ hc16_ hc18_ hc20_ hc22_ hna) (cwV 1 B.1.2.2.2.2 gX11_setSupport_X1_support rfl rfl rfl (by decide +kernel) ⟨Nat.le_of_ble_eq_true rfl, Nat.le_of_ble_eq_true rfl⟩) hc3_ rfl rfl rfl rfl (Nat.le_of_ble_eq_true rfl) dX11_setSupport_59 ⟨Nat.le_of_ble_eq_true rfl, Nat.le_of_ble_eq_true rfl⟩ (fun v1 Φ1 sz1 st1 hp1 hs1 => ?_)
  obtain ⟨rfl, hq1, fr1, h_1, h_2, h_3, h_4, h_5, h_6⟩ := hp1
  replace hq1 : sz1 = sz := hq1
  subst sz1
  replace hs1 : st1 = [] := hs1
  subst st1
  have h_7 : Φ1 (x + 10) = some (o_ 12 [.ref (x + 11), .int 8, .int 510, .int 28]) := h_1
  have h_8 : Φ1 (x + 11) = some (ai_ G 9 (upd (upd (upd (upd (upd (upd (upd (upd (upd (upd (upd (upd (upd (upd (upd (upd (upd (fun _ => 0) (0 : Int32).toNatClampNeg 0) (1 : Int32).toNatClampNeg 1) (2 : Int32).toNatClampNeg 2) (3 : Int32).toNatClampNeg 3) (4 : Int32).toNatClampNeg 4) (5 : Int32).toNatClampNeg 5) (6 : Int32).toNatClampNeg 6) (7 : Int32).toNatClampNeg 7) (8 : Int32).toNatClampNeg 8) (0 : Int32).toNatClampNeg 1) (1 : Int32).toNatClampNeg 2) (2 : Int32).toNatClampNeg 3) (3 : Int32).toNatClampNeg 4) (4 : Int32).toNatClampNeg 5) (5 : Int32).toNatClampNeg 6) (6 : Int32).toNatClampNeg 7) (7 : Int32).toNatClampNeg 8)) := h_2
  have h_9 : Φ1 (x + 14) = some (o_ 12 [.ref (x + 15), .int 0, .int 0, .int 0]) := h_3
  have h_10 : Φ1 (x + 18) = some (o_ 12 [.ref (x + 19), .int 0, .int 0, .int 0]) := h_4
  have h_11 : Φ1 (x + 22) = some (o_ 12 [.ref (x + 23), .int 0, .int 0, .int 0]) := h_5
  have h_12 : Φ1 (x + 3) = some (o_ 3 [.ref (x + 4), .ref (x + 5), .ref (x + 6), .ref (x + 7), .int 1, .int 510]) := h_6
  refine z_aload_n B dX11_setSupport_62 rfl 1 rfl ?_
  have h_13 : Φ1 x = some (o_ 13 [.ref (x + 1), .ref (x + 3), .ref (x + 24), .ref (x + 46), .ref (x + 74), .ref (x + 80), .ref (x + 132), .ref (x + 121)]) := ((fr1 x (ne_off (x := x) (i := 0) (j := 10) rfl) (ne_off (x := x) (i := 0) (j := 11) rfl) (ne_off (x := x) (i := 0) (j := 14) rfl) (ne_off (x := x) (i := 0) (j := 18) rfl) (ne_off (x := x) (i := 0) (j := 22) rfl) (ne_off (x := x) (i := 0) (j := 3) rfl)).trans hc0_)
  refine z_get (ref := "FlowExporter") (C := RX11) (T := TX11) (N := 8) (ci := 13) (v := .ref (x + 74)) B (by decide +kernel) rfl 4 (by decide) (by decide +kernel) rfl h_13 rfl dX11_setSupport_63 ?_
  refine z_iload_n B dX11_setSupport_66 rfl 2 rfl ?_
  have h_14 : Φ1 (x + 6) = some (aq_ G 4 4 (va_up (va_up (va_up (va_up (fun _ => none) (0 : Int32).toNatClampNeg (some (x + 8))) (1 : Int32).toNatClampNeg (some (x + 12))) (2 : Int32).toNatClampNeg (some (x + 16))) (3 : Int32).toNatClampNeg (some (x + 20)))) := ((fr1 (x + 6) (ne_off (x := x) (i := 6) (j := 10) rfl) (ne_off (x := x) (i := 6) (j := 11) rfl) (ne_off (x := x) (i := 6) (j := 14) rfl) (ne_off (x := x) (i := 6) (j := 18) rfl) (ne_off (x := x) (i := 6) (j := 22) rfl) (ne_off (x := x) (i := 6) (j := 3) rfl)).trans hc6_)
  have h_15 : Φ1 (x + 8) = some (o_ 12 [.ref (x + 9), .int 9, .int 511, .int 29]) := ((fr1 (x + 8) (ne_off (x := x) (i := 8) (j := 10) rfl) (ne_off (x := x) (i := 8) (j := 11) rfl) (ne_off (x := x) (i := 8) (j := 14) rfl) (ne_off (x := x) (i := 8) (j := 18) rfl) (ne_off (x := x) (i := 8) (j := 22) rfl) (ne_off (x := x) (i := 8) (j := 3) rfl)).trans hc8_)
  have h_16 : Φ1 (x + 12) = some (o_ 12 [.ref (x + 13), .int 0, .int 0, .int 0]) := ((fr1 (x + 12) (ne_off (x := x) (i := 12) (j := 10) rfl) (ne_off (x := x) (i := 12) (j := 11) rfl) (ne_off (x := x) (i := 12) (j := 14) rfl) (ne_off (x := x) (i := 12) (j := 18) rfl) (ne_off (x := x) (i := 12) (j := 22) rfl) (ne_off (x := x) (i := 12) (j := 3) rfl)).trans hc12_)
  have h_17 : Φ1 (x + 16) = some (o_ 12 [.ref (x + 17), .int 0, .int 0, .int 0]) := ((fr1 (x + 16) (ne_off (x := x) (i := 16) (j := 10) rfl) (ne_off (x := x) (i := 16) (j := 11) rfl) (ne_off (x := x) (i := 16) (j := 14) rfl) (ne_off (x := x) (i := 16) (j := 18) rfl) (ne_off (x := x) (i := 16) (j := 22) rfl) (ne_off (x := x) (i := 16) (j := 3) rfl)).trans hc16_)
  have h_18 : Φ1 (x + 20) = some (o_ 12 [.ref (x + 21), .int 0, .int 0, .int 0]) := ((fr1 (x + 20) (ne_off (x := x) (i := 20) (j := 10) rfl) (ne_off (x := x) (i := 20) (j := 11) rfl) (ne_off (x := x) (i := 20) (j := 14) rfl) (ne_off (x := x) (i := 20) (j := 18) rfl) (ne_off (x := x) (i := 20) (j := 22) rfl) (ne_off (x := x) (i := 20) (j := 3) rfl)).trans hc20_)
  have h_19 : Φ1 (x + 74) = some (o_ 10 [.ref (x + 3), .ref (x + 46), .ref (x + 75), .ref (x + 77), .int 0, .ref (x + 78), .ref (x + 79), .int 0, .long 0, .int 0]) := ((fr1 (x + 74) (ne_off (x := x) (i := 74) (j := 10) rfl) (ne_off (x := x) (i := 74) (j := 11) rfl) (ne_off (x := x) (i := 74) (j := 14) rfl) (ne_off (x := x) (i := 74) (j := 18) rfl) (ne_off (x := x) (i := 74) (j := 22) rfl) (ne_off (x := x) (i := 74) (j := 3) rfl)).trans hc74_)
  have h_20 : Φ1 (x + 78) = some (ai_ G 4 (fun _ => 0)) := ((fr1 (x + 78) (ne_off (x := x) (i := 78) (j := 10) rfl) (ne_off (x := x) (i := 78) (j := 11) rfl) (ne_off (x := x) (i := 78) (j := 14) rfl) (ne_off (x := x) (i := 78) (j := 18) rfl) (ne_off (x := x) (i := 78) (j := 22) rfl) (ne_off (x := x) (i := 78) (j := 3) rfl)).trans hc78_)
  refine z_callV (As := [.int 0]) (rest := []) B (f_X8_forget_0 G l Φ1 sz x 510 h_12 h_14 h_15 h_16 h_17 h_18 h_19 h_20 hna) (cwV 1 B.1.2.2.2.2 gX11_setSupport_X8_forgetTemplatesWith rfl rfl rfl (by decide +kernel) ⟨Nat.le_of_ble_eq_true rfl, Nat.le_of_ble_eq_true rfl⟩) h_19 rfl rfl rfl rfl (Nat.le_of_ble_eq_true rfl) dX11_setSupport_67 ⟨Nat.le_of_ble_eq_true rfl, Nat.le_of_ble_eq_true rfl⟩ (fun v2 Φ2 sz2 st2 hp2 hs2 => ?_)
  obtain ⟨rfl, hq2, fr2, h_21⟩ := hp2
  replace hq2 : sz2 = sz := hq2
  subst sz2
  replace hs2 : st2 = [] := hs2
  subst st2
  have h_22 : Φ2 (x + 78) = some (ai_ G 4 (upd (fun _ => 0) (0 : Int32).toNatClampNeg 0)) := h_21
  refine z_iload_n B dX11_setSupport_70 rfl 0 rfl ?_
  exact z_ret_z B dX11_setSupport_71 (by decide) ⟨rfl, fun b9 h9 => ((fr2 b9 (Nat.ne_of_gt (Nat.lt_of_lt_of_le (lt_off (x := x) (i := 78) (j := 149) rfl) h9))).trans ((fr1 b9 (Nat.ne_of_gt (Nat.lt_of_lt_of_le (lt_off (x := x) (i := 10) (j := 149) rfl) h9)) (Nat.ne_of_gt (Nat.lt_of_lt_of_le (lt_off (x := x) (i := 11) (j := 149) rfl) h9)) (Nat.ne_of_gt (Nat.lt_of_lt_of_le (lt_off (x := x) (i := 14) (j := 149) rfl) h9)) (Nat.ne_of_gt (Nat.lt_of_lt_of_le (lt_off (x := x) (i := 18) (j := 149) rfl) h9)) (Nat.ne_of_gt (Nat.lt_of_lt_of_le (lt_off (x := x) (i := 22) (j := 149) rfl) h9)) (Nat.ne_of_gt (Nat.lt_of_lt_of_le (lt_off (x := x) (i := 3) (j := 149) rfl) h9))).trans rfl))⟩

set_option maxHeartbeats 4000000 in
set_option maxRecDepth 100000 in
theorem f_X11_setSupport_0_1 (G : EnvG) (l : Launch) (Φ : Hm) (sz : Nat) (x : Nat) (hc0_ : Φ x = some (o_ 13 [.ref (x + 1), .ref (x + 3), .ref (x + 24), .ref (x + 46), .ref (x + 74), .ref (x + 80), .ref (x + 132), .ref (x + 121)])) (hc3_ : Φ (x + 3) = some (o_ 3 [.ref (x + 4), .ref (x + 5), .ref (x + 6), .ref (x + 7), .int 1, .int 511])) : Ct G l yX11_setSupport wsX11_setSupport ({ frames := 0, cells := 0, slots := 0, locals := 0 }) 0 0 [.ref x, .int 0, .int 1] Φ sz (fun v Φ1 sz1 => v = some (.int 1) ∧ ∀ b9 : Nat, x + 149 ≤ b9 → Φ1 b9 = Φ b9) := by
  refine Ct.of (cc := cX11_setSupport) (maxL := 4) (ret := (some .boolean)) (by decide) rfl (Nat.le_of_ble_eq_true rfl) ?_
  intro p9 e9 s9 m9 w9 t9 k9 B
  show Z p9 l e9 _ s9 m9 _ w9 t9 k9 _ G 4 0 [(0, .ref x), (1, .int 0), (2, .int 1)] [] Φ sz 0 0
  refine z_iload_n B dX11_setSupport_0 rfl 1 rfl ?_
  refine z_if_lt (tgt := 10) B dX11_setSupport_1 rfl (fun h9 => absurd h9 (by decide)) (fun c_1 => ?_)
  refine z_iload_n B dX11_setSupport_4 rfl 1 rfl ?_
  refine z_bipush (v := 9) B dX11_setSupport_5 rfl ?_
  refine z_icmp_lt (tgt := 18) B dX11_setSupport_7 rfl (fun c_2 => ?_) (fun h9 => absurd (by decide) h9)
  refine z_aload_n B dX11_setSupport_18 rfl 0 rfl ?_
  refine z_get (ref := "FlowExporter") (C := RX11) (T := TX11) (N := 8) (ci := 13) (v := .ref (x + 3)) B (by decide +kernel) rfl 1 (by decide) (by decide +kernel) rfl hc0_ rfl dX11_setSupport_19 ?_
  refine z_get (ref := "FlowExporter$Config") (C := RX1) (T := TX1) (N := 6) (ci := 3) (v := .int 511) B (by decide +kernel) rfl 5 (by decide) (by decide +kernel) rfl hc3_ rfl dX11_setSupport_22 ?_
  refine z_iload_n B dX11_setSupport_25 rfl 1 rfl ?_
  refine z_ishr B dX11_setSupport_26 ?_
  refine z_top (st1 := [.int 511]) (congrArg (fun w9 : Int32 => ([.int w9] : List Value)) (show ((511 : Int32) >>> ((0 : Int32) &&& (31 : Int32)) : Int32) = 511 by decide +kernel)) ?_
  refine z_iconst (v := 1) B dX11_setSupport_27 rfl ?_
  refine z_iand B dX11_setSupport_28 ?_
  refine z_top (st1 := [.int 1]) (congrArg (fun w9 : Int32 => ([.int w9] : List Value)) (show (511 &&& 1 : Int32) = 1 by decide +kernel)) ?_
  refine z_iconst (v := 1) B dX11_setSupport_29 rfl ?_
  refine z_icmp_ne (tgt := 37) B dX11_setSupport_30 rfl (fun h9 => absurd (by decide) h9) (fun c_3 => ?_)
  refine z_iconst (v := 1) B dX11_setSupport_33 rfl ?_
  refine z_goto (tgt := 38) B dX11_setSupport_34 rfl ?_
  refine z_istore_n (lv' := [(3, .int 1), (0, .ref x), (1, .int 0), (2, .int 1)]) B dX11_setSupport_38 rfl (Nat.le_of_ble_eq_true rfl) rfl ?_
  refine z_iload_n B dX11_setSupport_39 rfl 0 rfl ?_
  refine z_iload_n B dX11_setSupport_40 rfl 3 rfl ?_
  refine z_icmp_eq (tgt := 70) B dX11_setSupport_41 rfl (fun c_4 => ?_) (fun h9 => absurd (by decide) h9)
  refine z_iload_n B dX11_setSupport_70 rfl 0 rfl ?_
  exact z_ret_z B dX11_setSupport_71 (by decide) ⟨rfl, fun b9 h9 => rfl⟩

set_option maxHeartbeats 4000000 in
set_option maxRecDepth 100000 in
theorem f_X10_has_0_1 (G : EnvG) (l : Launch) (Φ : Hm) (sz : Nat) (x : Nat) (hc8_ : Φ (x + 8) = some (o_ 12 [.ref (x + 9), .int 9, .int 511, .int 29])) : Ct G l yX10_has wsX10_has ({ frames := 0, cells := 0, slots := 0, locals := 0 }) 0 0 [.ref (x + 8), .int 1] Φ sz (fun v Φ1 sz1 => v = some (.int 1) ∧ sz1 = sz ∧ (∀ b9 : Nat, Φ1 b9 = Φ b9)) := by
  refine Ct.of (cc := cX10_has) (maxL := 2) (ret := (some .boolean)) (by decide) rfl (Nat.le_of_ble_eq_true rfl) ?_
  intro p9 e9 s9 m9 w9 t9 k9 B
  show Z p9 l e9 _ s9 m9 _ w9 t9 k9 _ G 2 0 [(0, .ref (x + 8)), (1, .int 1)] [] Φ sz 0 0
  refine z_iload_n B dX10_has_0 rfl 1 rfl ?_
  refine z_if_lt (tgt := 26) B dX10_has_1 rfl (fun h9 => absurd h9 (by decide)) (fun c_1 => ?_)
  refine z_iload_n B dX10_has_4 rfl 1 rfl ?_
  refine z_bipush (v := 9) B dX10_has_5 rfl ?_
  refine z_icmp_ge (tgt := 26) B dX10_has_7 rfl (fun h9 => absurd h9 (by decide)) (fun c_2 => ?_)
  refine z_aload_n B dX10_has_10 rfl 0 rfl ?_
  refine z_get (ref := "FlowExporter$Template") (C := RX10) (T := TX10) (N := 4) (ci := 12) (v := .int 511) B (by decide +kernel) rfl 2 (by decide) (by decide +kernel) rfl hc8_ rfl dX10_has_11 ?_
  refine z_iload_n B dX10_has_14 rfl 1 rfl ?_
  refine z_ishr B dX10_has_15 ?_
  refine z_top (st1 := [.int 255]) (congrArg (fun w9 : Int32 => ([.int w9] : List Value)) (show ((511 : Int32) >>> ((1 : Int32) &&& (31 : Int32)) : Int32) = 255 by decide +kernel)) ?_
  refine z_iconst (v := 1) B dX10_has_16 rfl ?_
  refine z_iand B dX10_has_17 ?_
  refine z_top (st1 := [.int 1]) (congrArg (fun w9 : Int32 => ([.int w9] : List Value)) (show (255 &&& 1 : Int32) = 1 by decide +kernel)) ?_
  refine z_iconst (v := 1) B dX10_has_18 rfl ?_
  refine z_icmp_ne (tgt := 26) B dX10_has_19 rfl (fun h9 => absurd (by decide) h9) (fun c_3 => ?_)
  refine z_iconst (v := 1) B dX10_has_22 rfl ?_
  refine z_goto (tgt := 27) B dX10_has_23 rfl ?_
  exact z_ret_z B dX10_has_27 (by decide) ⟨rfl, rfl, (fun b9 => rfl)⟩

set_option maxHeartbeats 4000000 in
set_option maxRecDepth 100000 in
theorem f_X10_has_1_1 (G : EnvG) (l : Launch) (Φ : Hm) (sz : Nat) (x : Nat) (hc12_ : Φ (x + 12) = some (o_ 12 [.ref (x + 13), .int 0, .int 0, .int 0])) : Ct G l yX10_has wsX10_has ({ frames := 0, cells := 0, slots := 0, locals := 0 }) 0 0 [.ref (x + 12), .int 1] Φ sz (fun v Φ1 sz1 => v = some (.int 0) ∧ sz1 = sz ∧ (∀ b9 : Nat, Φ1 b9 = Φ b9)) := by
  refine Ct.of (cc := cX10_has) (maxL := 2) (ret := (some .boolean)) (by decide) rfl (Nat.le_of_ble_eq_true rfl) ?_
  intro p9 e9 s9 m9 w9 t9 k9 B
  show Z p9 l e9 _ s9 m9 _ w9 t9 k9 _ G 2 0 [(0, .ref (x + 12)), (1, .int 1)] [] Φ sz 0 0
  refine z_iload_n B dX10_has_0 rfl 1 rfl ?_
  refine z_if_lt (tgt := 26) B dX10_has_1 rfl (fun h9 => absurd h9 (by decide)) (fun c_1 => ?_)
  refine z_iload_n B dX10_has_4 rfl 1 rfl ?_
  refine z_bipush (v := 9) B dX10_has_5 rfl ?_
  refine z_icmp_ge (tgt := 26) B dX10_has_7 rfl (fun h9 => absurd h9 (by decide)) (fun c_2 => ?_)
  refine z_aload_n B dX10_has_10 rfl 0 rfl ?_
  refine z_get (ref := "FlowExporter$Template") (C := RX10) (T := TX10) (N := 4) (ci := 12) (v := .int 0) B (by decide +kernel) rfl 2 (by decide) (by decide +kernel) rfl hc12_ rfl dX10_has_11 ?_
  refine z_iload_n B dX10_has_14 rfl 1 rfl ?_
  refine z_ishr B dX10_has_15 ?_
  refine z_top (st1 := [.int 0]) (congrArg (fun w9 : Int32 => ([.int w9] : List Value)) (show ((0 : Int32) >>> ((1 : Int32) &&& (31 : Int32)) : Int32) = 0 by decide +kernel)) ?_
  refine z_iconst (v := 1) B dX10_has_16 rfl ?_
  refine z_iand B dX10_has_17 ?_
  refine z_top (st1 := [.int 0]) (congrArg (fun w9 : Int32 => ([.int w9] : List Value)) (show (0 &&& 1 : Int32) = 0 by decide +kernel)) ?_
  refine z_iconst (v := 1) B dX10_has_18 rfl ?_
  refine z_icmp_ne (tgt := 26) B dX10_has_19 rfl (fun c_3 => ?_) (fun h9 => absurd h9 (by decide))
  refine z_iconst (v := 0) B dX10_has_26 rfl ?_
  exact z_ret_z B dX10_has_27 (by decide) ⟨rfl, rfl, (fun b9 => rfl)⟩

set_option maxHeartbeats 4000000 in
set_option maxRecDepth 100000 in
theorem f_X10_has_2_1 (G : EnvG) (l : Launch) (Φ : Hm) (sz : Nat) (x : Nat) (hc16_ : Φ (x + 16) = some (o_ 12 [.ref (x + 17), .int 0, .int 0, .int 0])) : Ct G l yX10_has wsX10_has ({ frames := 0, cells := 0, slots := 0, locals := 0 }) 0 0 [.ref (x + 16), .int 1] Φ sz (fun v Φ1 sz1 => v = some (.int 0) ∧ sz1 = sz ∧ (∀ b9 : Nat, Φ1 b9 = Φ b9)) := by
  refine Ct.of (cc := cX10_has) (maxL := 2) (ret := (some .boolean)) (by decide) rfl (Nat.le_of_ble_eq_true rfl) ?_
  intro p9 e9 s9 m9 w9 t9 k9 B
  show Z p9 l e9 _ s9 m9 _ w9 t9 k9 _ G 2 0 [(0, .ref (x + 16)), (1, .int 1)] [] Φ sz 0 0
  refine z_iload_n B dX10_has_0 rfl 1 rfl ?_
  refine z_if_lt (tgt := 26) B dX10_has_1 rfl (fun h9 => absurd h9 (by decide)) (fun c_1 => ?_)
  refine z_iload_n B dX10_has_4 rfl 1 rfl ?_
  refine z_bipush (v := 9) B dX10_has_5 rfl ?_
  refine z_icmp_ge (tgt := 26) B dX10_has_7 rfl (fun h9 => absurd h9 (by decide)) (fun c_2 => ?_)
  refine z_aload_n B dX10_has_10 rfl 0 rfl ?_
  refine z_get (ref := "FlowExporter$Template") (C := RX10) (T := TX10) (N := 4) (ci := 12) (v := .int 0) B (by decide +kernel) rfl 2 (by decide) (by decide +kernel) rfl hc16_ rfl dX10_has_11 ?_
  refine z_iload_n B dX10_has_14 rfl 1 rfl ?_
  refine z_ishr B dX10_has_15 ?_
  refine z_top (st1 := [.int 0]) (congrArg (fun w9 : Int32 => ([.int w9] : List Value)) (show ((0 : Int32) >>> ((1 : Int32) &&& (31 : Int32)) : Int32) = 0 by decide +kernel)) ?_
  refine z_iconst (v := 1) B dX10_has_16 rfl ?_
  refine z_iand B dX10_has_17 ?_
  refine z_top (st1 := [.int 0]) (congrArg (fun w9 : Int32 => ([.int w9] : List Value)) (show (0 &&& 1 : Int32) = 0 by decide +kernel)) ?_
  refine z_iconst (v := 1) B dX10_has_18 rfl ?_
  refine z_icmp_ne (tgt := 26) B dX10_has_19 rfl (fun c_3 => ?_) (fun h9 => absurd h9 (by decide))
  refine z_iconst (v := 0) B dX10_has_26 rfl ?_
  exact z_ret_z B dX10_has_27 (by decide) ⟨rfl, rfl, (fun b9 => rfl)⟩

set_option maxHeartbeats 4000000 in
set_option maxRecDepth 100000 in
theorem f_X10_has_3_1 (G : EnvG) (l : Launch) (Φ : Hm) (sz : Nat) (x : Nat) (hc20_ : Φ (x + 20) = some (o_ 12 [.ref (x + 21), .int 0, .int 0, .int 0])) : Ct G l yX10_has wsX10_has ({ frames := 0, cells := 0, slots := 0, locals := 0 }) 0 0 [.ref (x + 20), .int 1] Φ sz (fun v Φ1 sz1 => v = some (.int 0) ∧ sz1 = sz ∧ (∀ b9 : Nat, Φ1 b9 = Φ b9)) := by
  refine Ct.of (cc := cX10_has) (maxL := 2) (ret := (some .boolean)) (by decide) rfl (Nat.le_of_ble_eq_true rfl) ?_
  intro p9 e9 s9 m9 w9 t9 k9 B
  show Z p9 l e9 _ s9 m9 _ w9 t9 k9 _ G 2 0 [(0, .ref (x + 20)), (1, .int 1)] [] Φ sz 0 0
  refine z_iload_n B dX10_has_0 rfl 1 rfl ?_
  refine z_if_lt (tgt := 26) B dX10_has_1 rfl (fun h9 => absurd h9 (by decide)) (fun c_1 => ?_)
  refine z_iload_n B dX10_has_4 rfl 1 rfl ?_
  refine z_bipush (v := 9) B dX10_has_5 rfl ?_
  refine z_icmp_ge (tgt := 26) B dX10_has_7 rfl (fun h9 => absurd h9 (by decide)) (fun c_2 => ?_)
  refine z_aload_n B dX10_has_10 rfl 0 rfl ?_
  refine z_get (ref := "FlowExporter$Template") (C := RX10) (T := TX10) (N := 4) (ci := 12) (v := .int 0) B (by decide +kernel) rfl 2 (by decide) (by decide +kernel) rfl hc20_ rfl dX10_has_11 ?_
  refine z_iload_n B dX10_has_14 rfl 1 rfl ?_
  refine z_ishr B dX10_has_15 ?_
  refine z_top (st1 := [.int 0]) (congrArg (fun w9 : Int32 => ([.int w9] : List Value)) (show ((0 : Int32) >>> ((1 : Int32) &&& (31 : Int32)) : Int32) = 0 by decide +kernel)) ?_
  refine z_iconst (v := 1) B dX10_has_16 rfl ?_
  refine z_iand B dX10_has_17 ?_
  refine z_top (st1 := [.int 0]) (congrArg (fun w9 : Int32 => ([.int w9] : List Value)) (show (0 &&& 1 : Int32) = 0 by decide +kernel)) ?_
  refine z_iconst (v := 1) B dX10_has_18 rfl ?_
  refine z_icmp_ne (tgt := 26) B dX10_has_19 rfl (fun c_3 => ?_) (fun h9 => absurd h9 (by decide))
  refine z_iconst (v := 0) B dX10_has_26 rfl ?_
  exact z_ret_z B dX10_has_27 (by decide) ⟨rfl, rfl, (fun b9 => rfl)⟩

set_option maxHeartbeats 4000000 in
set_option maxRecDepth 100000 in
theorem f_X8_forget_1 (G : EnvG) (l : Launch) (Φ : Hm) (sz : Nat) (x : Nat) (u : Int32) (hc3_ : Φ (x + 3) = some (o_ 3 [.ref (x + 4), .ref (x + 5), .ref (x + 6), .ref (x + 7), .int 1, .int u])) (hc6_ : Φ (x + 6) = some (aq_ G 4 4 (va_up (va_up (va_up (va_up (fun _ => none) (0 : Int32).toNatClampNeg (some (x + 8))) (1 : Int32).toNatClampNeg (some (x + 12))) (2 : Int32).toNatClampNeg (some (x + 16))) (3 : Int32).toNatClampNeg (some (x + 20))))) (hc8_ : Φ (x + 8) = some (o_ 12 [.ref (x + 9), .int 9, .int 511, .int 29])) (hc12_ : Φ (x + 12) = some (o_ 12 [.ref (x + 13), .int 0, .int 0, .int 0])) (hc16_ : Φ (x + 16) = some (o_ 12 [.ref (x + 17), .int 0, .int 0, .int 0])) (hc20_ : Φ (x + 20) = some (o_ 12 [.ref (x + 21), .int 0, .int 0, .int 0])) (hc74_ : Φ (x + 74) = some (o_ 10 [.ref (x + 3), .ref (x + 46), .ref (x + 75), .ref (x + 77), .int 0, .ref (x + 78), .ref (x + 79), .int 0, .long 0, .int 0])) (hc78_ : Φ (x + 78) = some (ai_ G 4 (fun _ => 0))) (hna : G.2.2.2 ≤ x) : Ct G l yX8_forgetTemplatesWith wsX8_forgetTemplatesWith ({ frames := 1, cells := 0, slots := 0, locals := 21 }) 0 0 [.ref (x + 74), .int 1] Φ sz (fun v Φ1 sz1 => v = none ∧ sz1 = sz ∧ (∀ b9 : Nat, b9 ≠ x + 78 → Φ1 b9 = Φ b9) ∧ Φ1 (x + 78) = some (ai_ G 4 (upd (fun _ => 0) (0 : Int32).toNatClampNeg 0))) := by
  refine Ct.of (cc := cX8_forgetTemplatesWith) (maxL := 3) (ret := none) (by decide) rfl (Nat.le_of_ble_eq_true rfl) ?_
  intro p9 e9 s9 m9 w9 t9 k9 B
  show Z p9 l e9 _ s9 m9 _ w9 t9 k9 _ G 3 0 [(0, .ref (x + 74)), (1, .int 1)] [] Φ sz 0 0
  refine z_iconst (v := 0) B dX8_forgetTemplatesWith_0 rfl ?_
  refine z_istore_n (lv' := [(2, .int 0), (0, .ref (x + 74)), (1, .int 1)]) B dX8_forgetTemplatesWith_1 rfl (Nat.le_of_ble_eq_true rfl) rfl ?_
  refine z_iload_n B dX8_forgetTemplatesWith_2 rfl 0 rfl ?_
  refine z_iconst (v := 4) B dX8_forgetTemplatesWith_3 rfl ?_
  refine z_icmp_ge (tgt := 35) B dX8_forgetTemplatesWith_4 rfl (fun h9 => absurd h9 (by decide)) (fun c_1 => ?_)
  refine z_aload_n B dX8_forgetTemplatesWith_7 rfl 1 rfl ?_
  refine z_get (ref := "FlowExporter$Sender") (C := RX8) (T := TX8) (N := 10) (ci := 10) (v := .ref (x + 3)) B (by decide +kernel) rfl 0 (by decide) (by decide +kernel) rfl hc74_ rfl dX8_forgetTemplatesWith_8 ?_
  refine z_iload_n B dX8_forgetTemplatesWith_11 rfl 0 rfl ?_
  refine z_callV (As := [.int 0]) (rest := []) B (f_X1_template_u0 G l Φ sz x u hc3_ hc6_) (cwV 1 B.1.2.2.2.2 gX8_forgetTemplatesWith_X1_template rfl rfl rfl (by decide +kernel) ⟨Nat.le_of_ble_eq_true rfl, Nat.le_of_ble_eq_true rfl⟩) hc3_ rfl rfl rfl rfl (Nat.le_of_ble_eq_true rfl) dX8_forgetTemplatesWith_12 ⟨Nat.le_of_ble_eq_true rfl, Nat.le_of_ble_eq_true rfl⟩ (fun v1 Φ1 sz1 st1 hp1 hs1 => ?_)
  obtain ⟨rfl, hq1, fr1⟩ := hp1
  replace hq1 : sz1 = sz := hq1
  subst sz1
  replace hs1 : st1 = [.ref (x + 8)] := hs1
  subst st1
  refine z_iload_n B dX8_forgetTemplatesWith_15 rfl 2 rfl ?_
  have h_1 : Φ1 (x + 8) = some (o_ 12 [.ref (x + 9), .int 9, .int 511, .int 29]) := ((fr1 (x + 8)).trans hc8_)
  refine z_callV (As := [.int 1]) (rest := []) B (f_X10_has_0_1 G l Φ1 sz x h_1) (cwV 1 B.1.2.2.2.2 gX8_forgetTemplatesWith_X10_has rfl rfl rfl (by decide +kernel) ⟨Nat.le_of_ble_eq_true rfl, Nat.le_of_ble_eq_true rfl⟩) h_1 rfl rfl rfl rfl (Nat.le_of_ble_eq_true rfl) dX8_forgetTemplatesWith_16 ⟨Nat.le_of_ble_eq_true rfl, Nat.le_of_ble_eq_true rfl⟩ (fun v2 Φ2 sz2 st2 hp2 hs2 => ?_)
  obtain ⟨rfl, hq2, fr2⟩ := hp2
  replace hq2 : sz2 = sz := hq2
  subst sz2
  replace hs2 : st2 = [.int 1] := hs2
  subst st2
  refine z_if_eq (tgt := 29) B dX8_forgetTemplatesWith_19 rfl (fun h9 => absurd h9 (by decide)) (fun c_2 => ?_)
  refine z_aload_n B dX8_forgetTemplatesWith_22 rfl 1 rfl ?_
  have h_2 : Φ2 (x + 74) = some (o_ 10 [.ref (x + 3), .ref (x + 46), .ref (x + 75), .ref (x + 77), .int 0, .ref (x + 78), .ref (x + 79), .int 0, .long 0, .int 0]) := ((fr2 (x + 74)).trans ((fr1 (x + 74)).trans hc74_))
  refine z_get (ref := "FlowExporter$Sender") (C := RX8) (T := TX8) (N := 10) (ci := 10) (v := .ref (x + 78)) B (by decide +kernel) rfl 5 (by decide) (by decide +kernel) rfl h_2 rfl dX8_forgetTemplatesWith_23 ?_
  refine z_iload_n B dX8_forgetTemplatesWith_26 rfl 0 rfl ?_
  refine z_iconst (v := 0) B dX8_forgetTemplatesWith_27 rfl ?_
  have h_3 : Φ2 (x + 78) = some (ai_ G 4 (fun _ => 0)) := ((fr2 (x + 78)).trans ((fr1 (x + 78)).trans hc78_))
  refine z_iast B h_3 (Nat.le_trans hna (Nat.le_add_right x 78)) (vin rfl) dX8_forgetTemplatesWith_28 (fun Φ3 hΦ1 => ?_)
  have h_4 : Φ3 (x + 78) = some (ai_ G 4 (upd (fun _ => 0) (0 : Int32).toNatClampNeg 0)) := fset_at hΦ1
  refine z_iinc (k := 0) (v := 1) (lv' := [(2, .int 1), (0, .ref (x + 74)), (1, .int 1)]) B dX8_forgetTemplatesWith_29 rfl rfl (Nat.le_of_ble_eq_true rfl) rfl ?_
  refine z_goto (tgt := 2) B dX8_forgetTemplatesWith_32 rfl ?_
  refine z_iload_n B dX8_forgetTemplatesWith_2 rfl 0 rfl ?_
  refine z_iconst (v := 4) B dX8_forgetTemplatesWith_3 rfl ?_
  refine z_icmp_ge (tgt := 35) B dX8_forgetTemplatesWith_4 rfl (fun h9 => absurd h9 (by decide)) (fun c_3 => ?_)
  refine z_aload_n B dX8_forgetTemplatesWith_7 rfl 1 rfl ?_
  have h_5 : Φ3 (x + 74) = some (o_ 10 [.ref (x + 3), .ref (x + 46), .ref (x + 75), .ref (x + 77), .int 0, .ref (x + 78), .ref (x + 79), .int 0, .long 0, .int 0]) := ((fset_fr hΦ1 (ne_off (x := x) (i := 74) (j := 78) rfl)).trans h_2)
  refine z_get (ref := "FlowExporter$Sender") (C := RX8) (T := TX8) (N := 10) (ci := 10) (v := .ref (x + 3)) B (by decide +kernel) rfl 0 (by decide) (by decide +kernel) rfl h_5 rfl dX8_forgetTemplatesWith_8 ?_
  refine z_iload_n B dX8_forgetTemplatesWith_11 rfl 0 rfl ?_
  have h_6 : Φ3 (x + 3) = some (o_ 3 [.ref (x + 4), .ref (x + 5), .ref (x + 6), .ref (x + 7), .int 1, .int u]) := ((fset_fr hΦ1 (ne_off (x := x) (i := 3) (j := 78) rfl)).trans ((fr2 (x + 3)).trans ((fr1 (x + 3)).trans hc3_)))
  have h_7 : Φ3 (x + 6) = some (aq_ G 4 4 (va_up (va_up (va_up (va_up (fun _ => none) (0 : Int32).toNatClampNeg (some (x + 8))) (1 : Int32).toNatClampNeg (some (x + 12))) (2 : Int32).toNatClampNeg (some (x + 16))) (3 : Int32).toNatClampNeg (some (x + 20)))) := ((fset_fr hΦ1 (ne_off (x := x) (i := 6) (j := 78) rfl)).trans ((fr2 (x + 6)).trans ((fr1 (x + 6)).trans hc6_)))
  refine z_callV (As := [.int 1]) (rest := []) B (f_X1_template_u1 G l Φ3 sz x u h_6 h_7) (cwV 1 B.1.2.2.2.2 gX8_forgetTemplatesWith_X1_template rfl rfl rfl (by decide +kernel) ⟨Nat.le_of_ble_eq_true rfl, Nat.le_of_ble_eq_true rfl⟩) h_6 rfl rfl rfl rfl (Nat.le_of_ble_eq_true rfl) dX8_forgetTemplatesWith_12 ⟨Nat.le_of_ble_eq_true rfl, Nat.le_of_ble_eq_true rfl⟩ (fun v3 Φ4 sz3 st3 hp3 hs3 => ?_)
  obtain ⟨rfl, hq3, fr3⟩ := hp3
  replace hq3 : sz3 = sz := hq3
  subst sz3
  replace hs3 : st3 = [.ref (x + 12)] := hs3
  subst st3
  refine z_iload_n B dX8_forgetTemplatesWith_15 rfl 2 rfl ?_
  have h_8 : Φ4 (x + 12) = some (o_ 12 [.ref (x + 13), .int 0, .int 0, .int 0]) := ((fr3 (x + 12)).trans ((fset_fr hΦ1 (ne_off (x := x) (i := 12) (j := 78) rfl)).trans ((fr2 (x + 12)).trans ((fr1 (x + 12)).trans hc12_))))
  refine z_callV (As := [.int 1]) (rest := []) B (f_X10_has_1_1 G l Φ4 sz x h_8) (cwV 1 B.1.2.2.2.2 gX8_forgetTemplatesWith_X10_has rfl rfl rfl (by decide +kernel) ⟨Nat.le_of_ble_eq_true rfl, Nat.le_of_ble_eq_true rfl⟩) h_8 rfl rfl rfl rfl (Nat.le_of_ble_eq_true rfl) dX8_forgetTemplatesWith_16 ⟨Nat.le_of_ble_eq_true rfl, Nat.le_of_ble_eq_true rfl⟩ (fun v4 Φ5 sz4 st4 hp4 hs4 => ?_)
  obtain ⟨rfl, hq4, fr4⟩ := hp4
  replace hq4 : sz4 = sz := hq4
  subst sz4
  replace hs4 : st4 = [.int 0] := hs4
  subst st4
  refine z_if_eq (tgt := 29) B dX8_forgetTemplatesWith_19 rfl (fun c_4 => ?_) (fun h9 => absurd (by decide) h9)
  refine z_iinc (k := 0) (v := 2) (lv' := [(2, .int 2), (0, .ref (x + 74)), (1, .int 1)]) B dX8_forgetTemplatesWith_29 rfl rfl (Nat.le_of_ble_eq_true rfl) rfl ?_
  refine z_goto (tgt := 2) B dX8_forgetTemplatesWith_32 rfl ?_
  refine z_iload_n B dX8_forgetTemplatesWith_2 rfl 0 rfl ?_
  refine z_iconst (v := 4) B dX8_forgetTemplatesWith_3 rfl ?_
  refine z_icmp_ge (tgt := 35) B dX8_forgetTemplatesWith_4 rfl (fun h9 => absurd h9 (by decide)) (fun c_5 => ?_)
  refine z_aload_n B dX8_forgetTemplatesWith_7 rfl 1 rfl ?_
  have h_9 : Φ5 (x + 74) = some (o_ 10 [.ref (x + 3), .ref (x + 46), .ref (x + 75), .ref (x + 77), .int 0, .ref (x + 78), .ref (x + 79), .int 0, .long 0, .int 0]) := ((fr4 (x + 74)).trans ((fr3 (x + 74)).trans h_5))
  refine z_get (ref := "FlowExporter$Sender") (C := RX8) (T := TX8) (N := 10) (ci := 10) (v := .ref (x + 3)) B (by decide +kernel) rfl 0 (by decide) (by decide +kernel) rfl h_9 rfl dX8_forgetTemplatesWith_8 ?_
  refine z_iload_n B dX8_forgetTemplatesWith_11 rfl 0 rfl ?_
  have h_10 : Φ5 (x + 3) = some (o_ 3 [.ref (x + 4), .ref (x + 5), .ref (x + 6), .ref (x + 7), .int 1, .int u]) := ((fr4 (x + 3)).trans ((fr3 (x + 3)).trans h_6))
  have h_11 : Φ5 (x + 6) = some (aq_ G 4 4 (va_up (va_up (va_up (va_up (fun _ => none) (0 : Int32).toNatClampNeg (some (x + 8))) (1 : Int32).toNatClampNeg (some (x + 12))) (2 : Int32).toNatClampNeg (some (x + 16))) (3 : Int32).toNatClampNeg (some (x + 20)))) := ((fr4 (x + 6)).trans ((fr3 (x + 6)).trans h_7))
  refine z_callV (As := [.int 2]) (rest := []) B (f_X1_template_u2 G l Φ5 sz x u h_10 h_11) (cwV 1 B.1.2.2.2.2 gX8_forgetTemplatesWith_X1_template rfl rfl rfl (by decide +kernel) ⟨Nat.le_of_ble_eq_true rfl, Nat.le_of_ble_eq_true rfl⟩) h_10 rfl rfl rfl rfl (Nat.le_of_ble_eq_true rfl) dX8_forgetTemplatesWith_12 ⟨Nat.le_of_ble_eq_true rfl, Nat.le_of_ble_eq_true rfl⟩ (fun v5 Φ6 sz5 st5 hp5 hs5 => ?_)
  obtain ⟨rfl, hq5, fr5⟩ := hp5
  replace hq5 : sz5 = sz := hq5
  subst sz5
  replace hs5 : st5 = [.ref (x + 16)] := hs5
  subst st5
  refine z_iload_n B dX8_forgetTemplatesWith_15 rfl 2 rfl ?_
  have h_12 : Φ6 (x + 16) = some (o_ 12 [.ref (x + 17), .int 0, .int 0, .int 0]) := ((fr5 (x + 16)).trans ((fr4 (x + 16)).trans ((fr3 (x + 16)).trans ((fset_fr hΦ1 (ne_off (x := x) (i := 16) (j := 78) rfl)).trans ((fr2 (x + 16)).trans ((fr1 (x + 16)).trans hc16_))))))
  refine z_callV (As := [.int 1]) (rest := []) B (f_X10_has_2_1 G l Φ6 sz x h_12) (cwV 1 B.1.2.2.2.2 gX8_forgetTemplatesWith_X10_has rfl rfl rfl (by decide +kernel) ⟨Nat.le_of_ble_eq_true rfl, Nat.le_of_ble_eq_true rfl⟩) h_12 rfl rfl rfl rfl (Nat.le_of_ble_eq_true rfl) dX8_forgetTemplatesWith_16 ⟨Nat.le_of_ble_eq_true rfl, Nat.le_of_ble_eq_true rfl⟩ (fun v6 Φ7 sz6 st6 hp6 hs6 => ?_)
  obtain ⟨rfl, hq6, fr6⟩ := hp6
  replace hq6 : sz6 = sz := hq6
  subst sz6
  replace hs6 : st6 = [.int 0] := hs6
  subst st6
  refine z_if_eq (tgt := 29) B dX8_forgetTemplatesWith_19 rfl (fun c_6 => ?_) (fun h9 => absurd (by decide) h9)
  refine z_iinc (k := 0) (v := 3) (lv' := [(2, .int 3), (0, .ref (x + 74)), (1, .int 1)]) B dX8_forgetTemplatesWith_29 rfl rfl (Nat.le_of_ble_eq_true rfl) rfl ?_
  refine z_goto (tgt := 2) B dX8_forgetTemplatesWith_32 rfl ?_
  refine z_iload_n B dX8_forgetTemplatesWith_2 rfl 0 rfl ?_
  refine z_iconst (v := 4) B dX8_forgetTemplatesWith_3 rfl ?_
  refine z_icmp_ge (tgt := 35) B dX8_forgetTemplatesWith_4 rfl (fun h9 => absurd h9 (by decide)) (fun c_7 => ?_)
  refine z_aload_n B dX8_forgetTemplatesWith_7 rfl 1 rfl ?_
  have h_13 : Φ7 (x + 74) = some (o_ 10 [.ref (x + 3), .ref (x + 46), .ref (x + 75), .ref (x + 77), .int 0, .ref (x + 78), .ref (x + 79), .int 0, .long 0, .int 0]) := ((fr6 (x + 74)).trans ((fr5 (x + 74)).trans h_9))
  refine z_get (ref := "FlowExporter$Sender") (C := RX8) (T := TX8) (N := 10) (ci := 10) (v := .ref (x + 3)) B (by decide +kernel) rfl 0 (by decide) (by decide +kernel) rfl h_13 rfl dX8_forgetTemplatesWith_8 ?_
  refine z_iload_n B dX8_forgetTemplatesWith_11 rfl 0 rfl ?_
  have h_14 : Φ7 (x + 3) = some (o_ 3 [.ref (x + 4), .ref (x + 5), .ref (x + 6), .ref (x + 7), .int 1, .int u]) := ((fr6 (x + 3)).trans ((fr5 (x + 3)).trans h_10))
  have h_15 : Φ7 (x + 6) = some (aq_ G 4 4 (va_up (va_up (va_up (va_up (fun _ => none) (0 : Int32).toNatClampNeg (some (x + 8))) (1 : Int32).toNatClampNeg (some (x + 12))) (2 : Int32).toNatClampNeg (some (x + 16))) (3 : Int32).toNatClampNeg (some (x + 20)))) := ((fr6 (x + 6)).trans ((fr5 (x + 6)).trans h_11))
  refine z_callV (As := [.int 3]) (rest := []) B (f_X1_template_u3 G l Φ7 sz x u h_14 h_15) (cwV 1 B.1.2.2.2.2 gX8_forgetTemplatesWith_X1_template rfl rfl rfl (by decide +kernel) ⟨Nat.le_of_ble_eq_true rfl, Nat.le_of_ble_eq_true rfl⟩) h_14 rfl rfl rfl rfl (Nat.le_of_ble_eq_true rfl) dX8_forgetTemplatesWith_12 ⟨Nat.le_of_ble_eq_true rfl, Nat.le_of_ble_eq_true rfl⟩ (fun v7 Φ8 sz7 st7 hp7 hs7 => ?_)
  obtain ⟨rfl, hq7, fr7⟩ := hp7
  replace hq7 : sz7 = sz := hq7
  subst sz7
  replace hs7 : st7 = [.ref (x + 20)] := hs7
  subst st7
  refine z_iload_n B dX8_forgetTemplatesWith_15 rfl 2 rfl ?_
  have h_16 : Φ8 (x + 20) = some (o_ 12 [.ref (x + 21), .int 0, .int 0, .int 0]) := ((fr7 (x + 20)).trans ((fr6 (x + 20)).trans ((fr5 (x + 20)).trans ((fr4 (x + 20)).trans ((fr3 (x + 20)).trans ((fset_fr hΦ1 (ne_off (x := x) (i := 20) (j := 78) rfl)).trans ((fr2 (x + 20)).trans ((fr1 (x + 20)).trans hc20_))))))))
  refine z_callV (As := [.int 1]) (rest := []) B (f_X10_has_3_1 G l Φ8 sz x h_16) (cwV 1 B.1.2.2.2.2 gX8_forgetTemplatesWith_X10_has rfl rfl rfl (by decide +kernel) ⟨Nat.le_of_ble_eq_true rfl, Nat.le_of_ble_eq_true rfl⟩) h_16 rfl rfl rfl rfl (Nat.le_of_ble_eq_true rfl) dX8_forgetTemplatesWith_16 ⟨Nat.le_of_ble_eq_true rfl, Nat.le_of_ble_eq_true rfl⟩ (fun v8 Φ9 sz8 st8 hp8 hs8 => ?_)
  obtain ⟨rfl, hq8, fr8⟩ := hp8
  replace hq8 : sz8 = sz := hq8
  subst sz8
  replace hs8 : st8 = [.int 0] := hs8
  subst st8
  refine z_if_eq (tgt := 29) B dX8_forgetTemplatesWith_19 rfl (fun c_8 => ?_) (fun h9 => absurd (by decide) h9)
  refine z_iinc (k := 0) (v := 4) (lv' := [(2, .int 4), (0, .ref (x + 74)), (1, .int 1)]) B dX8_forgetTemplatesWith_29 rfl rfl (Nat.le_of_ble_eq_true rfl) rfl ?_
  refine z_goto (tgt := 2) B dX8_forgetTemplatesWith_32 rfl ?_
  refine z_iload_n B dX8_forgetTemplatesWith_2 rfl 0 rfl ?_
  refine z_iconst (v := 4) B dX8_forgetTemplatesWith_3 rfl ?_
  refine z_icmp_ge (tgt := 35) B dX8_forgetTemplatesWith_4 rfl (fun c_9 => ?_) (fun h9 => absurd (by decide) h9)
  have h_17 : Φ9 (x + 78) = some (ai_ G 4 (upd (fun _ => 0) (0 : Int32).toNatClampNeg 0)) := ((fr8 (x + 78)).trans ((fr7 (x + 78)).trans ((fr6 (x + 78)).trans ((fr5 (x + 78)).trans ((fr4 (x + 78)).trans ((fr3 (x + 78)).trans h_4))))))
  exact z_ret_v B dX8_forgetTemplatesWith_35 ⟨rfl, rfl, (fun b9 h9a => ((fr8 b9).trans ((fr7 b9).trans ((fr6 b9).trans ((fr5 b9).trans ((fr4 b9).trans ((fr3 b9).trans ((fset_fr hΦ1 h9a).trans ((fr2 b9).trans ((fr1 b9).trans rfl)))))))))), h_17⟩

set_option maxHeartbeats 4000000 in
set_option maxRecDepth 100000 in
theorem f_X11_setSupport_1_0 (G : EnvG) (l : Launch) (Φ : Hm) (sz : Nat) (x : Nat) (hc0_ : Φ x = some (o_ 13 [.ref (x + 1), .ref (x + 3), .ref (x + 24), .ref (x + 46), .ref (x + 74), .ref (x + 80), .ref (x + 132), .ref (x + 121)])) (hc3_ : Φ (x + 3) = some (o_ 3 [.ref (x + 4), .ref (x + 5), .ref (x + 6), .ref (x + 7), .int 1, .int 511])) (hc6_ : Φ (x + 6) = some (aq_ G 4 4 (va_up (va_up (va_up (va_up (fun _ => none) (0 : Int32).toNatClampNeg (some (x + 8))) (1 : Int32).toNatClampNeg (some (x + 12))) (2 : Int32).toNatClampNeg (some (x + 16))) (3 : Int32).toNatClampNeg (some (x + 20))))) (hc7_ : Φ (x + 7) = some (aq_ G 4 4 (va_up (va_up (va_up (va_up (fun _ => none) (0 : Int32).toNatClampNeg (some (x + 10))) (1 : Int32).toNatClampNeg (some (x + 14))) (2 : Int32).toNatClampNeg (some (x + 18))) (3 : Int32).toNatClampNeg (some (x + 22))))) (hc8_ : Φ (x + 8) = some (o_ 12 [.ref (x + 9), .int 9, .int 511, .int 29])) (hc9_ : Φ (x + 9) = some (ai_ G 9 (upd (upd (upd (upd (upd (upd (upd (upd (upd (fun _ => 0) (0 : Int32).toNatClampNeg 0) (1 : Int32).toNatClampNeg 1) (2 : Int32).toNatClampNeg 2) (3 : Int32).toNatClampNeg 3) (4 : Int32).toNatClampNeg 4) (5 : Int32).toNatClampNeg 5) (6 : Int32).toNatClampNeg 6) (7 : Int32).toNatClampNeg 7) (8 : Int32).toNatClampNeg 8))) (hc10_ : Φ (x + 10) = some (o_ 12 [.ref (x + 11), .int 9, .int 511, .int 29])) (hc11_ : Φ (x + 11) = some (ai_ G 9 (upd (upd (upd (upd (upd (upd (upd (upd (upd (fun _ => 0) (0 : Int32).toNatClampNeg 0) (1 : Int32).toNatClampNeg 1) (2 : Int32).toNatClampNeg 2) (3 : Int32).toNatClampNeg 3) (4 : Int32).toNatClampNeg 4) (5 : Int32).toNatClampNeg 5) (6 : Int32).toNatClampNeg 6) (7 : Int32).toNatClampNeg 7) (8 : Int32).toNatClampNeg 8))) (hc12_ : Φ (x + 12) = some (o_ 12 [.ref (x + 13), .int 0, .int 0, .int 0])) (hc14_ : Φ (x + 14) = some (o_ 12 [.ref (x + 15), .int 0, .int 0, .int 0])) (hc16_ : Φ (x + 16) = some (o_ 12 [.ref (x + 17), .int 0, .int 0, .int 0])) (hc18_ : Φ (x + 18) = some (o_ 12 [.ref (x + 19), .int 0, .int 0, .int 0])) (hc20_ : Φ (x + 20) = some (o_ 12 [.ref (x + 21), .int 0, .int 0, .int 0])) (hc22_ : Φ (x + 22) = some (o_ 12 [.ref (x + 23), .int 0, .int 0, .int 0])) (hc74_ : Φ (x + 74) = some (o_ 10 [.ref (x + 3), .ref (x + 46), .ref (x + 75), .ref (x + 77), .int 0, .ref (x + 78), .ref (x + 79), .int 0, .long 0, .int 0])) (hc78_ : Φ (x + 78) = some (ai_ G 4 (fun _ => 0))) (hna : G.2.2.2 ≤ x) : Ct G l yX11_setSupport wsX11_setSupport ({ frames := 3, cells := 0, slots := 0, locals := 67 }) 0 0 [.ref x, .int 1, .int 0] Φ sz (fun v Φ1 sz1 => v = some (.int 1) ∧ ∀ b9 : Nat, x + 149 ≤ b9 → Φ1 b9 = Φ b9) := by
  refine Ct.of (cc := cX11_setSupport) (maxL := 4) (ret := (some .boolean)) (by decide) rfl (Nat.le_of_ble_eq_true rfl) ?_
  intro p9 e9 s9 m9 w9 t9 k9 B
  show Z p9 l e9 _ s9 m9 _ w9 t9 k9 _ G 4 0 [(0, .ref x), (1, .int 1), (2, .int 0)] [] Φ sz 0 0
  refine z_iload_n B dX11_setSupport_0 rfl 1 rfl ?_
  refine z_if_lt (tgt := 10) B dX11_setSupport_1 rfl (fun h9 => absurd h9 (by decide)) (fun c_1 => ?_)
  refine z_iload_n B dX11_setSupport_4 rfl 1 rfl ?_
  refine z_bipush (v := 9) B dX11_setSupport_5 rfl ?_
  refine z_icmp_lt (tgt := 18) B dX11_setSupport_7 rfl (fun c_2 => ?_) (fun h9 => absurd (by decide) h9)
  refine z_aload_n B dX11_setSupport_18 rfl 0 rfl ?_
  refine z_get (ref := "FlowExporter") (C := RX11) (T := TX11) (N := 8) (ci := 13) (v := .ref (x + 3)) B (by decide +kernel) rfl 1 (by decide) (by decide +kernel) rfl hc0_ rfl dX11_setSupport_19 ?_
  refine z_get (ref := "FlowExporter$Config") (C := RX1) (T := TX1) (N := 6) (ci := 3) (v := .int 511) B (by decide +kernel) rfl 5 (by decide) (by decide +kernel) rfl hc3_ rfl dX11_setSupport_22 ?_
  refine z_iload_n B dX11_setSupport_25 rfl 1 rfl ?_
  refine z_ishr B dX11_setSupport_26 ?_
  refine z_top (st1 := [.int 255]) (congrArg (fun w9 : Int32 => ([.int w9] : List Value)) (show ((511 : Int32) >>> ((1 : Int32) &&& (31 : Int32)) : Int32) = 255 by decide +kernel)) ?_
  refine z_iconst (v := 1) B dX11_setSupport_27 rfl ?_
  refine z_iand B dX11_setSupport_28 ?_
  refine z_top (st1 := [.int 1]) (congrArg (fun w9 : Int32 => ([.int w9] : List Value)) (show (255 &&& 1 : Int32) = 1 by decide +kernel)) ?_
  refine z_iconst (v := 1) B dX11_setSupport_29 rfl ?_
  refine z_icmp_ne (tgt := 37) B dX11_setSupport_30 rfl (fun h9 => absurd (by decide) h9) (fun c_3 => ?_)
  refine z_iconst (v := 1) B dX11_setSupport_33 rfl ?_
  refine z_goto (tgt := 38) B dX11_setSupport_34 rfl ?_
  refine z_istore_n (lv' := [(3, .int 1), (0, .ref x), (1, .int 1), (2, .int 0)]) B dX11_setSupport_38 rfl (Nat.le_of_ble_eq_true rfl) rfl ?_
  refine z_iload_n B dX11_setSupport_39 rfl 0 rfl ?_
  refine z_iload_n B dX11_setSupport_40 rfl 3 rfl ?_
  refine z_icmp_eq (tgt := 70) B dX11_setSupport_41 rfl (fun h9 => absurd h9 (by decide)) (fun c_4 => ?_)
  refine z_aload_n B dX11_setSupport_44 rfl 1 rfl ?_
  refine z_get (ref := "FlowExporter") (C := RX11) (T := TX11) (N := 8) (ci := 13) (v := .ref (x + 3)) B (by decide +kernel) rfl 1 (by decide) (by decide +kernel) rfl hc0_ rfl dX11_setSupport_45 ?_
  refine z_aload_n B dX11_setSupport_48 rfl 1 rfl ?_
  refine z_get (ref := "FlowExporter") (C := RX11) (T := TX11) (N := 8) (ci := 13) (v := .ref (x + 3)) B (by decide +kernel) rfl 1 (by decide) (by decide +kernel) rfl hc0_ rfl dX11_setSupport_49 ?_
  refine z_get (ref := "FlowExporter$Config") (C := RX1) (T := TX1) (N := 6) (ci := 3) (v := .int 511) B (by decide +kernel) rfl 5 (by decide) (by decide +kernel) rfl hc3_ rfl dX11_setSupport_52 ?_
  refine z_iconst (v := 1) B dX11_setSupport_55 rfl ?_
  refine z_iload_n B dX11_setSupport_56 rfl 2 rfl ?_
  refine z_ishl B dX11_setSupport_57 ?_
  refine z_top (st1 := [.int 2, .int 511, .ref (x + 3)]) (congrArg (fun w9 : Int32 => ([.int w9, .int 511, .ref (x + 3)] : List Value)) (show ((1 : Int32) <<< ((1 : Int32) &&& (31 : Int32)) : Int32) = 2 by decide +kernel)) ?_
  refine z_ixor B dX11_setSupport_58 ?_
  refine z_top (st1 := [.int 509, .ref (x + 3)]) (congrArg (fun w9 : Int32 => ([.int w9, .ref (x + 3)] : List Value)) (show (511 ^^^ 2 : Int32) = 509 by decide +kernel)) ?_
  refine z_callV (As := [.int 509]) (rest := []) B (f_X1_support_s1 G l Φ sz x hc3_ hc6_ hc7_ hc8_ hc9_ hc10_ hc11_ hc12_ hc14_ hc16_ hc18_ hc20_ hc22_ hna) (cwV 1 B.1.2.2.2.2 gX11_setSupport_X1_support rfl rfl rfl (by decide +kernel) ⟨Nat.le_of_ble_eq_true rfl, Nat.le_of_ble_eq_true rfl⟩) hc3_ rfl rfl rfl rfl (Nat.le_of_ble_eq_true rfl) dX11_setSupport_59 ⟨Nat.le_of_ble_eq_true rfl, Nat.le_of_ble_eq_true rfl⟩ (fun v1 Φ1 sz1 st1 hp1 hs1 => ?_)
  obtain ⟨rfl, hq1, fr1, h_1, h_2, h_3, h_4, h_5, h_6⟩ := hp1
  replace hq1 : sz1 = sz := hq1
  subst sz1
  replace hs1 : st1 = [] := hs1
  subst st1
  have h_7 : Φ1 (x + 10) = some (o_ 12 [.ref (x + 11), .int 8, .int 509, .int 28]) := h_1
  have h_8 : Φ1 (x + 11) = some (ai_ G 9 (upd (upd (upd (upd (upd (upd (upd (upd (upd (upd (upd (upd (upd (upd (upd (upd (upd (fun _ => 0) (0 : Int32).toNatClampNeg 0) (1 : Int32).toNatClampNeg 1) (2 : Int32).toNatClampNeg 2) (3 : Int32).toNatClampNeg 3) (4 : Int32).toNatClampNeg 4) (5 : Int32).toNatClampNeg 5) (6 : Int32).toNatClampNeg 6) (7 : Int32).toNatClampNeg 7) (8 : Int32).toNatClampNeg 8) (0 : Int32).toNatClampNeg 0) (1 : Int32).toNatClampNeg 2) (2 : Int32).toNatClampNeg 3) (3 : Int32).toNatClampNeg 4) (4 : Int32).toNatClampNeg 5) (5 : Int32).toNatClampNeg 6) (6 : Int32).toNatClampNeg 7) (7 : Int32).toNatClampNeg 8)) := h_2
  have h_9 : Φ1 (x + 14) = some (o_ 12 [.ref (x + 15), .int 0, .int 0, .int 0]) := h_3
  have h_10 : Φ1 (x + 18) = some (o_ 12 [.ref (x + 19), .int 0, .int 0, .int 0]) := h_4
  have h_11 : Φ1 (x + 22) = some (o_ 12 [.ref (x + 23), .int 0, .int 0, .int 0]) := h_5
  have h_12 : Φ1 (x + 3) = some (o_ 3 [.ref (x + 4), .ref (x + 5), .ref (x + 6), .ref (x + 7), .int 1, .int 509]) := h_6
  refine z_aload_n B dX11_setSupport_62 rfl 1 rfl ?_
  have h_13 : Φ1 x = some (o_ 13 [.ref (x + 1), .ref (x + 3), .ref (x + 24), .ref (x + 46), .ref (x + 74), .ref (x + 80), .ref (x + 132), .ref (x + 121)]) := ((fr1 x (ne_off (x := x) (i := 0) (j := 10) rfl) (ne_off (x := x) (i := 0) (j := 11) rfl) (ne_off (x := x) (i := 0) (j := 14) rfl) (ne_off (x := x) (i := 0) (j := 18) rfl) (ne_off (x := x) (i := 0) (j := 22) rfl) (ne_off (x := x) (i := 0) (j := 3) rfl)).trans hc0_)
  refine z_get (ref := "FlowExporter") (C := RX11) (T := TX11) (N := 8) (ci := 13) (v := .ref (x + 74)) B (by decide +kernel) rfl 4 (by decide) (by decide +kernel) rfl h_13 rfl dX11_setSupport_63 ?_
  refine z_iload_n B dX11_setSupport_66 rfl 2 rfl ?_
  have h_14 : Φ1 (x + 6) = some (aq_ G 4 4 (va_up (va_up (va_up (va_up (fun _ => none) (0 : Int32).toNatClampNeg (some (x + 8))) (1 : Int32).toNatClampNeg (some (x + 12))) (2 : Int32).toNatClampNeg (some (x + 16))) (3 : Int32).toNatClampNeg (some (x + 20)))) := ((fr1 (x + 6) (ne_off (x := x) (i := 6) (j := 10) rfl) (ne_off (x := x) (i := 6) (j := 11) rfl) (ne_off (x := x) (i := 6) (j := 14) rfl) (ne_off (x := x) (i := 6) (j := 18) rfl) (ne_off (x := x) (i := 6) (j := 22) rfl) (ne_off (x := x) (i := 6) (j := 3) rfl)).trans hc6_)
  have h_15 : Φ1 (x + 8) = some (o_ 12 [.ref (x + 9), .int 9, .int 511, .int 29]) := ((fr1 (x + 8) (ne_off (x := x) (i := 8) (j := 10) rfl) (ne_off (x := x) (i := 8) (j := 11) rfl) (ne_off (x := x) (i := 8) (j := 14) rfl) (ne_off (x := x) (i := 8) (j := 18) rfl) (ne_off (x := x) (i := 8) (j := 22) rfl) (ne_off (x := x) (i := 8) (j := 3) rfl)).trans hc8_)
  have h_16 : Φ1 (x + 12) = some (o_ 12 [.ref (x + 13), .int 0, .int 0, .int 0]) := ((fr1 (x + 12) (ne_off (x := x) (i := 12) (j := 10) rfl) (ne_off (x := x) (i := 12) (j := 11) rfl) (ne_off (x := x) (i := 12) (j := 14) rfl) (ne_off (x := x) (i := 12) (j := 18) rfl) (ne_off (x := x) (i := 12) (j := 22) rfl) (ne_off (x := x) (i := 12) (j := 3) rfl)).trans hc12_)
  have h_17 : Φ1 (x + 16) = some (o_ 12 [.ref (x + 17), .int 0, .int 0, .int 0]) := ((fr1 (x + 16) (ne_off (x := x) (i := 16) (j := 10) rfl) (ne_off (x := x) (i := 16) (j := 11) rfl) (ne_off (x := x) (i := 16) (j := 14) rfl) (ne_off (x := x) (i := 16) (j := 18) rfl) (ne_off (x := x) (i := 16) (j := 22) rfl) (ne_off (x := x) (i := 16) (j := 3) rfl)).trans hc16_)
  have h_18 : Φ1 (x + 20) = some (o_ 12 [.ref (x + 21), .int 0, .int 0, .int 0]) := ((fr1 (x + 20) (ne_off (x := x) (i := 20) (j := 10) rfl) (ne_off (x := x) (i := 20) (j := 11) rfl) (ne_off (x := x) (i := 20) (j := 14) rfl) (ne_off (x := x) (i := 20) (j := 18) rfl) (ne_off (x := x) (i := 20) (j := 22) rfl) (ne_off (x := x) (i := 20) (j := 3) rfl)).trans hc20_)
  have h_19 : Φ1 (x + 74) = some (o_ 10 [.ref (x + 3), .ref (x + 46), .ref (x + 75), .ref (x + 77), .int 0, .ref (x + 78), .ref (x + 79), .int 0, .long 0, .int 0]) := ((fr1 (x + 74) (ne_off (x := x) (i := 74) (j := 10) rfl) (ne_off (x := x) (i := 74) (j := 11) rfl) (ne_off (x := x) (i := 74) (j := 14) rfl) (ne_off (x := x) (i := 74) (j := 18) rfl) (ne_off (x := x) (i := 74) (j := 22) rfl) (ne_off (x := x) (i := 74) (j := 3) rfl)).trans hc74_)
  have h_20 : Φ1 (x + 78) = some (ai_ G 4 (fun _ => 0)) := ((fr1 (x + 78) (ne_off (x := x) (i := 78) (j := 10) rfl) (ne_off (x := x) (i := 78) (j := 11) rfl) (ne_off (x := x) (i := 78) (j := 14) rfl) (ne_off (x := x) (i := 78) (j := 18) rfl) (ne_off (x := x) (i := 78) (j := 22) rfl) (ne_off (x := x) (i := 78) (j := 3) rfl)).trans hc78_)
  refine z_callV (As := [.int 1]) (rest := []) B (f_X8_forget_1 G l Φ1 sz x 509 h_12 h_14 h_15 h_16 h_17 h_18 h_19 h_20 hna) (cwV 1 B.1.2.2.2.2 gX11_setSupport_X8_forgetTemplatesWith rfl rfl rfl (by decide +kernel) ⟨Nat.le_of_ble_eq_true rfl, Nat.le_of_ble_eq_true rfl⟩) h_19 rfl rfl rfl rfl (Nat.le_of_ble_eq_true rfl) dX11_setSupport_67 ⟨Nat.le_of_ble_eq_true rfl, Nat.le_of_ble_eq_true rfl⟩ (fun v2 Φ2 sz2 st2 hp2 hs2 => ?_)
  obtain ⟨rfl, hq2, fr2, h_21⟩ := hp2
  replace hq2 : sz2 = sz := hq2
  subst sz2
  replace hs2 : st2 = [] := hs2
  subst st2
  have h_22 : Φ2 (x + 78) = some (ai_ G 4 (upd (fun _ => 0) (0 : Int32).toNatClampNeg 0)) := h_21
  refine z_iload_n B dX11_setSupport_70 rfl 0 rfl ?_
  exact z_ret_z B dX11_setSupport_71 (by decide) ⟨rfl, fun b9 h9 => ((fr2 b9 (Nat.ne_of_gt (Nat.lt_of_lt_of_le (lt_off (x := x) (i := 78) (j := 149) rfl) h9))).trans ((fr1 b9 (Nat.ne_of_gt (Nat.lt_of_lt_of_le (lt_off (x := x) (i := 10) (j := 149) rfl) h9)) (Nat.ne_of_gt (Nat.lt_of_lt_of_le (lt_off (x := x) (i := 11) (j := 149) rfl) h9)) (Nat.ne_of_gt (Nat.lt_of_lt_of_le (lt_off (x := x) (i := 14) (j := 149) rfl) h9)) (Nat.ne_of_gt (Nat.lt_of_lt_of_le (lt_off (x := x) (i := 18) (j := 149) rfl) h9)) (Nat.ne_of_gt (Nat.lt_of_lt_of_le (lt_off (x := x) (i := 22) (j := 149) rfl) h9)) (Nat.ne_of_gt (Nat.lt_of_lt_of_le (lt_off (x := x) (i := 3) (j := 149) rfl) h9))).trans rfl))⟩

set_option maxHeartbeats 4000000 in
set_option maxRecDepth 100000 in
theorem f_X11_setSupport_1_1 (G : EnvG) (l : Launch) (Φ : Hm) (sz : Nat) (x : Nat) (hc0_ : Φ x = some (o_ 13 [.ref (x + 1), .ref (x + 3), .ref (x + 24), .ref (x + 46), .ref (x + 74), .ref (x + 80), .ref (x + 132), .ref (x + 121)])) (hc3_ : Φ (x + 3) = some (o_ 3 [.ref (x + 4), .ref (x + 5), .ref (x + 6), .ref (x + 7), .int 1, .int 511])) : Ct G l yX11_setSupport wsX11_setSupport ({ frames := 0, cells := 0, slots := 0, locals := 0 }) 0 0 [.ref x, .int 1, .int 1] Φ sz (fun v Φ1 sz1 => v = some (.int 1) ∧ ∀ b9 : Nat, x + 149 ≤ b9 → Φ1 b9 = Φ b9) := by
  refine Ct.of (cc := cX11_setSupport) (maxL := 4) (ret := (some .boolean)) (by decide) rfl (Nat.le_of_ble_eq_true rfl) ?_
  intro p9 e9 s9 m9 w9 t9 k9 B
  show Z p9 l e9 _ s9 m9 _ w9 t9 k9 _ G 4 0 [(0, .ref x), (1, .int 1), (2, .int 1)] [] Φ sz 0 0
  refine z_iload_n B dX11_setSupport_0 rfl 1 rfl ?_
  refine z_if_lt (tgt := 10) B dX11_setSupport_1 rfl (fun h9 => absurd h9 (by decide)) (fun c_1 => ?_)
  refine z_iload_n B dX11_setSupport_4 rfl 1 rfl ?_
  refine z_bipush (v := 9) B dX11_setSupport_5 rfl ?_
  refine z_icmp_lt (tgt := 18) B dX11_setSupport_7 rfl (fun c_2 => ?_) (fun h9 => absurd (by decide) h9)
  refine z_aload_n B dX11_setSupport_18 rfl 0 rfl ?_
  refine z_get (ref := "FlowExporter") (C := RX11) (T := TX11) (N := 8) (ci := 13) (v := .ref (x + 3)) B (by decide +kernel) rfl 1 (by decide) (by decide +kernel) rfl hc0_ rfl dX11_setSupport_19 ?_
  refine z_get (ref := "FlowExporter$Config") (C := RX1) (T := TX1) (N := 6) (ci := 3) (v := .int 511) B (by decide +kernel) rfl 5 (by decide) (by decide +kernel) rfl hc3_ rfl dX11_setSupport_22 ?_
  refine z_iload_n B dX11_setSupport_25 rfl 1 rfl ?_
  refine z_ishr B dX11_setSupport_26 ?_
  refine z_top (st1 := [.int 255]) (congrArg (fun w9 : Int32 => ([.int w9] : List Value)) (show ((511 : Int32) >>> ((1 : Int32) &&& (31 : Int32)) : Int32) = 255 by decide +kernel)) ?_
  refine z_iconst (v := 1) B dX11_setSupport_27 rfl ?_
  refine z_iand B dX11_setSupport_28 ?_
  refine z_top (st1 := [.int 1]) (congrArg (fun w9 : Int32 => ([.int w9] : List Value)) (show (255 &&& 1 : Int32) = 1 by decide +kernel)) ?_
  refine z_iconst (v := 1) B dX11_setSupport_29 rfl ?_
  refine z_icmp_ne (tgt := 37) B dX11_setSupport_30 rfl (fun h9 => absurd (by decide) h9) (fun c_3 => ?_)
  refine z_iconst (v := 1) B dX11_setSupport_33 rfl ?_
  refine z_goto (tgt := 38) B dX11_setSupport_34 rfl ?_
  refine z_istore_n (lv' := [(3, .int 1), (0, .ref x), (1, .int 1), (2, .int 1)]) B dX11_setSupport_38 rfl (Nat.le_of_ble_eq_true rfl) rfl ?_
  refine z_iload_n B dX11_setSupport_39 rfl 0 rfl ?_
  refine z_iload_n B dX11_setSupport_40 rfl 3 rfl ?_
  refine z_icmp_eq (tgt := 70) B dX11_setSupport_41 rfl (fun c_4 => ?_) (fun h9 => absurd (by decide) h9)
  refine z_iload_n B dX11_setSupport_70 rfl 0 rfl ?_
  exact z_ret_z B dX11_setSupport_71 (by decide) ⟨rfl, fun b9 h9 => rfl⟩

set_option maxHeartbeats 4000000 in
set_option maxRecDepth 100000 in
theorem f_X10_has_0_2 (G : EnvG) (l : Launch) (Φ : Hm) (sz : Nat) (x : Nat) (hc8_ : Φ (x + 8) = some (o_ 12 [.ref (x + 9), .int 9, .int 511, .int 29])) : Ct G l yX10_has wsX10_has ({ frames := 0, cells := 0, slots := 0, locals := 0 }) 0 0 [.ref (x + 8), .int 2] Φ sz (fun v Φ1 sz1 => v = some (.int 1) ∧ sz1 = sz ∧ (∀ b9 : Nat, Φ1 b9 = Φ b9)) := by
  refine Ct.of (cc := cX10_has) (maxL := 2) (ret := (some .boolean)) (by decide) rfl (Nat.le_of_ble_eq_true rfl) ?_
  intro p9 e9 s9 m9 w9 t9 k9 B
  show Z p9 l e9 _ s9 m9 _ w9 t9 k9 _ G 2 0 [(0, .ref (x + 8)), (1, .int 2)] [] Φ sz 0 0
  refine z_iload_n B dX10_has_0 rfl 1 rfl ?_
  refine z_if_lt (tgt := 26) B dX10_has_1 rfl (fun h9 => absurd h9 (by decide)) (fun c_1 => ?_)
  refine z_iload_n B dX10_has_4 rfl 1 rfl ?_
  refine z_bipush (v := 9) B dX10_has_5 rfl ?_
  refine z_icmp_ge (tgt := 26) B dX10_has_7 rfl (fun h9 => absurd h9 (by decide)) (fun c_2 => ?_)
  refine z_aload_n B dX10_has_10 rfl 0 rfl ?_
  refine z_get (ref := "FlowExporter$Template") (C := RX10) (T := TX10) (N := 4) (ci := 12) (v := .int 511) B (by decide +kernel) rfl 2 (by decide) (by decide +kernel) rfl hc8_ rfl dX10_has_11 ?_
  refine z_iload_n B dX10_has_14 rfl 1 rfl ?_
  refine z_ishr B dX10_has_15 ?_
  refine z_top (st1 := [.int 127]) (congrArg (fun w9 : Int32 => ([.int w9] : List Value)) (show ((511 : Int32) >>> ((2 : Int32) &&& (31 : Int32)) : Int32) = 127 by decide +kernel)) ?_
  refine z_iconst (v := 1) B dX10_has_16 rfl ?_
  refine z_iand B dX10_has_17 ?_
  refine z_top (st1 := [.int 1]) (congrArg (fun w9 : Int32 => ([.int w9] : List Value)) (show (127 &&& 1 : Int32) = 1 by decide +kernel)) ?_
  refine z_iconst (v := 1) B dX10_has_18 rfl ?_
  refine z_icmp_ne (tgt := 26) B dX10_has_19 rfl (fun h9 => absurd (by decide) h9) (fun c_3 => ?_)
  refine z_iconst (v := 1) B dX10_has_22 rfl ?_
  refine z_goto (tgt := 27) B dX10_has_23 rfl ?_
  exact z_ret_z B dX10_has_27 (by decide) ⟨rfl, rfl, (fun b9 => rfl)⟩

set_option maxHeartbeats 4000000 in
set_option maxRecDepth 100000 in
theorem f_X10_has_1_2 (G : EnvG) (l : Launch) (Φ : Hm) (sz : Nat) (x : Nat) (hc12_ : Φ (x + 12) = some (o_ 12 [.ref (x + 13), .int 0, .int 0, .int 0])) : Ct G l yX10_has wsX10_has ({ frames := 0, cells := 0, slots := 0, locals := 0 }) 0 0 [.ref (x + 12), .int 2] Φ sz (fun v Φ1 sz1 => v = some (.int 0) ∧ sz1 = sz ∧ (∀ b9 : Nat, Φ1 b9 = Φ b9)) := by
  refine Ct.of (cc := cX10_has) (maxL := 2) (ret := (some .boolean)) (by decide) rfl (Nat.le_of_ble_eq_true rfl) ?_
  intro p9 e9 s9 m9 w9 t9 k9 B
  show Z p9 l e9 _ s9 m9 _ w9 t9 k9 _ G 2 0 [(0, .ref (x + 12)), (1, .int 2)] [] Φ sz 0 0
  refine z_iload_n B dX10_has_0 rfl 1 rfl ?_
  refine z_if_lt (tgt := 26) B dX10_has_1 rfl (fun h9 => absurd h9 (by decide)) (fun c_1 => ?_)
  refine z_iload_n B dX10_has_4 rfl 1 rfl ?_
  refine z_bipush (v := 9) B dX10_has_5 rfl ?_
  refine z_icmp_ge (tgt := 26) B dX10_has_7 rfl (fun h9 => absurd h9 (by decide)) (fun c_2 => ?_)
  refine z_aload_n B dX10_has_10 rfl 0 rfl ?_
  refine z_get (ref := "FlowExporter$Template") (C := RX10) (T := TX10) (N := 4) (ci := 12) (v := .int 0) B (by decide +kernel) rfl 2 (by decide) (by decide +kernel) rfl hc12_ rfl dX10_has_11 ?_
  refine z_iload_n B dX10_has_14 rfl 1 rfl ?_
  refine z_ishr B dX10_has_15 ?_
  refine z_top (st1 := [.int 0]) (congrArg (fun w9 : Int32 => ([.int w9] : List Value)) (show ((0 : Int32) >>> ((2 : Int32) &&& (31 : Int32)) : Int32) = 0 by decide +kernel)) ?_
  refine z_iconst (v := 1) B dX10_has_16 rfl ?_
  refine z_iand B dX10_has_17 ?_
  refine z_top (st1 := [.int 0]) (congrArg (fun w9 : Int32 => ([.int w9] : List Value)) (show (0 &&& 1 : Int32) = 0 by decide +kernel)) ?_
  refine z_iconst (v := 1) B dX10_has_18 rfl ?_
  refine z_icmp_ne (tgt := 26) B dX10_has_19 rfl (fun c_3 => ?_) (fun h9 => absurd h9 (by decide))
  refine z_iconst (v := 0) B dX10_has_26 rfl ?_
  exact z_ret_z B dX10_has_27 (by decide) ⟨rfl, rfl, (fun b9 => rfl)⟩

set_option maxHeartbeats 4000000 in
set_option maxRecDepth 100000 in
theorem f_X10_has_2_2 (G : EnvG) (l : Launch) (Φ : Hm) (sz : Nat) (x : Nat) (hc16_ : Φ (x + 16) = some (o_ 12 [.ref (x + 17), .int 0, .int 0, .int 0])) : Ct G l yX10_has wsX10_has ({ frames := 0, cells := 0, slots := 0, locals := 0 }) 0 0 [.ref (x + 16), .int 2] Φ sz (fun v Φ1 sz1 => v = some (.int 0) ∧ sz1 = sz ∧ (∀ b9 : Nat, Φ1 b9 = Φ b9)) := by
  refine Ct.of (cc := cX10_has) (maxL := 2) (ret := (some .boolean)) (by decide) rfl (Nat.le_of_ble_eq_true rfl) ?_
  intro p9 e9 s9 m9 w9 t9 k9 B
  show Z p9 l e9 _ s9 m9 _ w9 t9 k9 _ G 2 0 [(0, .ref (x + 16)), (1, .int 2)] [] Φ sz 0 0
  refine z_iload_n B dX10_has_0 rfl 1 rfl ?_
  refine z_if_lt (tgt := 26) B dX10_has_1 rfl (fun h9 => absurd h9 (by decide)) (fun c_1 => ?_)
  refine z_iload_n B dX10_has_4 rfl 1 rfl ?_
  refine z_bipush (v := 9) B dX10_has_5 rfl ?_
  refine z_icmp_ge (tgt := 26) B dX10_has_7 rfl (fun h9 => absurd h9 (by decide)) (fun c_2 => ?_)
  refine z_aload_n B dX10_has_10 rfl 0 rfl ?_
  refine z_get (ref := "FlowExporter$Template") (C := RX10) (T := TX10) (N := 4) (ci := 12) (v := .int 0) B (by decide +kernel) rfl 2 (by decide) (by decide +kernel) rfl hc16_ rfl dX10_has_11 ?_
  refine z_iload_n B dX10_has_14 rfl 1 rfl ?_
  refine z_ishr B dX10_has_15 ?_
  refine z_top (st1 := [.int 0]) (congrArg (fun w9 : Int32 => ([.int w9] : List Value)) (show ((0 : Int32) >>> ((2 : Int32) &&& (31 : Int32)) : Int32) = 0 by decide +kernel)) ?_
  refine z_iconst (v := 1) B dX10_has_16 rfl ?_
  refine z_iand B dX10_has_17 ?_
  refine z_top (st1 := [.int 0]) (congrArg (fun w9 : Int32 => ([.int w9] : List Value)) (show (0 &&& 1 : Int32) = 0 by decide +kernel)) ?_
  refine z_iconst (v := 1) B dX10_has_18 rfl ?_
  refine z_icmp_ne (tgt := 26) B dX10_has_19 rfl (fun c_3 => ?_) (fun h9 => absurd h9 (by decide))
  refine z_iconst (v := 0) B dX10_has_26 rfl ?_
  exact z_ret_z B dX10_has_27 (by decide) ⟨rfl, rfl, (fun b9 => rfl)⟩

set_option maxHeartbeats 4000000 in
set_option maxRecDepth 100000 in
theorem f_X10_has_3_2 (G : EnvG) (l : Launch) (Φ : Hm) (sz : Nat) (x : Nat) (hc20_ : Φ (x + 20) = some (o_ 12 [.ref (x + 21), .int 0, .int 0, .int 0])) : Ct G l yX10_has wsX10_has ({ frames := 0, cells := 0, slots := 0, locals := 0 }) 0 0 [.ref (x + 20), .int 2] Φ sz (fun v Φ1 sz1 => v = some (.int 0) ∧ sz1 = sz ∧ (∀ b9 : Nat, Φ1 b9 = Φ b9)) := by
  refine Ct.of (cc := cX10_has) (maxL := 2) (ret := (some .boolean)) (by decide) rfl (Nat.le_of_ble_eq_true rfl) ?_
  intro p9 e9 s9 m9 w9 t9 k9 B
  show Z p9 l e9 _ s9 m9 _ w9 t9 k9 _ G 2 0 [(0, .ref (x + 20)), (1, .int 2)] [] Φ sz 0 0
  refine z_iload_n B dX10_has_0 rfl 1 rfl ?_
  refine z_if_lt (tgt := 26) B dX10_has_1 rfl (fun h9 => absurd h9 (by decide)) (fun c_1 => ?_)
  refine z_iload_n B dX10_has_4 rfl 1 rfl ?_
  refine z_bipush (v := 9) B dX10_has_5 rfl ?_
  refine z_icmp_ge (tgt := 26) B dX10_has_7 rfl (fun h9 => absurd h9 (by decide)) (fun c_2 => ?_)
  refine z_aload_n B dX10_has_10 rfl 0 rfl ?_
  refine z_get (ref := "FlowExporter$Template") (C := RX10) (T := TX10) (N := 4) (ci := 12) (v := .int 0) B (by decide +kernel) rfl 2 (by decide) (by decide +kernel) rfl hc20_ rfl dX10_has_11 ?_
  refine z_iload_n B dX10_has_14 rfl 1 rfl ?_
  refine z_ishr B dX10_has_15 ?_
  refine z_top (st1 := [.int 0]) (congrArg (fun w9 : Int32 => ([.int w9] : List Value)) (show ((0 : Int32) >>> ((2 : Int32) &&& (31 : Int32)) : Int32) = 0 by decide +kernel)) ?_
  refine z_iconst (v := 1) B dX10_has_16 rfl ?_
  refine z_iand B dX10_has_17 ?_
  refine z_top (st1 := [.int 0]) (congrArg (fun w9 : Int32 => ([.int w9] : List Value)) (show (0 &&& 1 : Int32) = 0 by decide +kernel)) ?_
  refine z_iconst (v := 1) B dX10_has_18 rfl ?_
  refine z_icmp_ne (tgt := 26) B dX10_has_19 rfl (fun c_3 => ?_) (fun h9 => absurd h9 (by decide))
  refine z_iconst (v := 0) B dX10_has_26 rfl ?_
  exact z_ret_z B dX10_has_27 (by decide) ⟨rfl, rfl, (fun b9 => rfl)⟩

set_option maxHeartbeats 4000000 in
set_option maxRecDepth 100000 in
theorem f_X8_forget_2 (G : EnvG) (l : Launch) (Φ : Hm) (sz : Nat) (x : Nat) (u : Int32) (hc3_ : Φ (x + 3) = some (o_ 3 [.ref (x + 4), .ref (x + 5), .ref (x + 6), .ref (x + 7), .int 1, .int u])) (hc6_ : Φ (x + 6) = some (aq_ G 4 4 (va_up (va_up (va_up (va_up (fun _ => none) (0 : Int32).toNatClampNeg (some (x + 8))) (1 : Int32).toNatClampNeg (some (x + 12))) (2 : Int32).toNatClampNeg (some (x + 16))) (3 : Int32).toNatClampNeg (some (x + 20))))) (hc8_ : Φ (x + 8) = some (o_ 12 [.ref (x + 9), .int 9, .int 511, .int 29])) (hc12_ : Φ (x + 12) = some (o_ 12 [.ref (x + 13), .int 0, .int 0, .int 0])) (hc16_ : Φ (x + 16) = some (o_ 12 [.ref (x + 17), .int 0, .int 0, .int 0])) (hc20_ : Φ (x + 20) = some (o_ 12 [.ref (x + 21), .int 0, .int 0, .int 0])) (hc74_ : Φ (x + 74) = some (o_ 10 [.ref (x + 3), .ref (x + 46), .ref (x + 75), .ref (x + 77), .int 0, .ref (x + 78), .ref (x + 79), .int 0, .long 0, .int 0])) (hc78_ : Φ (x + 78) = some (ai_ G 4 (fun _ => 0))) (hna : G.2.2.2 ≤ x) : Ct G l yX8_forgetTemplatesWith wsX8_forgetTemplatesWith ({ frames := 1, cells := 0, slots := 0, locals := 21 }) 0 0 [.ref (x + 74), .int 2] Φ sz (fun v Φ1 sz1 => v = none ∧ sz1 = sz ∧ (∀ b9 : Nat, b9 ≠ x + 78 → Φ1 b9 = Φ b9) ∧ Φ1 (x + 78) = some (ai_ G 4 (upd (fun _ => 0) (0 : Int32).toNatClampNeg 0))) := by
  refine Ct.of (cc := cX8_forgetTemplatesWith) (maxL := 3) (ret := none) (by decide) rfl (Nat.le_of_ble_eq_true rfl) ?_
  intro p9 e9 s9 m9 w9 t9 k9 B
  show Z p9 l e9 _ s9 m9 _ w9 t9 k9 _ G 3 0 [(0, .ref (x + 74)), (1, .int 2)] [] Φ sz 0 0
  refine z_iconst (v := 0) B dX8_forgetTemplatesWith_0 rfl ?_
  refine z_istore_n (lv' := [(2, .int 0), (0, .ref (x + 74)), (1, .int 2)]) B dX8_forgetTemplatesWith_1 rfl (Nat.le_of_ble_eq_true rfl) rfl ?_
  refine z_iload_n B dX8_forgetTemplatesWith_2 rfl 0 rfl ?_
  refine z_iconst (v := 4) B dX8_forgetTemplatesWith_3 rfl ?_
  refine z_icmp_ge (tgt := 35) B dX8_forgetTemplatesWith_4 rfl (fun h9 => absurd h9 (by decide)) (fun c_1 => ?_)
  refine z_aload_n B dX8_forgetTemplatesWith_7 rfl 1 rfl ?_
  refine z_get (ref := "FlowExporter$Sender") (C := RX8) (T := TX8) (N := 10) (ci := 10) (v := .ref (x + 3)) B (by decide +kernel) rfl 0 (by decide) (by decide +kernel) rfl hc74_ rfl dX8_forgetTemplatesWith_8 ?_
  refine z_iload_n B dX8_forgetTemplatesWith_11 rfl 0 rfl ?_
  refine z_callV (As := [.int 0]) (rest := []) B (f_X1_template_u0 G l Φ sz x u hc3_ hc6_) (cwV 1 B.1.2.2.2.2 gX8_forgetTemplatesWith_X1_template rfl rfl rfl (by decide +kernel) ⟨Nat.le_of_ble_eq_true rfl, Nat.le_of_ble_eq_true rfl⟩) hc3_ rfl rfl rfl rfl (Nat.le_of_ble_eq_true rfl) dX8_forgetTemplatesWith_12 ⟨Nat.le_of_ble_eq_true rfl, Nat.le_of_ble_eq_true rfl⟩ (fun v1 Φ1 sz1 st1 hp1 hs1 => ?_)
  obtain ⟨rfl, hq1, fr1⟩ := hp1
  replace hq1 : sz1 = sz := hq1
  subst sz1
  replace hs1 : st1 = [.ref (x + 8)] := hs1
  subst st1
  refine z_iload_n B dX8_forgetTemplatesWith_15 rfl 2 rfl ?_
  have h_1 : Φ1 (x + 8) = some (o_ 12 [.ref (x + 9), .int 9, .int 511, .int 29]) := ((fr1 (x + 8)).trans hc8_)
  refine z_callV (As := [.int 2]) (rest := []) B (f_X10_has_0_2 G l Φ1 sz x h_1) (cwV 1 B.1.2.2.2.2 gX8_forgetTemplatesWith_X10_has rfl rfl rfl (by decide +kernel) ⟨Nat.le_of_ble_eq_true rfl, Nat.le_of_ble_eq_true rfl⟩) h_1 rfl rfl rfl rfl (Nat.le_of_ble_eq_true rfl) dX8_forgetTemplatesWith_16 ⟨Nat.le_of_ble_eq_true rfl, Nat.le_of_ble_eq_true rfl⟩ (fun v2 Φ2 sz2 st2 hp2 hs2 => ?_)
  obtain ⟨rfl, hq2, fr2⟩ := hp2
  replace hq2 : sz2 = sz := hq2
  subst sz2
  replace hs2 : st2 = [.int 1] := hs2
  subst st2
  refine z_if_eq (tgt := 29) B dX8_forgetTemplatesWith_19 rfl (fun h9 => absurd h9 (by decide)) (fun c_2 => ?_)
  refine z_aload_n B dX8_forgetTemplatesWith_22 rfl 1 rfl ?_
  have h_2 : Φ2 (x + 74) = some (o_ 10 [.ref (x + 3), .ref (x + 46), .ref (x + 75), .ref (x + 77), .int 0, .ref (x + 78), .ref (x + 79), .int 0, .long 0, .int 0]) := ((fr2 (x + 74)).trans ((fr1 (x + 74)).trans hc74_))
  refine z_get (ref := "FlowExporter$Sender") (C := RX8) (T := TX8) (N := 10) (ci := 10) (v := .ref (x + 78)) B (by decide +kernel) rfl 5 (by decide) (by decide +kernel) rfl h_2 rfl dX8_forgetTemplatesWith_23 ?_
  refine z_iload_n B dX8_forgetTemplatesWith_26 rfl 0 rfl ?_
  refine z_iconst (v := 0) B dX8_forgetTemplatesWith_27 rfl ?_
  have h_3 : Φ2 (x + 78) = some (ai_ G 4 (fun _ => 0)) := ((fr2 (x + 78)).trans ((fr1 (x + 78)).trans hc78_))
  refine z_iast B h_3 (Nat.le_trans hna (Nat.le_add_right x 78)) (vin rfl) dX8_forgetTemplatesWith_28 (fun Φ3 hΦ1 => ?_)
  have h_4 : Φ3 (x + 78) = some (ai_ G 4 (upd (fun _ => 0) (0 : Int32).toNatClampNeg 0)) := fset_at hΦ1
  refine z_iinc (k := 0) (v := 1) (lv' := [(2, .int 1), (0, .ref (x + 74)), (1, .int 2)]) B dX8_forgetTemplatesWith_29 rfl rfl (Nat.le_of_ble_eq_true rfl) rfl ?_
  refine z_goto (tgt := 2) B dX8_forgetTemplatesWith_32 rfl ?_
  refine z_iload_n B dX8_forgetTemplatesWith_2 rfl 0 rfl ?_
  refine z_iconst (v := 4) B dX8_forgetTemplatesWith_3 rfl ?_
  refine z_icmp_ge (tgt := 35) B dX8_forgetTemplatesWith_4 rfl (fun h9 => absurd h9 (by decide)) (fun c_3 => ?_)
  refine z_aload_n B dX8_forgetTemplatesWith_7 rfl 1 rfl ?_
  have h_5 : Φ3 (x + 74) = some (o_ 10 [.ref (x + 3), .ref (x + 46), .ref (x + 75), .ref (x + 77), .int 0, .ref (x + 78), .ref (x + 79), .int 0, .long 0, .int 0]) := ((fset_fr hΦ1 (ne_off (x := x) (i := 74) (j := 78) rfl)).trans h_2)
  refine z_get (ref := "FlowExporter$Sender") (C := RX8) (T := TX8) (N := 10) (ci := 10) (v := .ref (x + 3)) B (by decide +kernel) rfl 0 (by decide) (by decide +kernel) rfl h_5 rfl dX8_forgetTemplatesWith_8 ?_
  refine z_iload_n B dX8_forgetTemplatesWith_11 rfl 0 rfl ?_
  have h_6 : Φ3 (x + 3) = some (o_ 3 [.ref (x + 4), .ref (x + 5), .ref (x + 6), .ref (x + 7), .int 1, .int u]) := ((fset_fr hΦ1 (ne_off (x := x) (i := 3) (j := 78) rfl)).trans ((fr2 (x + 3)).trans ((fr1 (x + 3)).trans hc3_)))
  have h_7 : Φ3 (x + 6) = some (aq_ G 4 4 (va_up (va_up (va_up (va_up (fun _ => none) (0 : Int32).toNatClampNeg (some (x + 8))) (1 : Int32).toNatClampNeg (some (x + 12))) (2 : Int32).toNatClampNeg (some (x + 16))) (3 : Int32).toNatClampNeg (some (x + 20)))) := ((fset_fr hΦ1 (ne_off (x := x) (i := 6) (j := 78) rfl)).trans ((fr2 (x + 6)).trans ((fr1 (x + 6)).trans hc6_)))
  refine z_callV (As := [.int 1]) (rest := []) B (f_X1_template_u1 G l Φ3 sz x u h_6 h_7) (cwV 1 B.1.2.2.2.2 gX8_forgetTemplatesWith_X1_template rfl rfl rfl (by decide +kernel) ⟨Nat.le_of_ble_eq_true rfl, Nat.le_of_ble_eq_true rfl⟩) h_6 rfl rfl rfl rfl (Nat.le_of_ble_eq_true rfl) dX8_forgetTemplatesWith_12 ⟨Nat.le_of_ble_eq_true rfl, Nat.le_of_ble_eq_true rfl⟩ (fun v3 Φ4 sz3 st3 hp3 hs3 => ?_)
  obtain ⟨rfl, hq3, fr3⟩ := hp3
  replace hq3 : sz3 = sz := hq3
  subst sz3
  replace hs3 : st3 = [.ref (x + 12)] := hs3
  subst st3
  refine z_iload_n B dX8_forgetTemplatesWith_15 rfl 2 rfl ?_
  have h_8 : Φ4 (x + 12) = some (o_ 12 [.ref (x + 13), .int 0, .int 0, .int 0]) := ((fr3 (x + 12)).trans ((fset_fr hΦ1 (ne_off (x := x) (i := 12) (j := 78) rfl)).trans ((fr2 (x + 12)).trans ((fr1 (x + 12)).trans hc12_))))
  refine z_callV (As := [.int 2]) (rest := []) B (f_X10_has_1_2 G l Φ4 sz x h_8) (cwV 1 B.1.2.2.2.2 gX8_forgetTemplatesWith_X10_has rfl rfl rfl (by decide +kernel) ⟨Nat.le_of_ble_eq_true rfl, Nat.le_of_ble_eq_true rfl⟩) h_8 rfl rfl rfl rfl (Nat.le_of_ble_eq_true rfl) dX8_forgetTemplatesWith_16 ⟨Nat.le_of_ble_eq_true rfl, Nat.le_of_ble_eq_true rfl⟩ (fun v4 Φ5 sz4 st4 hp4 hs4 => ?_)
  obtain ⟨rfl, hq4, fr4⟩ := hp4
  replace hq4 : sz4 = sz := hq4
  subst sz4
  replace hs4 : st4 = [.int 0] := hs4
  subst st4
  refine z_if_eq (tgt := 29) B dX8_forgetTemplatesWith_19 rfl (fun c_4 => ?_) (fun h9 => absurd (by decide) h9)
  refine z_iinc (k := 0) (v := 2) (lv' := [(2, .int 2), (0, .ref (x + 74)), (1, .int 2)]) B dX8_forgetTemplatesWith_29 rfl rfl (Nat.le_of_ble_eq_true rfl) rfl ?_
  refine z_goto (tgt := 2) B dX8_forgetTemplatesWith_32 rfl ?_
  refine z_iload_n B dX8_forgetTemplatesWith_2 rfl 0 rfl ?_
  refine z_iconst (v := 4) B dX8_forgetTemplatesWith_3 rfl ?_
  refine z_icmp_ge (tgt := 35) B dX8_forgetTemplatesWith_4 rfl (fun h9 => absurd h9 (by decide)) (fun c_5 => ?_)
  refine z_aload_n B dX8_forgetTemplatesWith_7 rfl 1 rfl ?_
  have h_9 : Φ5 (x + 74) = some (o_ 10 [.ref (x + 3), .ref (x + 46), .ref (x + 75), .ref (x + 77), .int 0, .ref (x + 78), .ref (x + 79), .int 0, .long 0, .int 0]) := ((fr4 (x + 74)).trans ((fr3 (x + 74)).trans h_5))
  refine z_get (ref := "FlowExporter$Sender") (C := RX8) (T := TX8) (N := 10) (ci := 10) (v := .ref (x + 3)) B (by decide +kernel) rfl 0 (by decide) (by decide +kernel) rfl h_9 rfl dX8_forgetTemplatesWith_8 ?_
  refine z_iload_n B dX8_forgetTemplatesWith_11 rfl 0 rfl ?_
  have h_10 : Φ5 (x + 3) = some (o_ 3 [.ref (x + 4), .ref (x + 5), .ref (x + 6), .ref (x + 7), .int 1, .int u]) := ((fr4 (x + 3)).trans ((fr3 (x + 3)).trans h_6))
  have h_11 : Φ5 (x + 6) = some (aq_ G 4 4 (va_up (va_up (va_up (va_up (fun _ => none) (0 : Int32).toNatClampNeg (some (x + 8))) (1 : Int32).toNatClampNeg (some (x + 12))) (2 : Int32).toNatClampNeg (some (x + 16))) (3 : Int32).toNatClampNeg (some (x + 20)))) := ((fr4 (x + 6)).trans ((fr3 (x + 6)).trans h_7))
  refine z_callV (As := [.int 2]) (rest := []) B (f_X1_template_u2 G l Φ5 sz x u h_10 h_11) (cwV 1 B.1.2.2.2.2 gX8_forgetTemplatesWith_X1_template rfl rfl rfl (by decide +kernel) ⟨Nat.le_of_ble_eq_true rfl, Nat.le_of_ble_eq_true rfl⟩) h_10 rfl rfl rfl rfl (Nat.le_of_ble_eq_true rfl) dX8_forgetTemplatesWith_12 ⟨Nat.le_of_ble_eq_true rfl, Nat.le_of_ble_eq_true rfl⟩ (fun v5 Φ6 sz5 st5 hp5 hs5 => ?_)
  obtain ⟨rfl, hq5, fr5⟩ := hp5
  replace hq5 : sz5 = sz := hq5
  subst sz5
  replace hs5 : st5 = [.ref (x + 16)] := hs5
  subst st5
  refine z_iload_n B dX8_forgetTemplatesWith_15 rfl 2 rfl ?_
  have h_12 : Φ6 (x + 16) = some (o_ 12 [.ref (x + 17), .int 0, .int 0, .int 0]) := ((fr5 (x + 16)).trans ((fr4 (x + 16)).trans ((fr3 (x + 16)).trans ((fset_fr hΦ1 (ne_off (x := x) (i := 16) (j := 78) rfl)).trans ((fr2 (x + 16)).trans ((fr1 (x + 16)).trans hc16_))))))
  refine z_callV (As := [.int 2]) (rest := []) B (f_X10_has_2_2 G l Φ6 sz x h_12) (cwV 1 B.1.2.2.2.2 gX8_forgetTemplatesWith_X10_has rfl rfl rfl (by decide +kernel) ⟨Nat.le_of_ble_eq_true rfl, Nat.le_of_ble_eq_true rfl⟩) h_12 rfl rfl rfl rfl (Nat.le_of_ble_eq_true rfl) dX8_forgetTemplatesWith_16 ⟨Nat.le_of_ble_eq_true rfl, Nat.le_of_ble_eq_true rfl⟩ (fun v6 Φ7 sz6 st6 hp6 hs6 => ?_)
  obtain ⟨rfl, hq6, fr6⟩ := hp6
  replace hq6 : sz6 = sz := hq6
  subst sz6
  replace hs6 : st6 = [.int 0] := hs6
  subst st6
  refine z_if_eq (tgt := 29) B dX8_forgetTemplatesWith_19 rfl (fun c_6 => ?_) (fun h9 => absurd (by decide) h9)
  refine z_iinc (k := 0) (v := 3) (lv' := [(2, .int 3), (0, .ref (x + 74)), (1, .int 2)]) B dX8_forgetTemplatesWith_29 rfl rfl (Nat.le_of_ble_eq_true rfl) rfl ?_
  refine z_goto (tgt := 2) B dX8_forgetTemplatesWith_32 rfl ?_
  refine z_iload_n B dX8_forgetTemplatesWith_2 rfl 0 rfl ?_
  refine z_iconst (v := 4) B dX8_forgetTemplatesWith_3 rfl ?_
  refine z_icmp_ge (tgt := 35) B dX8_forgetTemplatesWith_4 rfl (fun h9 => absurd h9 (by decide)) (fun c_7 => ?_)
  refine z_aload_n B dX8_forgetTemplatesWith_7 rfl 1 rfl ?_
  have h_13 : Φ7 (x + 74) = some (o_ 10 [.ref (x + 3), .ref (x + 46), .ref (x + 75), .ref (x + 77), .int 0, .ref (x + 78), .ref (x + 79), .int 0, .long 0, .int 0]) := ((fr6 (x + 74)).trans ((fr5 (x + 74)).trans h_9))
  refine z_get (ref := "FlowExporter$Sender") (C := RX8) (T := TX8) (N := 10) (ci := 10) (v := .ref (x + 3)) B (by decide +kernel) rfl 0 (by decide) (by decide +kernel) rfl h_13 rfl dX8_forgetTemplatesWith_8 ?_
  refine z_iload_n B dX8_forgetTemplatesWith_11 rfl 0 rfl ?_
  have h_14 : Φ7 (x + 3) = some (o_ 3 [.ref (x + 4), .ref (x + 5), .ref (x + 6), .ref (x + 7), .int 1, .int u]) := ((fr6 (x + 3)).trans ((fr5 (x + 3)).trans h_10))
  have h_15 : Φ7 (x + 6) = some (aq_ G 4 4 (va_up (va_up (va_up (va_up (fun _ => none) (0 : Int32).toNatClampNeg (some (x + 8))) (1 : Int32).toNatClampNeg (some (x + 12))) (2 : Int32).toNatClampNeg (some (x + 16))) (3 : Int32).toNatClampNeg (some (x + 20)))) := ((fr6 (x + 6)).trans ((fr5 (x + 6)).trans h_11))
  refine z_callV (As := [.int 3]) (rest := []) B (f_X1_template_u3 G l Φ7 sz x u h_14 h_15) (cwV 1 B.1.2.2.2.2 gX8_forgetTemplatesWith_X1_template rfl rfl rfl (by decide +kernel) ⟨Nat.le_of_ble_eq_true rfl, Nat.le_of_ble_eq_true rfl⟩) h_14 rfl rfl rfl rfl (Nat.le_of_ble_eq_true rfl) dX8_forgetTemplatesWith_12 ⟨Nat.le_of_ble_eq_true rfl, Nat.le_of_ble_eq_true rfl⟩ (fun v7 Φ8 sz7 st7 hp7 hs7 => ?_)
  obtain ⟨rfl, hq7, fr7⟩ := hp7
  replace hq7 : sz7 = sz := hq7
  subst sz7
  replace hs7 : st7 = [.ref (x + 20)] := hs7
  subst st7
  refine z_iload_n B dX8_forgetTemplatesWith_15 rfl 2 rfl ?_
  have h_16 : Φ8 (x + 20) = some (o_ 12 [.ref (x + 21), .int 0, .int 0, .int 0]) := ((fr7 (x + 20)).trans ((fr6 (x + 20)).trans ((fr5 (x + 20)).trans ((fr4 (x + 20)).trans ((fr3 (x + 20)).trans ((fset_fr hΦ1 (ne_off (x := x) (i := 20) (j := 78) rfl)).trans ((fr2 (x + 20)).trans ((fr1 (x + 20)).trans hc20_))))))))
  refine z_callV (As := [.int 2]) (rest := []) B (f_X10_has_3_2 G l Φ8 sz x h_16) (cwV 1 B.1.2.2.2.2 gX8_forgetTemplatesWith_X10_has rfl rfl rfl (by decide +kernel) ⟨Nat.le_of_ble_eq_true rfl, Nat.le_of_ble_eq_true rfl⟩) h_16 rfl rfl rfl rfl (Nat.le_of_ble_eq_true rfl) dX8_forgetTemplatesWith_16 ⟨Nat.le_of_ble_eq_true rfl, Nat.le_of_ble_eq_true rfl⟩ (fun v8 Φ9 sz8 st8 hp8 hs8 => ?_)
  obtain ⟨rfl, hq8, fr8⟩ := hp8
  replace hq8 : sz8 = sz := hq8
  subst sz8
  replace hs8 : st8 = [.int 0] := hs8
  subst st8
  refine z_if_eq (tgt := 29) B dX8_forgetTemplatesWith_19 rfl (fun c_8 => ?_) (fun h9 => absurd (by decide) h9)
  refine z_iinc (k := 0) (v := 4) (lv' := [(2, .int 4), (0, .ref (x + 74)), (1, .int 2)]) B dX8_forgetTemplatesWith_29 rfl rfl (Nat.le_of_ble_eq_true rfl) rfl ?_
  refine z_goto (tgt := 2) B dX8_forgetTemplatesWith_32 rfl ?_
  refine z_iload_n B dX8_forgetTemplatesWith_2 rfl 0 rfl ?_
  refine z_iconst (v := 4) B dX8_forgetTemplatesWith_3 rfl ?_
  refine z_icmp_ge (tgt := 35) B dX8_forgetTemplatesWith_4 rfl (fun c_9 => ?_) (fun h9 => absurd (by decide) h9)
  have h_17 : Φ9 (x + 78) = some (ai_ G 4 (upd (fun _ => 0) (0 : Int32).toNatClampNeg 0)) := ((fr8 (x + 78)).trans ((fr7 (x + 78)).trans ((fr6 (x + 78)).trans ((fr5 (x + 78)).trans ((fr4 (x + 78)).trans ((fr3 (x + 78)).trans h_4))))))
  exact z_ret_v B dX8_forgetTemplatesWith_35 ⟨rfl, rfl, (fun b9 h9a => ((fr8 b9).trans ((fr7 b9).trans ((fr6 b9).trans ((fr5 b9).trans ((fr4 b9).trans ((fr3 b9).trans ((fset_fr hΦ1 h9a).trans ((fr2 b9).trans ((fr1 b9).trans rfl)))))))))), h_17⟩

set_option maxHeartbeats 4000000 in
set_option maxRecDepth 100000 in
theorem f_X11_setSupport_2_0 (G : EnvG) (l : Launch) (Φ : Hm) (sz : Nat) (x : Nat) (hc0_ : Φ x = some (o_ 13 [.ref (x + 1), .ref (x + 3), .ref (x + 24), .ref (x + 46), .ref (x + 74), .ref (x + 80), .ref (x + 132), .ref (x + 121)])) (hc3_ : Φ (x + 3) = some (o_ 3 [.ref (x + 4), .ref (x + 5), .ref (x + 6), .ref (x + 7), .int 1, .int 511])) (hc6_ : Φ (x + 6) = some (aq_ G 4 4 (va_up (va_up (va_up (va_up (fun _ => none) (0 : Int32).toNatClampNeg (some (x + 8))) (1 : Int32).toNatClampNeg (some (x + 12))) (2 : Int32).toNatClampNeg (some (x + 16))) (3 : Int32).toNatClampNeg (some (x + 20))))) (hc7_ : Φ (x + 7) = some (aq_ G 4 4 (va_up (va_up (va_up (va_up (fun _ => none) (0 : Int32).toNatClampNeg (some (x + 10))) (1 : Int32).toNatClampNeg (some (x + 14))) (2 : Int32).toNatClampNeg (some (x + 18))) (3 : Int32).toNatClampNeg (some (x + 22))))) (hc8_ : Φ (x + 8) = some (o_ 12 [.ref (x + 9), .int 9, .int 511, .int 29])) (hc9_ : Φ (x + 9) = some (ai_ G 9 (upd (upd (upd (upd (upd (upd (upd (upd (upd (fun _ => 0) (0 : Int32).toNatClampNeg 0) (1 : Int32).toNatClampNeg 1) (2 : Int32).toNatClampNeg 2) (3 : Int32).toNatClampNeg 3) (4 : Int32).toNatClampNeg 4) (5 : Int32).toNatClampNeg 5) (6 : Int32).toNatClampNeg 6) (7 : Int32).toNatClampNeg 7) (8 : Int32).toNatClampNeg 8))) (hc10_ : Φ (x + 10) = some (o_ 12 [.ref (x + 11), .int 9, .int 511, .int 29])) (hc11_ : Φ (x + 11) = some (ai_ G 9 (upd (upd (upd (upd (upd (upd (upd (upd (upd (fun _ => 0) (0 : Int32).toNatClampNeg 0) (1 : Int32).toNatClampNeg 1) (2 : Int32).toNatClampNeg 2) (3 : Int32).toNatClampNeg 3) (4 : Int32).toNatClampNeg 4) (5 : Int32).toNatClampNeg 5) (6 : Int32).toNatClampNeg 6) (7 : Int32).toNatClampNeg 7) (8 : Int32).toNatClampNeg 8))) (hc12_ : Φ (x + 12) = some (o_ 12 [.ref (x + 13), .int 0, .int 0, .int 0])) (hc14_ : Φ (x + 14) = some (o_ 12 [.ref (x + 15), .int 0, .int 0, .int 0])) (hc16_ : Φ (x + 16) = some (o_ 12 [.ref (x + 17), .int 0, .int 0, .int 0])) (hc18_ : Φ (x + 18) = some (o_ 12 [.ref (x + 19), .int 0, .int 0, .int 0])) (hc20_ : Φ (x + 20) = some (o_ 12 [.ref (x + 21), .int 0, .int 0, .int 0])) (hc22_ : Φ (x + 22) = some (o_ 12 [.ref (x + 23), .int 0, .int 0, .int 0])) (hc74_ : Φ (x + 74) = some (o_ 10 [.ref (x + 3), .ref (x + 46), .ref (x + 75), .ref (x + 77), .int 0, .ref (x + 78), .ref (x + 79), .int 0, .long 0, .int 0])) (hc78_ : Φ (x + 78) = some (ai_ G 4 (fun _ => 0))) (hna : G.2.2.2 ≤ x) : Ct G l yX11_setSupport wsX11_setSupport ({ frames := 3, cells := 0, slots := 0, locals := 67 }) 0 0 [.ref x, .int 2, .int 0] Φ sz (fun v Φ1 sz1 => v = some (.int 1) ∧ ∀ b9 : Nat, x + 149 ≤ b9 → Φ1 b9 = Φ b9) := by
  refine Ct.of (cc := cX11_setSupport) (maxL := 4) (ret := (some .boolean)) (by decide) rfl (Nat.le_of_ble_eq_true rfl) ?_
  intro p9 e9 s9 m9 w9 t9 k9 B
  show Z p9 l e9 _ s9 m9 _ w9 t9 k9 _ G 4 0 [(0, .ref x), (1, .int 2), (2, .int 0)] [] Φ sz 0 0
  refine z_iload_n B dX11_setSupport_0 rfl 1 rfl ?_
  refine z_if_lt (tgt := 10) B dX11_setSupport_1 rfl (fun h9 => absurd h9 (by decide)) (fun c_1 => ?_)
  refine z_iload_n B dX11_setSupport_4 rfl 1 rfl ?_
  refine z_bipush (v := 9) B dX11_setSupport_5 rfl ?_
  refine z_icmp_lt (tgt := 18) B dX11_setSupport_7 rfl (fun c_2 => ?_) (fun h9 => absurd (by decide) h9)
  refine z_aload_n B dX11_setSupport_18 rfl 0 rfl ?_
  refine z_get (ref := "FlowExporter") (C := RX11) (T := TX11) (N := 8) (ci := 13) (v := .ref (x + 3)) B (by decide +kernel) rfl 1 (by decide) (by decide +kernel) rfl hc0_ rfl dX11_setSupport_19 ?_
  refine z_get (ref := "FlowExporter$Config") (C := RX1) (T := TX1) (N := 6) (ci := 3) (v := .int 511) B (by decide +kernel) rfl 5 (by decide) (by decide +kernel) rfl hc3_ rfl dX11_setSupport_22 ?_
  refine z_iload_n B dX11_setSupport_25 rfl 1 rfl ?_
  refine z_ishr B dX11_setSupport_26 ?_
  refine z_top (st1 := [.int 127]) (congrArg (fun w9 : Int32 => ([.int w9] : List Value)) (show ((511 : Int32) >>> ((2 : Int32) &&& (31 : Int32)) : Int32) = 127 by decide +kernel)) ?_
  refine z_iconst (v := 1) B dX11_setSupport_27 rfl ?_
  refine z_iand B dX11_setSupport_28 ?_
  refine z_top (st1 := [.int 1]) (congrArg (fun w9 : Int32 => ([.int w9] : List Value)) (show (127 &&& 1 : Int32) = 1 by decide +kernel)) ?_
  refine z_iconst (v := 1) B dX11_setSupport_29 rfl ?_
  refine z_icmp_ne (tgt := 37) B dX11_setSupport_30 rfl (fun h9 => absurd (by decide) h9) (fun c_3 => ?_)
  refine z_iconst (v := 1) B dX11_setSupport_33 rfl ?_
  refine z_goto (tgt := 38) B dX11_setSupport_34 rfl ?_
  refine z_istore_n (lv' := [(3, .int 1), (0, .ref x), (1, .int 2), (2, .int 0)]) B dX11_setSupport_38 rfl (Nat.le_of_ble_eq_true rfl) rfl ?_
  refine z_iload_n B dX11_setSupport_39 rfl 0 rfl ?_
  refine z_iload_n B dX11_setSupport_40 rfl 3 rfl ?_
  refine z_icmp_eq (tgt := 70) B dX11_setSupport_41 rfl (fun h9 => absurd h9 (by decide)) (fun c_4 => ?_)
  refine z_aload_n B dX11_setSupport_44 rfl 1 rfl ?_
  refine z_get (ref := "FlowExporter") (C := RX11) (T := TX11) (N := 8) (ci := 13) (v := .ref (x + 3)) B (by decide +kernel) rfl 1 (by decide) (by decide +kernel) rfl hc0_ rfl dX11_setSupport_45 ?_
  refine z_aload_n B dX11_setSupport_48 rfl 1 rfl ?_
  refine z_get (ref := "FlowExporter") (C := RX11) (T := TX11) (N := 8) (ci := 13) (v := .ref (x + 3)) B (by decide +kernel) rfl 1 (by decide) (by decide +kernel) rfl hc0_ rfl dX11_setSupport_49 ?_
  refine z_get (ref := "FlowExporter$Config") (C := RX1) (T := TX1) (N := 6) (ci := 3) (v := .int 511) B (by decide +kernel) rfl 5 (by decide) (by decide +kernel) rfl hc3_ rfl dX11_setSupport_52 ?_
  refine z_iconst (v := 1) B dX11_setSupport_55 rfl ?_
  refine z_iload_n B dX11_setSupport_56 rfl 2 rfl ?_
  refine z_ishl B dX11_setSupport_57 ?_
  refine z_top (st1 := [.int 4, .int 511, .ref (x + 3)]) (congrArg (fun w9 : Int32 => ([.int w9, .int 511, .ref (x + 3)] : List Value)) (show ((1 : Int32) <<< ((2 : Int32) &&& (31 : Int32)) : Int32) = 4 by decide +kernel)) ?_
  refine z_ixor B dX11_setSupport_58 ?_
  refine z_top (st1 := [.int 507, .ref (x + 3)]) (congrArg (fun w9 : Int32 => ([.int w9, .ref (x + 3)] : List Value)) (show (511 ^^^ 4 : Int32) = 507 by decide +kernel)) ?_
  refine z_callV (As := [.int 507]) (rest := []) B (f_X1_support_s2 G l Φ sz x hc3_ hc6_ hc7_ hc8_ hc9_ hc10_ hc11_ hc12_ hc14_ hc16_ hc18_ hc20_ hc22_ hna) (cwV 1 B.1.2.2.2.2 gX11_setSupport_X1_support rfl rfl rfl (by decide +kernel) ⟨Nat.le_of_ble_eq_true rfl, Nat.le_of_ble_eq_true rfl⟩) hc3_ rfl rfl rfl rfl (Nat.le_of_ble_eq_true rfl) dX11_setSupport_59 ⟨Nat.le_of_ble_eq_true rfl, Nat.le_of_ble_eq_true rfl⟩ (fun v1 Φ1 sz1 st1 hp1 hs1 => ?_)
  obtain ⟨rfl, hq1, fr1, h_1, h_2, h_3, h_4, h_5, h_6⟩ := hp1
  replace hq1 : sz1 = sz := hq1
  subst sz1
  replace hs1 : st1 = [] := hs1
  subst st1
  have h_7 : Φ1 (x + 10) = some (o_ 12 [.ref (x + 11), .int 8, .int 507, .int 27]) := h_1
  have h_8 : Φ1 (x + 11) = some (ai_ G 9 (upd (upd (upd (upd (upd (upd (upd (upd (upd (upd (upd (upd (upd (upd (upd (upd (upd (fun _ => 0) (0 : Int32).toNatClampNeg 0) (1 : Int32).toNatClampNeg 1) (2 : Int32).toNatClampNeg 2) (3 : Int32).toNatClampNeg 3) (4 : Int32).toNatClampNeg 4) (5 : Int32).toNatClampNeg 5) (6 : Int32).toNatClampNeg 6) (7 : Int32).toNatClampNeg 7) (8 : Int32).toNatClampNeg 8) (0 : Int32).toNatClampNeg 0) (1 : Int32).toNatClampNeg 1) (2 : Int32).toNatClampNeg 3) (3 : Int32).toNatClampNeg 4) (4 : Int32).toNatClampNeg 5) (5 : Int32).toNatClampNeg 6) (6 : Int32).toNatClampNeg 7) (7 : Int32).toNatClampNeg 8)) := h_2
  have h_9 : Φ1 (x + 14) = some (o_ 12 [.ref (x + 15), .int 0, .int 0, .int 0]) := h_3
  have h_10 : Φ1 (x + 18) = some (o_ 12 [.ref (x + 19), .int 0, .int 0, .int 0]) := h_4
  have h_11 : Φ1 (x + 22) = some (o_ 12 [.ref (x + 23), .int 0, .int 0, .int 0]) := h_5
  have h_12 : Φ1 (x + 3) = some (o_ 3 [.ref (x + 4), .ref (x + 5), .ref (x + 6), .ref (x + 7), .int 1, .int 507]) := h_6
  refine z_aload_n B dX11_setSupport_62 rfl 1 rfl ?_
  have h_13 : Φ1 x = some (o_ 13 [.ref (x + 1), .ref (x + 3), .ref (x + 24), .ref (x + 46), .ref (x + 74), .ref (x + 80), .ref (x + 132), .ref (x + 121)]) := ((fr1 x (ne_off (x := x) (i := 0) (j := 10) rfl) (ne_off (x := x) (i := 0) (j := 11) rfl) (ne_off (x := x) (i := 0) (j := 14) rfl) (ne_off (x := x) (i := 0) (j := 18) rfl) (ne_off (x := x) (i := 0) (j := 22) rfl) (ne_off (x := x) (i := 0) (j := 3) rfl)).trans hc0_)
  refine z_get (ref := "FlowExporter") (C := RX11) (T := TX11) (N := 8) (ci := 13) (v := .ref (x + 74)) B (by decide +kernel) rfl 4 (by decide) (by decide +kernel) rfl h_13 rfl dX11_setSupport_63 ?_
  refine z_iload_n B dX11_setSupport_66 rfl 2 rfl ?_
  have h_14 : Φ1 (x + 6) = some (aq_ G 4 4 (va_up (va_up (va_up (va_up (fun _ => none) (0 : Int32).toNatClampNeg (some (x + 8))) (1 : Int32).toNatClampNeg (some (x + 12))) (2 : Int32).toNatClampNeg (some (x + 16))) (3 : Int32).toNatClampNeg (some (x + 20)))) := ((fr1 (x + 6) (ne_off (x := x) (i := 6) (j := 10) rfl) (ne_off (x := x) (i := 6) (j := 11) rfl) (ne_off (x := x) (i := 6) (j := 14) rfl) (ne_off (x := x) (i := 6) (j := 18) rfl) (ne_off (x := x) (i := 6) (j := 22) rfl) (ne_off (x := x) (i := 6) (j := 3) rfl)).trans hc6_)
  have h_15 : Φ1 (x + 8) = some (o_ 12 [.ref (x + 9), .int 9, .int 511, .int 29]) := ((fr1 (x + 8) (ne_off (x := x) (i := 8) (j := 10) rfl) (ne_off (x := x) (i := 8) (j := 11) rfl) (ne_off (x := x) (i := 8) (j := 14) rfl) (ne_off (x := x) (i := 8) (j := 18) rfl) (ne_off (x := x) (i := 8) (j := 22) rfl) (ne_off (x := x) (i := 8) (j := 3) rfl)).trans hc8_)
  have h_16 : Φ1 (x + 12) = some (o_ 12 [.ref (x + 13), .int 0, .int 0, .int 0]) := ((fr1 (x + 12) (ne_off (x := x) (i := 12) (j := 10) rfl) (ne_off (x := x) (i := 12) (j := 11) rfl) (ne_off (x := x) (i := 12) (j := 14) rfl) (ne_off (x := x) (i := 12) (j := 18) rfl) (ne_off (x := x) (i := 12) (j := 22) rfl) (ne_off (x := x) (i := 12) (j := 3) rfl)).trans hc12_)
  have h_17 : Φ1 (x + 16) = some (o_ 12 [.ref (x + 17), .int 0, .int 0, .int 0]) := ((fr1 (x + 16) (ne_off (x := x) (i := 16) (j := 10) rfl) (ne_off (x := x) (i := 16) (j := 11) rfl) (ne_off (x := x) (i := 16) (j := 14) rfl) (ne_off (x := x) (i := 16) (j := 18) rfl) (ne_off (x := x) (i := 16) (j := 22) rfl) (ne_off (x := x) (i := 16) (j := 3) rfl)).trans hc16_)
  have h_18 : Φ1 (x + 20) = some (o_ 12 [.ref (x + 21), .int 0, .int 0, .int 0]) := ((fr1 (x + 20) (ne_off (x := x) (i := 20) (j := 10) rfl) (ne_off (x := x) (i := 20) (j := 11) rfl) (ne_off (x := x) (i := 20) (j := 14) rfl) (ne_off (x := x) (i := 20) (j := 18) rfl) (ne_off (x := x) (i := 20) (j := 22) rfl) (ne_off (x := x) (i := 20) (j := 3) rfl)).trans hc20_)
  have h_19 : Φ1 (x + 74) = some (o_ 10 [.ref (x + 3), .ref (x + 46), .ref (x + 75), .ref (x + 77), .int 0, .ref (x + 78), .ref (x + 79), .int 0, .long 0, .int 0]) := ((fr1 (x + 74) (ne_off (x := x) (i := 74) (j := 10) rfl) (ne_off (x := x) (i := 74) (j := 11) rfl) (ne_off (x := x) (i := 74) (j := 14) rfl) (ne_off (x := x) (i := 74) (j := 18) rfl) (ne_off (x := x) (i := 74) (j := 22) rfl) (ne_off (x := x) (i := 74) (j := 3) rfl)).trans hc74_)
  have h_20 : Φ1 (x + 78) = some (ai_ G 4 (fun _ => 0)) := ((fr1 (x + 78) (ne_off (x := x) (i := 78) (j := 10) rfl) (ne_off (x := x) (i := 78) (j := 11) rfl) (ne_off (x := x) (i := 78) (j := 14) rfl) (ne_off (x := x) (i := 78) (j := 18) rfl) (ne_off (x := x) (i := 78) (j := 22) rfl) (ne_off (x := x) (i := 78) (j := 3) rfl)).trans hc78_)
  refine z_callV (As := [.int 2]) (rest := []) B (f_X8_forget_2 G l Φ1 sz x 507 h_12 h_14 h_15 h_16 h_17 h_18 h_19 h_20 hna) (cwV 1 B.1.2.2.2.2 gX11_setSupport_X8_forgetTemplatesWith rfl rfl rfl (by decide +kernel) ⟨Nat.le_of_ble_eq_true rfl, Nat.le_of_ble_eq_true rfl⟩) h_19 rfl rfl rfl rfl (Nat.le_of_ble_eq_true rfl) dX11_setSupport_67 ⟨Nat.le_of_ble_eq_true rfl, Nat.le_of_ble_eq_true rfl⟩ (fun v2 Φ2 sz2 st2 hp2 hs2 => ?_)
  obtain ⟨rfl, hq2, fr2, h_21⟩ := hp2
  replace hq2 : sz2 = sz := hq2
  subst sz2
  replace hs2 : st2 = [] := hs2
  subst st2
  have h_22 : Φ2 (x + 78) = some (ai_ G 4 (upd (fun _ => 0) (0 : Int32).toNatClampNeg 0)) := h_21
  refine z_iload_n B dX11_setSupport_70 rfl 0 rfl ?_
  exact z_ret_z B dX11_setSupport_71 (by decide) ⟨rfl, fun b9 h9 => ((fr2 b9 (Nat.ne_of_gt (Nat.lt_of_lt_of_le (lt_off (x := x) (i := 78) (j := 149) rfl) h9))).trans ((fr1 b9 (Nat.ne_of_gt (Nat.lt_of_lt_of_le (lt_off (x := x) (i := 10) (j := 149) rfl) h9)) (Nat.ne_of_gt (Nat.lt_of_lt_of_le (lt_off (x := x) (i := 11) (j := 149) rfl) h9)) (Nat.ne_of_gt (Nat.lt_of_lt_of_le (lt_off (x := x) (i := 14) (j := 149) rfl) h9)) (Nat.ne_of_gt (Nat.lt_of_lt_of_le (lt_off (x := x) (i := 18) (j := 149) rfl) h9)) (Nat.ne_of_gt (Nat.lt_of_lt_of_le (lt_off (x := x) (i := 22) (j := 149) rfl) h9)) (Nat.ne_of_gt (Nat.lt_of_lt_of_le (lt_off (x := x) (i := 3) (j := 149) rfl) h9))).trans rfl))⟩

set_option maxHeartbeats 4000000 in
set_option maxRecDepth 100000 in
theorem f_X11_setSupport_2_1 (G : EnvG) (l : Launch) (Φ : Hm) (sz : Nat) (x : Nat) (hc0_ : Φ x = some (o_ 13 [.ref (x + 1), .ref (x + 3), .ref (x + 24), .ref (x + 46), .ref (x + 74), .ref (x + 80), .ref (x + 132), .ref (x + 121)])) (hc3_ : Φ (x + 3) = some (o_ 3 [.ref (x + 4), .ref (x + 5), .ref (x + 6), .ref (x + 7), .int 1, .int 511])) : Ct G l yX11_setSupport wsX11_setSupport ({ frames := 0, cells := 0, slots := 0, locals := 0 }) 0 0 [.ref x, .int 2, .int 1] Φ sz (fun v Φ1 sz1 => v = some (.int 1) ∧ ∀ b9 : Nat, x + 149 ≤ b9 → Φ1 b9 = Φ b9) := by
  refine Ct.of (cc := cX11_setSupport) (maxL := 4) (ret := (some .boolean)) (by decide) rfl (Nat.le_of_ble_eq_true rfl) ?_
  intro p9 e9 s9 m9 w9 t9 k9 B
  show Z p9 l e9 _ s9 m9 _ w9 t9 k9 _ G 4 0 [(0, .ref x), (1, .int 2), (2, .int 1)] [] Φ sz 0 0
  refine z_iload_n B dX11_setSupport_0 rfl 1 rfl ?_
  refine z_if_lt (tgt := 10) B dX11_setSupport_1 rfl (fun h9 => absurd h9 (by decide)) (fun c_1 => ?_)
  refine z_iload_n B dX11_setSupport_4 rfl 1 rfl ?_
  refine z_bipush (v := 9) B dX11_setSupport_5 rfl ?_
  refine z_icmp_lt (tgt := 18) B dX11_setSupport_7 rfl (fun c_2 => ?_) (fun h9 => absurd (by decide) h9)
  refine z_aload_n B dX11_setSupport_18 rfl 0 rfl ?_
  refine z_get (ref := "FlowExporter") (C := RX11) (T := TX11) (N := 8) (ci := 13) (v := .ref (x + 3)) B (by decide +kernel) rfl 1 (by decide) (by decide +kernel) rfl hc0_ rfl dX11_setSupport_19 ?_
  refine z_get (ref := "FlowExporter$Config") (C := RX1) (T := TX1) (N := 6) (ci := 3) (v := .int 511) B (by decide +kernel) rfl 5 (by decide) (by decide +kernel) rfl hc3_ rfl dX11_setSupport_22 ?_
  refine z_iload_n B dX11_setSupport_25 rfl 1 rfl ?_
  refine z_ishr B dX11_setSupport_26 ?_
  refine z_top (st1 := [.int 127]) (congrArg (fun w9 : Int32 => ([.int w9] : List Value)) (show ((511 : Int32) >>> ((2 : Int32) &&& (31 : Int32)) : Int32) = 127 by decide +kernel)) ?_
  refine z_iconst (v := 1) B dX11_setSupport_27 rfl ?_
  refine z_iand B dX11_setSupport_28 ?_
  refine z_top (st1 := [.int 1]) (congrArg (fun w9 : Int32 => ([.int w9] : List Value)) (show (127 &&& 1 : Int32) = 1 by decide +kernel)) ?_
  refine z_iconst (v := 1) B dX11_setSupport_29 rfl ?_
  refine z_icmp_ne (tgt := 37) B dX11_setSupport_30 rfl (fun h9 => absurd (by decide) h9) (fun c_3 => ?_)
  refine z_iconst (v := 1) B dX11_setSupport_33 rfl ?_
  refine z_goto (tgt := 38) B dX11_setSupport_34 rfl ?_
  refine z_istore_n (lv' := [(3, .int 1), (0, .ref x), (1, .int 2), (2, .int 1)]) B dX11_setSupport_38 rfl (Nat.le_of_ble_eq_true rfl) rfl ?_
  refine z_iload_n B dX11_setSupport_39 rfl 0 rfl ?_
  refine z_iload_n B dX11_setSupport_40 rfl 3 rfl ?_
  refine z_icmp_eq (tgt := 70) B dX11_setSupport_41 rfl (fun c_4 => ?_) (fun h9 => absurd (by decide) h9)
  refine z_iload_n B dX11_setSupport_70 rfl 0 rfl ?_
  exact z_ret_z B dX11_setSupport_71 (by decide) ⟨rfl, fun b9 h9 => rfl⟩

set_option maxHeartbeats 4000000 in
set_option maxRecDepth 100000 in
theorem f_X10_has_0_3 (G : EnvG) (l : Launch) (Φ : Hm) (sz : Nat) (x : Nat) (hc8_ : Φ (x + 8) = some (o_ 12 [.ref (x + 9), .int 9, .int 511, .int 29])) : Ct G l yX10_has wsX10_has ({ frames := 0, cells := 0, slots := 0, locals := 0 }) 0 0 [.ref (x + 8), .int 3] Φ sz (fun v Φ1 sz1 => v = some (.int 1) ∧ sz1 = sz ∧ (∀ b9 : Nat, Φ1 b9 = Φ b9)) := by
  refine Ct.of (cc := cX10_has) (maxL := 2) (ret := (some .boolean)) (by decide) rfl (Nat.le_of_ble_eq_true rfl) ?_
  intro p9 e9 s9 m9 w9 t9 k9 B
  show Z p9 l e9 _ s9 m9 _ w9 t9 k9 _ G 2 0 [(0, .ref (x + 8)), (1, .int 3)] [] Φ sz 0 0
  refine z_iload_n B dX10_has_0 rfl 1 rfl ?_
  refine z_if_lt (tgt := 26) B dX10_has_1 rfl (fun h9 => absurd h9 (by decide)) (fun c_1 => ?_)
  refine z_iload_n B dX10_has_4 rfl 1 rfl ?_
  refine z_bipush (v := 9) B dX10_has_5 rfl ?_
  refine z_icmp_ge (tgt := 26) B dX10_has_7 rfl (fun h9 => absurd h9 (by decide)) (fun c_2 => ?_)
  refine z_aload_n B dX10_has_10 rfl 0 rfl ?_
  refine z_get (ref := "FlowExporter$Template") (C := RX10) (T := TX10) (N := 4) (ci := 12) (v := .int 511) B (by decide +kernel) rfl 2 (by decide) (by decide +kernel) rfl hc8_ rfl dX10_has_11 ?_
  refine z_iload_n B dX10_has_14 rfl 1 rfl ?_
  refine z_ishr B dX10_has_15 ?_
  refine z_top (st1 := [.int 63]) (congrArg (fun w9 : Int32 => ([.int w9] : List Value)) (show ((511 : Int32) >>> ((3 : Int32) &&& (31 : Int32)) : Int32) = 63 by decide +kernel)) ?_
  refine z_iconst (v := 1) B dX10_has_16 rfl ?_
  refine z_iand B dX10_has_17 ?_
  refine z_top (st1 := [.int 1]) (congrArg (fun w9 : Int32 => ([.int w9] : List Value)) (show (63 &&& 1 : Int32) = 1 by decide +kernel)) ?_
  refine z_iconst (v := 1) B dX10_has_18 rfl ?_
  refine z_icmp_ne (tgt := 26) B dX10_has_19 rfl (fun h9 => absurd (by decide) h9) (fun c_3 => ?_)
  refine z_iconst (v := 1) B dX10_has_22 rfl ?_
  refine z_goto (tgt := 27) B dX10_has_23 rfl ?_
  exact z_ret_z B dX10_has_27 (by decide) ⟨rfl, rfl, (fun b9 => rfl)⟩

set_option maxHeartbeats 4000000 in
set_option maxRecDepth 100000 in
theorem f_X10_has_1_3 (G : EnvG) (l : Launch) (Φ : Hm) (sz : Nat) (x : Nat) (hc12_ : Φ (x + 12) = some (o_ 12 [.ref (x + 13), .int 0, .int 0, .int 0])) : Ct G l yX10_has wsX10_has ({ frames := 0, cells := 0, slots := 0, locals := 0 }) 0 0 [.ref (x + 12), .int 3] Φ sz (fun v Φ1 sz1 => v = some (.int 0) ∧ sz1 = sz ∧ (∀ b9 : Nat, Φ1 b9 = Φ b9)) := by
  refine Ct.of (cc := cX10_has) (maxL := 2) (ret := (some .boolean)) (by decide) rfl (Nat.le_of_ble_eq_true rfl) ?_
  intro p9 e9 s9 m9 w9 t9 k9 B
  show Z p9 l e9 _ s9 m9 _ w9 t9 k9 _ G 2 0 [(0, .ref (x + 12)), (1, .int 3)] [] Φ sz 0 0
  refine z_iload_n B dX10_has_0 rfl 1 rfl ?_
  refine z_if_lt (tgt := 26) B dX10_has_1 rfl (fun h9 => absurd h9 (by decide)) (fun c_1 => ?_)
  refine z_iload_n B dX10_has_4 rfl 1 rfl ?_
  refine z_bipush (v := 9) B dX10_has_5 rfl ?_
  refine z_icmp_ge (tgt := 26) B dX10_has_7 rfl (fun h9 => absurd h9 (by decide)) (fun c_2 => ?_)
  refine z_aload_n B dX10_has_10 rfl 0 rfl ?_
  refine z_get (ref := "FlowExporter$Template") (C := RX10) (T := TX10) (N := 4) (ci := 12) (v := .int 0) B (by decide +kernel) rfl 2 (by decide) (by decide +kernel) rfl hc12_ rfl dX10_has_11 ?_
  refine z_iload_n B dX10_has_14 rfl 1 rfl ?_
  refine z_ishr B dX10_has_15 ?_
  refine z_top (st1 := [.int 0]) (congrArg (fun w9 : Int32 => ([.int w9] : List Value)) (show ((0 : Int32) >>> ((3 : Int32) &&& (31 : Int32)) : Int32) = 0 by decide +kernel)) ?_
  refine z_iconst (v := 1) B dX10_has_16 rfl ?_
  refine z_iand B dX10_has_17 ?_
  refine z_top (st1 := [.int 0]) (congrArg (fun w9 : Int32 => ([.int w9] : List Value)) (show (0 &&& 1 : Int32) = 0 by decide +kernel)) ?_
  refine z_iconst (v := 1) B dX10_has_18 rfl ?_
  refine z_icmp_ne (tgt := 26) B dX10_has_19 rfl (fun c_3 => ?_) (fun h9 => absurd h9 (by decide))
  refine z_iconst (v := 0) B dX10_has_26 rfl ?_
  exact z_ret_z B dX10_has_27 (by decide) ⟨rfl, rfl, (fun b9 => rfl)⟩

set_option maxHeartbeats 4000000 in
set_option maxRecDepth 100000 in
theorem f_X10_has_2_3 (G : EnvG) (l : Launch) (Φ : Hm) (sz : Nat) (x : Nat) (hc16_ : Φ (x + 16) = some (o_ 12 [.ref (x + 17), .int 0, .int 0, .int 0])) : Ct G l yX10_has wsX10_has ({ frames := 0, cells := 0, slots := 0, locals := 0 }) 0 0 [.ref (x + 16), .int 3] Φ sz (fun v Φ1 sz1 => v = some (.int 0) ∧ sz1 = sz ∧ (∀ b9 : Nat, Φ1 b9 = Φ b9)) := by
  refine Ct.of (cc := cX10_has) (maxL := 2) (ret := (some .boolean)) (by decide) rfl (Nat.le_of_ble_eq_true rfl) ?_
  intro p9 e9 s9 m9 w9 t9 k9 B
  show Z p9 l e9 _ s9 m9 _ w9 t9 k9 _ G 2 0 [(0, .ref (x + 16)), (1, .int 3)] [] Φ sz 0 0
  refine z_iload_n B dX10_has_0 rfl 1 rfl ?_
  refine z_if_lt (tgt := 26) B dX10_has_1 rfl (fun h9 => absurd h9 (by decide)) (fun c_1 => ?_)
  refine z_iload_n B dX10_has_4 rfl 1 rfl ?_
  refine z_bipush (v := 9) B dX10_has_5 rfl ?_
  refine z_icmp_ge (tgt := 26) B dX10_has_7 rfl (fun h9 => absurd h9 (by decide)) (fun c_2 => ?_)
  refine z_aload_n B dX10_has_10 rfl 0 rfl ?_
  refine z_get (ref := "FlowExporter$Template") (C := RX10) (T := TX10) (N := 4) (ci := 12) (v := .int 0) B (by decide +kernel) rfl 2 (by decide) (by decide +kernel) rfl hc16_ rfl dX10_has_11 ?_
  refine z_iload_n B dX10_has_14 rfl 1 rfl ?_
  refine z_ishr B dX10_has_15 ?_
  refine z_top (st1 := [.int 0]) (congrArg (fun w9 : Int32 => ([.int w9] : List Value)) (show ((0 : Int32) >>> ((3 : Int32) &&& (31 : Int32)) : Int32) = 0 by decide +kernel)) ?_
  refine z_iconst (v := 1) B dX10_has_16 rfl ?_
  refine z_iand B dX10_has_17 ?_
  refine z_top (st1 := [.int 0]) (congrArg (fun w9 : Int32 => ([.int w9] : List Value)) (show (0 &&& 1 : Int32) = 0 by decide +kernel)) ?_
  refine z_iconst (v := 1) B dX10_has_18 rfl ?_
  refine z_icmp_ne (tgt := 26) B dX10_has_19 rfl (fun c_3 => ?_) (fun h9 => absurd h9 (by decide))
  refine z_iconst (v := 0) B dX10_has_26 rfl ?_
  exact z_ret_z B dX10_has_27 (by decide) ⟨rfl, rfl, (fun b9 => rfl)⟩

set_option maxHeartbeats 4000000 in
set_option maxRecDepth 100000 in
theorem f_X10_has_3_3 (G : EnvG) (l : Launch) (Φ : Hm) (sz : Nat) (x : Nat) (hc20_ : Φ (x + 20) = some (o_ 12 [.ref (x + 21), .int 0, .int 0, .int 0])) : Ct G l yX10_has wsX10_has ({ frames := 0, cells := 0, slots := 0, locals := 0 }) 0 0 [.ref (x + 20), .int 3] Φ sz (fun v Φ1 sz1 => v = some (.int 0) ∧ sz1 = sz ∧ (∀ b9 : Nat, Φ1 b9 = Φ b9)) := by
  refine Ct.of (cc := cX10_has) (maxL := 2) (ret := (some .boolean)) (by decide) rfl (Nat.le_of_ble_eq_true rfl) ?_
  intro p9 e9 s9 m9 w9 t9 k9 B
  show Z p9 l e9 _ s9 m9 _ w9 t9 k9 _ G 2 0 [(0, .ref (x + 20)), (1, .int 3)] [] Φ sz 0 0
  refine z_iload_n B dX10_has_0 rfl 1 rfl ?_
  refine z_if_lt (tgt := 26) B dX10_has_1 rfl (fun h9 => absurd h9 (by decide)) (fun c_1 => ?_)
  refine z_iload_n B dX10_has_4 rfl 1 rfl ?_
  refine z_bipush (v := 9) B dX10_has_5 rfl ?_
  refine z_icmp_ge (tgt := 26) B dX10_has_7 rfl (fun h9 => absurd h9 (by decide)) (fun c_2 => ?_)
  refine z_aload_n B dX10_has_10 rfl 0 rfl ?_
  refine z_get (ref := "FlowExporter$Template") (C := RX10) (T := TX10) (N := 4) (ci := 12) (v := .int 0) B (by decide +kernel) rfl 2 (by decide) (by decide +kernel) rfl hc20_ rfl dX10_has_11 ?_
  refine z_iload_n B dX10_has_14 rfl 1 rfl ?_
  refine z_ishr B dX10_has_15 ?_
  refine z_top (st1 := [.int 0]) (congrArg (fun w9 : Int32 => ([.int w9] : List Value)) (show ((0 : Int32) >>> ((3 : Int32) &&& (31 : Int32)) : Int32) = 0 by decide +kernel)) ?_
  refine z_iconst (v := 1) B dX10_has_16 rfl ?_
  refine z_iand B dX10_has_17 ?_
  refine z_top (st1 := [.int 0]) (congrArg (fun w9 : Int32 => ([.int w9] : List Value)) (show (0 &&& 1 : Int32) = 0 by decide +kernel)) ?_
  refine z_iconst (v := 1) B dX10_has_18 rfl ?_
  refine z_icmp_ne (tgt := 26) B dX10_has_19 rfl (fun c_3 => ?_) (fun h9 => absurd h9 (by decide))
  refine z_iconst (v := 0) B dX10_has_26 rfl ?_
  exact z_ret_z B dX10_has_27 (by decide) ⟨rfl, rfl, (fun b9 => rfl)⟩

set_option maxHeartbeats 4000000 in
set_option maxRecDepth 100000 in
theorem f_X8_forget_3 (G : EnvG) (l : Launch) (Φ : Hm) (sz : Nat) (x : Nat) (u : Int32) (hc3_ : Φ (x + 3) = some (o_ 3 [.ref (x + 4), .ref (x + 5), .ref (x + 6), .ref (x + 7), .int 1, .int u])) (hc6_ : Φ (x + 6) = some (aq_ G 4 4 (va_up (va_up (va_up (va_up (fun _ => none) (0 : Int32).toNatClampNeg (some (x + 8))) (1 : Int32).toNatClampNeg (some (x + 12))) (2 : Int32).toNatClampNeg (some (x + 16))) (3 : Int32).toNatClampNeg (some (x + 20))))) (hc8_ : Φ (x + 8) = some (o_ 12 [.ref (x + 9), .int 9, .int 511, .int 29])) (hc12_ : Φ (x + 12) = some (o_ 12 [.ref (x + 13), .int 0, .int 0, .int 0])) (hc16_ : Φ (x + 16) = some (o_ 12 [.ref (x + 17), .int 0, .int 0, .int 0])) (hc20_ : Φ (x + 20) = some (o_ 12 [.ref (x + 21), .int 0, .int 0, .int 0])) (hc74_ : Φ (x + 74) = some (o_ 10 [.ref (x + 3), .ref (x + 46), .ref (x + 75), .ref (x + 77), .int 0, .ref (x + 78), .ref (x + 79), .int 0, .long 0, .int 0])) (hc78_ : Φ (x + 78) = some (ai_ G 4 (fun _ => 0))) (hna : G.2.2.2 ≤ x) : Ct G l yX8_forgetTemplatesWith wsX8_forgetTemplatesWith ({ frames := 1, cells := 0, slots := 0, locals := 21 }) 0 0 [.ref (x + 74), .int 3] Φ sz (fun v Φ1 sz1 => v = none ∧ sz1 = sz ∧ (∀ b9 : Nat, b9 ≠ x + 78 → Φ1 b9 = Φ b9) ∧ Φ1 (x + 78) = some (ai_ G 4 (upd (fun _ => 0) (0 : Int32).toNatClampNeg 0))) := by
  refine Ct.of (cc := cX8_forgetTemplatesWith) (maxL := 3) (ret := none) (by decide) rfl (Nat.le_of_ble_eq_true rfl) ?_
  intro p9 e9 s9 m9 w9 t9 k9 B
  show Z p9 l e9 _ s9 m9 _ w9 t9 k9 _ G 3 0 [(0, .ref (x + 74)), (1, .int 3)] [] Φ sz 0 0
  refine z_iconst (v := 0) B dX8_forgetTemplatesWith_0 rfl ?_
  refine z_istore_n (lv' := [(2, .int 0), (0, .ref (x + 74)), (1, .int 3)]) B dX8_forgetTemplatesWith_1 rfl (Nat.le_of_ble_eq_true rfl) rfl ?_
  refine z_iload_n B dX8_forgetTemplatesWith_2 rfl 0 rfl ?_
  refine z_iconst (v := 4) B dX8_forgetTemplatesWith_3 rfl ?_
  refine z_icmp_ge (tgt := 35) B dX8_forgetTemplatesWith_4 rfl (fun h9 => absurd h9 (by decide)) (fun c_1 => ?_)
  refine z_aload_n B dX8_forgetTemplatesWith_7 rfl 1 rfl ?_
  refine z_get (ref := "FlowExporter$Sender") (C := RX8) (T := TX8) (N := 10) (ci := 10) (v := .ref (x + 3)) B (by decide +kernel) rfl 0 (by decide) (by decide +kernel) rfl hc74_ rfl dX8_forgetTemplatesWith_8 ?_
  refine z_iload_n B dX8_forgetTemplatesWith_11 rfl 0 rfl ?_
  refine z_callV (As := [.int 0]) (rest := []) B (f_X1_template_u0 G l Φ sz x u hc3_ hc6_) (cwV 1 B.1.2.2.2.2 gX8_forgetTemplatesWith_X1_template rfl rfl rfl (by decide +kernel) ⟨Nat.le_of_ble_eq_true rfl, Nat.le_of_ble_eq_true rfl⟩) hc3_ rfl rfl rfl rfl (Nat.le_of_ble_eq_true rfl) dX8_forgetTemplatesWith_12 ⟨Nat.le_of_ble_eq_true rfl, Nat.le_of_ble_eq_true rfl⟩ (fun v1 Φ1 sz1 st1 hp1 hs1 => ?_)
  obtain ⟨rfl, hq1, fr1⟩ := hp1
  replace hq1 : sz1 = sz := hq1
  subst sz1
  replace hs1 : st1 = [.ref (x + 8)] := hs1
  subst st1
  refine z_iload_n B dX8_forgetTemplatesWith_15 rfl 2 rfl ?_
  have h_1 : Φ1 (x + 8) = some (o_ 12 [.ref (x + 9), .int 9, .int 511, .int 29]) := ((fr1 (x + 8)).trans hc8_)
  refine z_callV (As := [.int 3]) (rest := []) B (f_X10_has_0_3 G l Φ1 sz x h_1) (cwV 1 B.1.2.2.2.2 gX8_forgetTemplatesWith_X10_has rfl rfl rfl (by decide +kernel) ⟨Nat.le_of_ble_eq_true rfl, Nat.le_of_ble_eq_true rfl⟩) h_1 rfl rfl rfl rfl (Nat.le_of_ble_eq_true rfl) dX8_forgetTemplatesWith_16 ⟨Nat.le_of_ble_eq_true rfl, Nat.le_of_ble_eq_true rfl⟩ (fun v2 Φ2 sz2 st2 hp2 hs2 => ?_)
  obtain ⟨rfl, hq2, fr2⟩ := hp2
  replace hq2 : sz2 = sz := hq2
  subst sz2
  replace hs2 : st2 = [.int 1] := hs2
  subst st2
  refine z_if_eq (tgt := 29) B dX8_forgetTemplatesWith_19 rfl (fun h9 => absurd h9 (by decide)) (fun c_2 => ?_)
  refine z_aload_n B dX8_forgetTemplatesWith_22 rfl 1 rfl ?_
  have h_2 : Φ2 (x + 74) = some (o_ 10 [.ref (x + 3), .ref (x + 46), .ref (x + 75), .ref (x + 77), .int 0, .ref (x + 78), .ref (x + 79), .int 0, .long 0, .int 0]) := ((fr2 (x + 74)).trans ((fr1 (x + 74)).trans hc74_))
  refine z_get (ref := "FlowExporter$Sender") (C := RX8) (T := TX8) (N := 10) (ci := 10) (v := .ref (x + 78)) B (by decide +kernel) rfl 5 (by decide) (by decide +kernel) rfl h_2 rfl dX8_forgetTemplatesWith_23 ?_
  refine z_iload_n B dX8_forgetTemplatesWith_26 rfl 0 rfl ?_
  refine z_iconst (v := 0) B dX8_forgetTemplatesWith_27 rfl ?_
  have h_3 : Φ2 (x + 78) = some (ai_ G 4 (fun _ => 0)) := ((fr2 (x + 78)).trans ((fr1 (x + 78)).trans hc78_))
  refine z_iast B h_3 (Nat.le_trans hna (Nat.le_add_right x 78)) (vin rfl) dX8_forgetTemplatesWith_28 (fun Φ3 hΦ1 => ?_)
  have h_4 : Φ3 (x + 78) = some (ai_ G 4 (upd (fun _ => 0) (0 : Int32).toNatClampNeg 0)) := fset_at hΦ1
  refine z_iinc (k := 0) (v := 1) (lv' := [(2, .int 1), (0, .ref (x + 74)), (1, .int 3)]) B dX8_forgetTemplatesWith_29 rfl rfl (Nat.le_of_ble_eq_true rfl) rfl ?_
  refine z_goto (tgt := 2) B dX8_forgetTemplatesWith_32 rfl ?_
  refine z_iload_n B dX8_forgetTemplatesWith_2 rfl 0 rfl ?_
  refine z_iconst (v := 4) B dX8_forgetTemplatesWith_3 rfl ?_
  refine z_icmp_ge (tgt := 35) B dX8_forgetTemplatesWith_4 rfl (fun h9 => absurd h9 (by decide)) (fun c_3 => ?_)
  refine z_aload_n B dX8_forgetTemplatesWith_7 rfl 1 rfl ?_
  have h_5 : Φ3 (x + 74) = some (o_ 10 [.ref (x + 3), .ref (x + 46), .ref (x + 75), .ref (x + 77), .int 0, .ref (x + 78), .ref (x + 79), .int 0, .long 0, .int 0]) := ((fset_fr hΦ1 (ne_off (x := x) (i := 74) (j := 78) rfl)).trans h_2)
  refine z_get (ref := "FlowExporter$Sender") (C := RX8) (T := TX8) (N := 10) (ci := 10) (v := .ref (x + 3)) B (by decide +kernel) rfl 0 (by decide) (by decide +kernel) rfl h_5 rfl dX8_forgetTemplatesWith_8 ?_
  refine z_iload_n B dX8_forgetTemplatesWith_11 rfl 0 rfl ?_
  have h_6 : Φ3 (x + 3) = some (o_ 3 [.ref (x + 4), .ref (x + 5), .ref (x + 6), .ref (x + 7), .int 1, .int u]) := ((fset_fr hΦ1 (ne_off (x := x) (i := 3) (j := 78) rfl)).trans ((fr2 (x + 3)).trans ((fr1 (x + 3)).trans hc3_)))
  have h_7 : Φ3 (x + 6) = some (aq_ G 4 4 (va_up (va_up (va_up (va_up (fun _ => none) (0 : Int32).toNatClampNeg (some (x + 8))) (1 : Int32).toNatClampNeg (some (x + 12))) (2 : Int32).toNatClampNeg (some (x + 16))) (3 : Int32).toNatClampNeg (some (x + 20)))) := ((fset_fr hΦ1 (ne_off (x := x) (i := 6) (j := 78) rfl)).trans ((fr2 (x + 6)).trans ((fr1 (x + 6)).trans hc6_)))
  refine z_callV (As := [.int 1]) (rest := []) B (f_X1_template_u1 G l Φ3 sz x u h_6 h_7) (cwV 1 B.1.2.2.2.2 gX8_forgetTemplatesWith_X1_template rfl rfl rfl (by decide +kernel) ⟨Nat.le_of_ble_eq_true rfl, Nat.le_of_ble_eq_true rfl⟩) h_6 rfl rfl rfl rfl (Nat.le_of_ble_eq_true rfl) dX8_forgetTemplatesWith_12 ⟨Nat.le_of_ble_eq_true rfl, Nat.le_of_ble_eq_true rfl⟩ (fun v3 Φ4 sz3 st3 hp3 hs3 => ?_)
  obtain ⟨rfl, hq3, fr3⟩ := hp3
  replace hq3 : sz3 = sz := hq3
  subst sz3
  replace hs3 : st3 = [.ref (x + 12)] := hs3
  subst st3
  refine z_iload_n B dX8_forgetTemplatesWith_15 rfl 2 rfl ?_
  have h_8 : Φ4 (x + 12) = some (o_ 12 [.ref (x + 13), .int 0, .int 0, .int 0]) := ((fr3 (x + 12)).trans ((fset_fr hΦ1 (ne_off (x := x) (i := 12) (j := 78) rfl)).trans ((fr2 (x + 12)).trans ((fr1 (x + 12)).trans hc12_))))
  refine z_callV (As := [.int 3]) (rest := []) B (f_X10_has_1_3 G l Φ4 sz x h_8) (cwV 1 B.1.2.2.2.2 gX8_forgetTemplatesWith_X10_has rfl rfl rfl (by decide +kernel) ⟨Nat.le_of_ble_eq_true rfl, Nat.le_of_ble_eq_true rfl⟩) h_8 rfl rfl rfl rfl (Nat.le_of_ble_eq_true rfl) dX8_forgetTemplatesWith_16 ⟨Nat.le_of_ble_eq_true rfl, Nat.le_of_ble_eq_true rfl⟩ (fun v4 Φ5 sz4 st4 hp4 hs4 => ?_)
  obtain ⟨rfl, hq4, fr4⟩ := hp4
  replace hq4 : sz4 = sz := hq4
  subst sz4
  replace hs4 : st4 = [.int 0] := hs4
  subst st4
  refine z_if_eq (tgt := 29) B dX8_forgetTemplatesWith_19 rfl (fun c_4 => ?_) (fun h9 => absurd (by decide) h9)
  refine z_iinc (k := 0) (v := 2) (lv' := [(2, .int 2), (0, .ref (x + 74)), (1, .int 3)]) B dX8_forgetTemplatesWith_29 rfl rfl (Nat.le_of_ble_eq_true rfl) rfl ?_
  refine z_goto (tgt := 2) B dX8_forgetTemplatesWith_32 rfl ?_
  refine z_iload_n B dX8_forgetTemplatesWith_2 rfl 0 rfl ?_
  refine z_iconst (v := 4) B dX8_forgetTemplatesWith_3 rfl ?_
  refine z_icmp_ge (tgt := 35) B dX8_forgetTemplatesWith_4 rfl (fun h9 => absurd h9 (by decide)) (fun c_5 => ?_)
  refine z_aload_n B dX8_forgetTemplatesWith_7 rfl 1 rfl ?_
  have h_9 : Φ5 (x + 74) = some (o_ 10 [.ref (x + 3), .ref (x + 46), .ref (x + 75), .ref (x + 77), .int 0, .ref (x + 78), .ref (x + 79), .int 0, .long 0, .int 0]) := ((fr4 (x + 74)).trans ((fr3 (x + 74)).trans h_5))
  refine z_get (ref := "FlowExporter$Sender") (C := RX8) (T := TX8) (N := 10) (ci := 10) (v := .ref (x + 3)) B (by decide +kernel) rfl 0 (by decide) (by decide +kernel) rfl h_9 rfl dX8_forgetTemplatesWith_8 ?_
  refine z_iload_n B dX8_forgetTemplatesWith_11 rfl 0 rfl ?_
  have h_10 : Φ5 (x + 3) = some (o_ 3 [.ref (x + 4), .ref (x + 5), .ref (x + 6), .ref (x + 7), .int 1, .int u]) := ((fr4 (x + 3)).trans ((fr3 (x + 3)).trans h_6))
  have h_11 : Φ5 (x + 6) = some (aq_ G 4 4 (va_up (va_up (va_up (va_up (fun _ => none) (0 : Int32).toNatClampNeg (some (x + 8))) (1 : Int32).toNatClampNeg (some (x + 12))) (2 : Int32).toNatClampNeg (some (x + 16))) (3 : Int32).toNatClampNeg (some (x + 20)))) := ((fr4 (x + 6)).trans ((fr3 (x + 6)).trans h_7))
  refine z_callV (As := [.int 2]) (rest := []) B (f_X1_template_u2 G l Φ5 sz x u h_10 h_11) (cwV 1 B.1.2.2.2.2 gX8_forgetTemplatesWith_X1_template rfl rfl rfl (by decide +kernel) ⟨Nat.le_of_ble_eq_true rfl, Nat.le_of_ble_eq_true rfl⟩) h_10 rfl rfl rfl rfl (Nat.le_of_ble_eq_true rfl) dX8_forgetTemplatesWith_12 ⟨Nat.le_of_ble_eq_true rfl, Nat.le_of_ble_eq_true rfl⟩ (fun v5 Φ6 sz5 st5 hp5 hs5 => ?_)
  obtain ⟨rfl, hq5, fr5⟩ := hp5
  replace hq5 : sz5 = sz := hq5
  subst sz5
  replace hs5 : st5 = [.ref (x + 16)] := hs5
  subst st5
  refine z_iload_n B dX8_forgetTemplatesWith_15 rfl 2 rfl ?_
  have h_12 : Φ6 (x + 16) = some (o_ 12 [.ref (x + 17), .int 0, .int 0, .int 0]) := ((fr5 (x + 16)).trans ((fr4 (x + 16)).trans ((fr3 (x + 16)).trans ((fset_fr hΦ1 (ne_off (x := x) (i := 16) (j := 78) rfl)).trans ((fr2 (x + 16)).trans ((fr1 (x + 16)).trans hc16_))))))
  refine z_callV (As := [.int 3]) (rest := []) B (f_X10_has_2_3 G l Φ6 sz x h_12) (cwV 1 B.1.2.2.2.2 gX8_forgetTemplatesWith_X10_has rfl rfl rfl (by decide +kernel) ⟨Nat.le_of_ble_eq_true rfl, Nat.le_of_ble_eq_true rfl⟩) h_12 rfl rfl rfl rfl (Nat.le_of_ble_eq_true rfl) dX8_forgetTemplatesWith_16 ⟨Nat.le_of_ble_eq_true rfl, Nat.le_of_ble_eq_true rfl⟩ (fun v6 Φ7 sz6 st6 hp6 hs6 => ?_)
  obtain ⟨rfl, hq6, fr6⟩ := hp6
  replace hq6 : sz6 = sz := hq6
  subst sz6
  replace hs6 : st6 = [.int 0] := hs6
  subst st6
  refine z_if_eq (tgt := 29) B dX8_forgetTemplatesWith_19 rfl (fun c_6 => ?_) (fun h9 => absurd (by decide) h9)
  refine z_iinc (k := 0) (v := 3) (lv' := [(2, .int 3), (0, .ref (x + 74)), (1, .int 3)]) B dX8_forgetTemplatesWith_29 rfl rfl (Nat.le_of_ble_eq_true rfl) rfl ?_
  refine z_goto (tgt := 2) B dX8_forgetTemplatesWith_32 rfl ?_
  refine z_iload_n B dX8_forgetTemplatesWith_2 rfl 0 rfl ?_
  refine z_iconst (v := 4) B dX8_forgetTemplatesWith_3 rfl ?_
  refine z_icmp_ge (tgt := 35) B dX8_forgetTemplatesWith_4 rfl (fun h9 => absurd h9 (by decide)) (fun c_7 => ?_)
  refine z_aload_n B dX8_forgetTemplatesWith_7 rfl 1 rfl ?_
  have h_13 : Φ7 (x + 74) = some (o_ 10 [.ref (x + 3), .ref (x + 46), .ref (x + 75), .ref (x + 77), .int 0, .ref (x + 78), .ref (x + 79), .int 0, .long 0, .int 0]) := ((fr6 (x + 74)).trans ((fr5 (x + 74)).trans h_9))
  refine z_get (ref := "FlowExporter$Sender") (C := RX8) (T := TX8) (N := 10) (ci := 10) (v := .ref (x + 3)) B (by decide +kernel) rfl 0 (by decide) (by decide +kernel) rfl h_13 rfl dX8_forgetTemplatesWith_8 ?_
  refine z_iload_n B dX8_forgetTemplatesWith_11 rfl 0 rfl ?_
  have h_14 : Φ7 (x + 3) = some (o_ 3 [.ref (x + 4), .ref (x + 5), .ref (x + 6), .ref (x + 7), .int 1, .int u]) := ((fr6 (x + 3)).trans ((fr5 (x + 3)).trans h_10))
  have h_15 : Φ7 (x + 6) = some (aq_ G 4 4 (va_up (va_up (va_up (va_up (fun _ => none) (0 : Int32).toNatClampNeg (some (x + 8))) (1 : Int32).toNatClampNeg (some (x + 12))) (2 : Int32).toNatClampNeg (some (x + 16))) (3 : Int32).toNatClampNeg (some (x + 20)))) := ((fr6 (x + 6)).trans ((fr5 (x + 6)).trans h_11))
  refine z_callV (As := [.int 3]) (rest := []) B (f_X1_template_u3 G l Φ7 sz x u h_14 h_15) (cwV 1 B.1.2.2.2.2 gX8_forgetTemplatesWith_X1_template rfl rfl rfl (by decide +kernel) ⟨Nat.le_of_ble_eq_true rfl, Nat.le_of_ble_eq_true rfl⟩) h_14 rfl rfl rfl rfl (Nat.le_of_ble_eq_true rfl) dX8_forgetTemplatesWith_12 ⟨Nat.le_of_ble_eq_true rfl, Nat.le_of_ble_eq_true rfl⟩ (fun v7 Φ8 sz7 st7 hp7 hs7 => ?_)
  obtain ⟨rfl, hq7, fr7⟩ := hp7
  replace hq7 : sz7 = sz := hq7
  subst sz7
  replace hs7 : st7 = [.ref (x + 20)] := hs7
  subst st7
  refine z_iload_n B dX8_forgetTemplatesWith_15 rfl 2 rfl ?_
  have h_16 : Φ8 (x + 20) = some (o_ 12 [.ref (x + 21), .int 0, .int 0, .int 0]) := ((fr7 (x + 20)).trans ((fr6 (x + 20)).trans ((fr5 (x + 20)).trans ((fr4 (x + 20)).trans ((fr3 (x + 20)).trans ((fset_fr hΦ1 (ne_off (x := x) (i := 20) (j := 78) rfl)).trans ((fr2 (x + 20)).trans ((fr1 (x + 20)).trans hc20_))))))))
  refine z_callV (As := [.int 3]) (rest := []) B (f_X10_has_3_3 G l Φ8 sz x h_16) (cwV 1 B.1.2.2.2.2 gX8_forgetTemplatesWith_X10_has rfl rfl rfl (by decide +kernel) ⟨Nat.le_of_ble_eq_true rfl, Nat.le_of_ble_eq_true rfl⟩) h_16 rfl rfl rfl rfl (Nat.le_of_ble_eq_true rfl) dX8_forgetTemplatesWith_16 ⟨Nat.le_of_ble_eq_true rfl, Nat.le_of_ble_eq_true rfl⟩ (fun v8 Φ9 sz8 st8 hp8 hs8 => ?_)
  obtain ⟨rfl, hq8, fr8⟩ := hp8
  replace hq8 : sz8 = sz := hq8
  subst sz8
  replace hs8 : st8 = [.int 0] := hs8
  subst st8
  refine z_if_eq (tgt := 29) B dX8_forgetTemplatesWith_19 rfl (fun c_8 => ?_) (fun h9 => absurd (by decide) h9)
  refine z_iinc (k := 0) (v := 4) (lv' := [(2, .int 4), (0, .ref (x + 74)), (1, .int 3)]) B dX8_forgetTemplatesWith_29 rfl rfl (Nat.le_of_ble_eq_true rfl) rfl ?_
  refine z_goto (tgt := 2) B dX8_forgetTemplatesWith_32 rfl ?_
  refine z_iload_n B dX8_forgetTemplatesWith_2 rfl 0 rfl ?_
  refine z_iconst (v := 4) B dX8_forgetTemplatesWith_3 rfl ?_
  refine z_icmp_ge (tgt := 35) B dX8_forgetTemplatesWith_4 rfl (fun c_9 => ?_) (fun h9 => absurd (by decide) h9)
  have h_17 : Φ9 (x + 78) = some (ai_ G 4 (upd (fun _ => 0) (0 : Int32).toNatClampNeg 0)) := ((fr8 (x + 78)).trans ((fr7 (x + 78)).trans ((fr6 (x + 78)).trans ((fr5 (x + 78)).trans ((fr4 (x + 78)).trans ((fr3 (x + 78)).trans h_4))))))
  exact z_ret_v B dX8_forgetTemplatesWith_35 ⟨rfl, rfl, (fun b9 h9a => ((fr8 b9).trans ((fr7 b9).trans ((fr6 b9).trans ((fr5 b9).trans ((fr4 b9).trans ((fr3 b9).trans ((fset_fr hΦ1 h9a).trans ((fr2 b9).trans ((fr1 b9).trans rfl)))))))))), h_17⟩

set_option maxHeartbeats 4000000 in
set_option maxRecDepth 100000 in
theorem f_X11_setSupport_3_0 (G : EnvG) (l : Launch) (Φ : Hm) (sz : Nat) (x : Nat) (hc0_ : Φ x = some (o_ 13 [.ref (x + 1), .ref (x + 3), .ref (x + 24), .ref (x + 46), .ref (x + 74), .ref (x + 80), .ref (x + 132), .ref (x + 121)])) (hc3_ : Φ (x + 3) = some (o_ 3 [.ref (x + 4), .ref (x + 5), .ref (x + 6), .ref (x + 7), .int 1, .int 511])) (hc6_ : Φ (x + 6) = some (aq_ G 4 4 (va_up (va_up (va_up (va_up (fun _ => none) (0 : Int32).toNatClampNeg (some (x + 8))) (1 : Int32).toNatClampNeg (some (x + 12))) (2 : Int32).toNatClampNeg (some (x + 16))) (3 : Int32).toNatClampNeg (some (x + 20))))) (hc7_ : Φ (x + 7) = some (aq_ G 4 4 (va_up (va_up (va_up (va_up (fun _ => none) (0 : Int32).toNatClampNeg (some (x + 10))) (1 : Int32).toNatClampNeg (some (x + 14))) (2 : Int32).toNatClampNeg (some (x + 18))) (3 : Int32).toNatClampNeg (some (x + 22))))) (hc8_ : Φ (x + 8) = some (o_ 12 [.ref (x + 9), .int 9, .int 511, .int 29])) (hc9_ : Φ (x + 9) = some (ai_ G 9 (upd (upd (upd (upd (upd (upd (upd (upd (upd (fun _ => 0) (0 : Int32).toNatClampNeg 0) (1 : Int32).toNatClampNeg 1) (2 : Int32).toNatClampNeg 2) (3 : Int32).toNatClampNeg 3) (4 : Int32).toNatClampNeg 4) (5 : Int32).toNatClampNeg 5) (6 : Int32).toNatClampNeg 6) (7 : Int32).toNatClampNeg 7) (8 : Int32).toNatClampNeg 8))) (hc10_ : Φ (x + 10) = some (o_ 12 [.ref (x + 11), .int 9, .int 511, .int 29])) (hc11_ : Φ (x + 11) = some (ai_ G 9 (upd (upd (upd (upd (upd (upd (upd (upd (upd (fun _ => 0) (0 : Int32).toNatClampNeg 0) (1 : Int32).toNatClampNeg 1) (2 : Int32).toNatClampNeg 2) (3 : Int32).toNatClampNeg 3) (4 : Int32).toNatClampNeg 4) (5 : Int32).toNatClampNeg 5) (6 : Int32).toNatClampNeg 6) (7 : Int32).toNatClampNeg 7) (8 : Int32).toNatClampNeg 8))) (hc12_ : Φ (x + 12) = some (o_ 12 [.ref (x + 13), .int 0, .int 0, .int 0])) (hc14_ : Φ (x + 14) = some (o_ 12 [.ref (x + 15), .int 0, .int 0, .int 0])) (hc16_ : Φ (x + 16) = some (o_ 12 [.ref (x + 17), .int 0, .int 0, .int 0])) (hc18_ : Φ (x + 18) = some (o_ 12 [.ref (x + 19), .int 0, .int 0, .int 0])) (hc20_ : Φ (x + 20) = some (o_ 12 [.ref (x + 21), .int 0, .int 0, .int 0])) (hc22_ : Φ (x + 22) = some (o_ 12 [.ref (x + 23), .int 0, .int 0, .int 0])) (hc74_ : Φ (x + 74) = some (o_ 10 [.ref (x + 3), .ref (x + 46), .ref (x + 75), .ref (x + 77), .int 0, .ref (x + 78), .ref (x + 79), .int 0, .long 0, .int 0])) (hc78_ : Φ (x + 78) = some (ai_ G 4 (fun _ => 0))) (hna : G.2.2.2 ≤ x) : Ct G l yX11_setSupport wsX11_setSupport ({ frames := 3, cells := 0, slots := 0, locals := 67 }) 0 0 [.ref x, .int 3, .int 0] Φ sz (fun v Φ1 sz1 => v = some (.int 1) ∧ ∀ b9 : Nat, x + 149 ≤ b9 → Φ1 b9 = Φ b9) := by
  refine Ct.of (cc := cX11_setSupport) (maxL := 4) (ret := (some .boolean)) (by decide) rfl (Nat.le_of_ble_eq_true rfl) ?_
  intro p9 e9 s9 m9 w9 t9 k9 B
  show Z p9 l e9 _ s9 m9 _ w9 t9 k9 _ G 4 0 [(0, .ref x), (1, .int 3), (2, .int 0)] [] Φ sz 0 0
  refine z_iload_n B dX11_setSupport_0 rfl 1 rfl ?_
  refine z_if_lt (tgt := 10) B dX11_setSupport_1 rfl (fun h9 => absurd h9 (by decide)) (fun c_1 => ?_)
  refine z_iload_n B dX11_setSupport_4 rfl 1 rfl ?_
  refine z_bipush (v := 9) B dX11_setSupport_5 rfl ?_
  refine z_icmp_lt (tgt := 18) B dX11_setSupport_7 rfl (fun c_2 => ?_) (fun h9 => absurd (by decide) h9)
  refine z_aload_n B dX11_setSupport_18 rfl 0 rfl ?_
  refine z_get (ref := "FlowExporter") (C := RX11) (T := TX11) (N := 8) (ci := 13) (v := .ref (x + 3)) B (by decide +kernel) rfl 1 (by decide) (by decide +kernel) rfl hc0_ rfl dX11_setSupport_19 ?_
  refine z_get (ref := "FlowExporter$Config") (C := RX1) (T := TX1) (N := 6) (ci := 3) (v := .int 511) B (by decide +kernel) rfl 5 (by decide) (by decide +kernel) rfl hc3_ rfl dX11_setSupport_22 ?_
  refine z_iload_n B dX11_setSupport_25 rfl 1 rfl ?_
  refine z_ishr B dX11_setSupport_26 ?_
  refine z_top (st1 := [.int 63]) (congrArg (fun w9 : Int32 => ([.int w9] : List Value)) (show ((511 : Int32) >>> ((3 : Int32) &&& (31 : Int32)) : Int32) = 63 by decide +kernel)) ?_
  refine z_iconst (v := 1) B dX11_setSupport_27 rfl ?_
  refine z_iand B dX11_setSupport_28 ?_
  refine z_top (st1 := [.int 1]) (congrArg (fun w9 : Int32 => ([.int w9] : List Value)) (show (63 &&& 1 : Int32) = 1 by decide +kernel)) ?_
  refine z_iconst (v := 1) B dX11_setSupport_29 rfl ?_
  refine z_icmp_ne (tgt := 37) B dX11_setSupport_30 rfl (fun h9 => absurd (by decide) h9) (fun c_3 => ?_)
  refine z_iconst (v := 1) B dX11_setSupport_33 rfl ?_
  refine z_goto (tgt := 38) B dX11_setSupport_34 rfl ?_
  refine z_istore_n (lv' := [(3, .int 1), (0, .ref x), (1, .int 3), (2, .int 0)]) B dX11_setSupport_38 rfl (Nat.le_of_ble_eq_true rfl) rfl ?_
  refine z_iload_n B dX11_setSupport_39 rfl 0 rfl ?_
  refine z_iload_n B dX11_setSupport_40 rfl 3 rfl ?_
  refine z_icmp_eq (tgt := 70) B dX11_setSupport_41 rfl (fun h9 => absurd h9 (by decide)) (fun c_4 => ?_)
  refine z_aload_n B dX11_setSupport_44 rfl 1 rfl ?_
  refine z_get (ref := "FlowExporter") (C := RX11) (T := TX11) (N := 8) (ci := 13) (v := .ref (x + 3)) B (by decide +kernel) rfl 1 (by decide) (by decide +kernel) rfl hc0_ rfl dX11_setSupport_45 ?_
  refine z_aload_n B dX11_setSupport_48 rfl 1 rfl ?_
  refine z_get (ref := "FlowExporter") (C := RX11) (T := TX11) (N := 8) (ci := 13) (v := .ref (x + 3)) B (by decide +kernel) rfl 1 (by decide) (by decide +kernel) rfl hc0_ rfl dX11_setSupport_49 ?_
  refine z_get (ref := "FlowExporter$Config") (C := RX1) (T := TX1) (N := 6) (ci := 3) (v := .int 511) B (by decide +kernel) rfl 5 (by decide) (by decide +kernel) rfl hc3_ rfl dX11_setSupport_52 ?_
  refine z_iconst (v := 1) B dX11_setSupport_55 rfl ?_
  refine z_iload_n B dX11_setSupport_56 rfl 2 rfl ?_
  refine z_ishl B dX11_setSupport_57 ?_
  refine z_top (st1 := [.int 8, .int 511, .ref (x + 3)]) (congrArg (fun w9 : Int32 => ([.int w9, .int 511, .ref (x + 3)] : List Value)) (show ((1 : Int32) <<< ((3 : Int32) &&& (31 : Int32)) : Int32) = 8 by decide +kernel)) ?_
  refine z_ixor B dX11_setSupport_58 ?_
  refine z_top (st1 := [.int 503, .ref (x + 3)]) (congrArg (fun w9 : Int32 => ([.int w9, .ref (x + 3)] : List Value)) (show (511 ^^^ 8 : Int32) = 503 by decide +kernel)) ?_
  refine z_callV (As := [.int 503]) (rest := []) B (f_X1_support_s3 G l Φ sz x hc3_ hc6_ hc7_ hc8_ hc9_ hc10_ hc11_ hc12_ hc14_ hc16_ hc18_ hc20_ hc22_ hna) (cwV 1 B.1.2.2.2.2 gX11_setSupport_X1_support rfl rfl rfl (by decide +kernel) ⟨Nat.le_of_ble_eq_true rfl, Nat.le_of_ble_eq_true rfl⟩) hc3_ rfl rfl rfl rfl (Nat.le_of_ble_eq_true rfl) dX11_setSupport_59 ⟨Nat.le_of_ble_eq_true rfl, Nat.le_of_ble_eq_true rfl⟩ (fun v1 Φ1 sz1 st1 hp1 hs1 => ?_)
  obtain ⟨rfl, hq1, fr1, h_1, h_2, h_3, h_4, h_5, h_6⟩ := hp1
  replace hq1 : sz1 = sz := hq1
  subst sz1
  replace hs1 : st1 = [] := hs1
  subst st1
  have h_7 : Φ1 (x + 10) = some (o_ 12 [.ref (x + 11), .int 8, .int 503, .int 28]) := h_1
  have h_8 : Φ1 (x + 11) = some (ai_ G 9 (upd (upd (upd (upd (upd (upd (upd (upd (upd (upd (upd (upd (upd (upd (upd (upd (upd (fun _ => 0) (0 : Int32).toNatClampNeg 0) (1 : Int32).toNatClampNeg 1) (2 : Int32).toNatClampNeg 2) (3 : Int32).toNatClampNeg 3) (4 : Int32).toNatClampNeg 4) (5 : Int32).toNatClampNeg 5) (6 : Int32).toNatClampNeg 6) (7 : Int32).toNatClampNeg 7) (8 : Int32).toNatClampNeg 8) (0 : Int32).toNatClampNeg 0) (1 : Int32).toNatClampNeg 1) (2 : Int32).toNatClampNeg 2) (3 : Int32).toNatClampNeg 4) (4 : Int32).toNatClampNeg 5) (5 : Int32).toNatClampNeg 6) (6 : Int32).toNatClampNeg 7) (7 : Int32).toNatClampNeg 8)) := h_2
  have h_9 : Φ1 (x + 14) = some (o_ 12 [.ref (x + 15), .int 0, .int 0, .int 0]) := h_3
  have h_10 : Φ1 (x + 18) = some (o_ 12 [.ref (x + 19), .int 0, .int 0, .int 0]) := h_4
  have h_11 : Φ1 (x + 22) = some (o_ 12 [.ref (x + 23), .int 0, .int 0, .int 0]) := h_5
  have h_12 : Φ1 (x + 3) = some (o_ 3 [.ref (x + 4), .ref (x + 5), .ref (x + 6), .ref (x + 7), .int 1, .int 503]) := h_6
  refine z_aload_n B dX11_setSupport_62 rfl 1 rfl ?_
  have h_13 : Φ1 x = some (o_ 13 [.ref (x + 1), .ref (x + 3), .ref (x + 24), .ref (x + 46), .ref (x + 74), .ref (x + 80), .ref (x + 132), .ref (x + 121)]) := ((fr1 x (ne_off (x := x) (i := 0) (j := 10) rfl) (ne_off (x := x) (i := 0) (j := 11) rfl) (ne_off (x := x) (i := 0) (j := 14) rfl) (ne_off (x := x) (i := 0) (j := 18) rfl) (ne_off (x := x) (i := 0) (j := 22) rfl) (ne_off (x := x) (i := 0) (j := 3) rfl)).trans hc0_)
  refine z_get (ref := "FlowExporter") (C := RX11) (T := TX11) (N := 8) (ci := 13) (v := .ref (x + 74)) B (by decide +kernel) rfl 4 (by decide) (by decide +kernel) rfl h_13 rfl dX11_setSupport_63 ?_
  refine z_iload_n B dX11_setSupport_66 rfl 2 rfl ?_
  have h_14 : Φ1 (x + 6) = some (aq_ G 4 4 (va_up (va_up (va_up (va_up (fun _ => none) (0 : Int32).toNatClampNeg (some (x + 8))) (1 : Int32).toNatClampNeg (some (x + 12))) (2 : Int32).toNatClampNeg (some (x + 16))) (3 : Int32).toNatClampNeg (some (x + 20)))) := ((fr1 (x + 6) (ne_off (x := x) (i := 6) (j := 10) rfl) (ne_off (x := x) (i := 6) (j := 11) rfl) (ne_off (x := x) (i := 6) (j := 14) rfl) (ne_off (x := x) (i := 6) (j := 18) rfl) (ne_off (x := x) (i := 6) (j := 22) rfl) (ne_off (x := x) (i := 6) (j := 3) rfl)).trans hc6_)
  have h_15 : Φ1 (x + 8) = some (o_ 12 [.ref (x + 9), .int 9, .int 511, .int 29]) := ((fr1 (x + 8) (ne_off (x := x) (i := 8) (j := 10) rfl) (ne_off (x := x) (i := 8) (j := 11) rfl) (ne_off (x := x) (i := 8) (j := 14) rfl) (ne_off (x := x) (i := 8) (j := 18) rfl) (ne_off (x := x) (i := 8) (j := 22) rfl) (ne_off (x := x) (i := 8) (j := 3) rfl)).trans hc8_)
  have h_16 : Φ1 (x + 12) = some (o_ 12 [.ref (x + 13), .int 0, .int 0, .int 0]) := ((fr1 (x + 12) (ne_off (x := x) (i := 12) (j := 10) rfl) (ne_off (x := x) (i := 12) (j := 11) rfl) (ne_off (x := x) (i := 12) (j := 14) rfl) (ne_off (x := x) (i := 12) (j := 18) rfl) (ne_off (x := x) (i := 12) (j := 22) rfl) (ne_off (x := x) (i := 12) (j := 3) rfl)).trans hc12_)
  have h_17 : Φ1 (x + 16) = some (o_ 12 [.ref (x + 17), .int 0, .int 0, .int 0]) := ((fr1 (x + 16) (ne_off (x := x) (i := 16) (j := 10) rfl) (ne_off (x := x) (i := 16) (j := 11) rfl) (ne_off (x := x) (i := 16) (j := 14) rfl) (ne_off (x := x) (i := 16) (j := 18) rfl) (ne_off (x := x) (i := 16) (j := 22) rfl) (ne_off (x := x) (i := 16) (j := 3) rfl)).trans hc16_)
  have h_18 : Φ1 (x + 20) = some (o_ 12 [.ref (x + 21), .int 0, .int 0, .int 0]) := ((fr1 (x + 20) (ne_off (x := x) (i := 20) (j := 10) rfl) (ne_off (x := x) (i := 20) (j := 11) rfl) (ne_off (x := x) (i := 20) (j := 14) rfl) (ne_off (x := x) (i := 20) (j := 18) rfl) (ne_off (x := x) (i := 20) (j := 22) rfl) (ne_off (x := x) (i := 20) (j := 3) rfl)).trans hc20_)
  have h_19 : Φ1 (x + 74) = some (o_ 10 [.ref (x + 3), .ref (x + 46), .ref (x + 75), .ref (x + 77), .int 0, .ref (x + 78), .ref (x + 79), .int 0, .long 0, .int 0]) := ((fr1 (x + 74) (ne_off (x := x) (i := 74) (j := 10) rfl) (ne_off (x := x) (i := 74) (j := 11) rfl) (ne_off (x := x) (i := 74) (j := 14) rfl) (ne_off (x := x) (i := 74) (j := 18) rfl) (ne_off (x := x) (i := 74) (j := 22) rfl) (ne_off (x := x) (i := 74) (j := 3) rfl)).trans hc74_)
  have h_20 : Φ1 (x + 78) = some (ai_ G 4 (fun _ => 0)) := ((fr1 (x + 78) (ne_off (x := x) (i := 78) (j := 10) rfl) (ne_off (x := x) (i := 78) (j := 11) rfl) (ne_off (x := x) (i := 78) (j := 14) rfl) (ne_off (x := x) (i := 78) (j := 18) rfl) (ne_off (x := x) (i := 78) (j := 22) rfl) (ne_off (x := x) (i := 78) (j := 3) rfl)).trans hc78_)
  refine z_callV (As := [.int 3]) (rest := []) B (f_X8_forget_3 G l Φ1 sz x 503 h_12 h_14 h_15 h_16 h_17 h_18 h_19 h_20 hna) (cwV 1 B.1.2.2.2.2 gX11_setSupport_X8_forgetTemplatesWith rfl rfl rfl (by decide +kernel) ⟨Nat.le_of_ble_eq_true rfl, Nat.le_of_ble_eq_true rfl⟩) h_19 rfl rfl rfl rfl (Nat.le_of_ble_eq_true rfl) dX11_setSupport_67 ⟨Nat.le_of_ble_eq_true rfl, Nat.le_of_ble_eq_true rfl⟩ (fun v2 Φ2 sz2 st2 hp2 hs2 => ?_)
  obtain ⟨rfl, hq2, fr2, h_21⟩ := hp2
  replace hq2 : sz2 = sz := hq2
  subst sz2
  replace hs2 : st2 = [] := hs2
  subst st2
  have h_22 : Φ2 (x + 78) = some (ai_ G 4 (upd (fun _ => 0) (0 : Int32).toNatClampNeg 0)) := h_21
  refine z_iload_n B dX11_setSupport_70 rfl 0 rfl ?_
  exact z_ret_z B dX11_setSupport_71 (by decide) ⟨rfl, fun b9 h9 => ((fr2 b9 (Nat.ne_of_gt (Nat.lt_of_lt_of_le (lt_off (x := x) (i := 78) (j := 149) rfl) h9))).trans ((fr1 b9 (Nat.ne_of_gt (Nat.lt_of_lt_of_le (lt_off (x := x) (i := 10) (j := 149) rfl) h9)) (Nat.ne_of_gt (Nat.lt_of_lt_of_le (lt_off (x := x) (i := 11) (j := 149) rfl) h9)) (Nat.ne_of_gt (Nat.lt_of_lt_of_le (lt_off (x := x) (i := 14) (j := 149) rfl) h9)) (Nat.ne_of_gt (Nat.lt_of_lt_of_le (lt_off (x := x) (i := 18) (j := 149) rfl) h9)) (Nat.ne_of_gt (Nat.lt_of_lt_of_le (lt_off (x := x) (i := 22) (j := 149) rfl) h9)) (Nat.ne_of_gt (Nat.lt_of_lt_of_le (lt_off (x := x) (i := 3) (j := 149) rfl) h9))).trans rfl))⟩

set_option maxHeartbeats 4000000 in
set_option maxRecDepth 100000 in
theorem f_X11_setSupport_3_1 (G : EnvG) (l : Launch) (Φ : Hm) (sz : Nat) (x : Nat) (hc0_ : Φ x = some (o_ 13 [.ref (x + 1), .ref (x + 3), .ref (x + 24), .ref (x + 46), .ref (x + 74), .ref (x + 80), .ref (x + 132), .ref (x + 121)])) (hc3_ : Φ (x + 3) = some (o_ 3 [.ref (x + 4), .ref (x + 5), .ref (x + 6), .ref (x + 7), .int 1, .int 511])) : Ct G l yX11_setSupport wsX11_setSupport ({ frames := 0, cells := 0, slots := 0, locals := 0 }) 0 0 [.ref x, .int 3, .int 1] Φ sz (fun v Φ1 sz1 => v = some (.int 1) ∧ ∀ b9 : Nat, x + 149 ≤ b9 → Φ1 b9 = Φ b9) := by
  refine Ct.of (cc := cX11_setSupport) (maxL := 4) (ret := (some .boolean)) (by decide) rfl (Nat.le_of_ble_eq_true rfl) ?_
  intro p9 e9 s9 m9 w9 t9 k9 B
  show Z p9 l e9 _ s9 m9 _ w9 t9 k9 _ G 4 0 [(0, .ref x), (1, .int 3), (2, .int 1)] [] Φ sz 0 0
  refine z_iload_n B dX11_setSupport_0 rfl 1 rfl ?_
  refine z_if_lt (tgt := 10) B dX11_setSupport_1 rfl (fun h9 => absurd h9 (by decide)) (fun c_1 => ?_)
  refine z_iload_n B dX11_setSupport_4 rfl 1 rfl ?_
  refine z_bipush (v := 9) B dX11_setSupport_5 rfl ?_
  refine z_icmp_lt (tgt := 18) B dX11_setSupport_7 rfl (fun c_2 => ?_) (fun h9 => absurd (by decide) h9)
  refine z_aload_n B dX11_setSupport_18 rfl 0 rfl ?_
  refine z_get (ref := "FlowExporter") (C := RX11) (T := TX11) (N := 8) (ci := 13) (v := .ref (x + 3)) B (by decide +kernel) rfl 1 (by decide) (by decide +kernel) rfl hc0_ rfl dX11_setSupport_19 ?_
  refine z_get (ref := "FlowExporter$Config") (C := RX1) (T := TX1) (N := 6) (ci := 3) (v := .int 511) B (by decide +kernel) rfl 5 (by decide) (by decide +kernel) rfl hc3_ rfl dX11_setSupport_22 ?_
  refine z_iload_n B dX11_setSupport_25 rfl 1 rfl ?_
  refine z_ishr B dX11_setSupport_26 ?_
  refine z_top (st1 := [.int 63]) (congrArg (fun w9 : Int32 => ([.int w9] : List Value)) (show ((511 : Int32) >>> ((3 : Int32) &&& (31 : Int32)) : Int32) = 63 by decide +kernel)) ?_
  refine z_iconst (v := 1) B dX11_setSupport_27 rfl ?_
  refine z_iand B dX11_setSupport_28 ?_
  refine z_top (st1 := [.int 1]) (congrArg (fun w9 : Int32 => ([.int w9] : List Value)) (show (63 &&& 1 : Int32) = 1 by decide +kernel)) ?_
  refine z_iconst (v := 1) B dX11_setSupport_29 rfl ?_
  refine z_icmp_ne (tgt := 37) B dX11_setSupport_30 rfl (fun h9 => absurd (by decide) h9) (fun c_3 => ?_)
  refine z_iconst (v := 1) B dX11_setSupport_33 rfl ?_
  refine z_goto (tgt := 38) B dX11_setSupport_34 rfl ?_
  refine z_istore_n (lv' := [(3, .int 1), (0, .ref x), (1, .int 3), (2, .int 1)]) B dX11_setSupport_38 rfl (Nat.le_of_ble_eq_true rfl) rfl ?_
  refine z_iload_n B dX11_setSupport_39 rfl 0 rfl ?_
  refine z_iload_n B dX11_setSupport_40 rfl 3 rfl ?_
  refine z_icmp_eq (tgt := 70) B dX11_setSupport_41 rfl (fun c_4 => ?_) (fun h9 => absurd (by decide) h9)
  refine z_iload_n B dX11_setSupport_70 rfl 0 rfl ?_
  exact z_ret_z B dX11_setSupport_71 (by decide) ⟨rfl, fun b9 h9 => rfl⟩

set_option maxHeartbeats 4000000 in
set_option maxRecDepth 100000 in
theorem f_X10_has_0_4 (G : EnvG) (l : Launch) (Φ : Hm) (sz : Nat) (x : Nat) (hc8_ : Φ (x + 8) = some (o_ 12 [.ref (x + 9), .int 9, .int 511, .int 29])) : Ct G l yX10_has wsX10_has ({ frames := 0, cells := 0, slots := 0, locals := 0 }) 0 0 [.ref (x + 8), .int 4] Φ sz (fun v Φ1 sz1 => v = some (.int 1) ∧ sz1 = sz ∧ (∀ b9 : Nat, Φ1 b9 = Φ b9)) := by
  refine Ct.of (cc := cX10_has) (maxL := 2) (ret := (some .boolean)) (by decide) rfl (Nat.le_of_ble_eq_true rfl) ?_
  intro p9 e9 s9 m9 w9 t9 k9 B
  show Z p9 l e9 _ s9 m9 _ w9 t9 k9 _ G 2 0 [(0, .ref (x + 8)), (1, .int 4)] [] Φ sz 0 0
  refine z_iload_n B dX10_has_0 rfl 1 rfl ?_
  refine z_if_lt (tgt := 26) B dX10_has_1 rfl (fun h9 => absurd h9 (by decide)) (fun c_1 => ?_)
  refine z_iload_n B dX10_has_4 rfl 1 rfl ?_
  refine z_bipush (v := 9) B dX10_has_5 rfl ?_
  refine z_icmp_ge (tgt := 26) B dX10_has_7 rfl (fun h9 => absurd h9 (by decide)) (fun c_2 => ?_)
  refine z_aload_n B dX10_has_10 rfl 0 rfl ?_
  refine z_get (ref := "FlowExporter$Template") (C := RX10) (T := TX10) (N := 4) (ci := 12) (v := .int 511) B (by decide +kernel) rfl 2 (by decide) (by decide +kernel) rfl hc8_ rfl dX10_has_11 ?_
  refine z_iload_n B dX10_has_14 rfl 1 rfl ?_
  refine z_ishr B dX10_has_15 ?_
  refine z_top (st1 := [.int 31]) (congrArg (fun w9 : Int32 => ([.int w9] : List Value)) (show ((511 : Int32) >>> ((4 : Int32) &&& (31 : Int32)) : Int32) = 31 by decide +kernel)) ?_
  refine z_iconst (v := 1) B dX10_has_16 rfl ?_
  refine z_iand B dX10_has_17 ?_
  refine z_top (st1 := [.int 1]) (congrArg (fun w9 : Int32 => ([.int w9] : List Value)) (show (31 &&& 1 : Int32) = 1 by decide +kernel)) ?_
  refine z_iconst (v := 1) B dX10_has_18 rfl ?_
  refine z_icmp_ne (tgt := 26) B dX10_has_19 rfl (fun h9 => absurd (by decide) h9) (fun c_3 => ?_)
  refine z_iconst (v := 1) B dX10_has_22 rfl ?_
  refine z_goto (tgt := 27) B dX10_has_23 rfl ?_
  exact z_ret_z B dX10_has_27 (by decide) ⟨rfl, rfl, (fun b9 => rfl)⟩

set_option maxHeartbeats 4000000 in
set_option maxRecDepth 100000 in
theorem f_X10_has_1_4 (G : EnvG) (l : Launch) (Φ : Hm) (sz : Nat) (x : Nat) (hc12_ : Φ (x + 12) = some (o_ 12 [.ref (x + 13), .int 0, .int 0, .int 0])) : Ct G l yX10_has wsX10_has ({ frames := 0, cells := 0, slots := 0, locals := 0 }) 0 0 [.ref (x + 12), .int 4] Φ sz (fun v Φ1 sz1 => v = some (.int 0) ∧ sz1 = sz ∧ (∀ b9 : Nat, Φ1 b9 = Φ b9)) := by
  refine Ct.of (cc := cX10_has) (maxL := 2) (ret := (some .boolean)) (by decide) rfl (Nat.le_of_ble_eq_true rfl) ?_
  intro p9 e9 s9 m9 w9 t9 k9 B
  show Z p9 l e9 _ s9 m9 _ w9 t9 k9 _ G 2 0 [(0, .ref (x + 12)), (1, .int 4)] [] Φ sz 0 0
  refine z_iload_n B dX10_has_0 rfl 1 rfl ?_
  refine z_if_lt (tgt := 26) B dX10_has_1 rfl (fun h9 => absurd h9 (by decide)) (fun c_1 => ?_)
  refine z_iload_n B dX10_has_4 rfl 1 rfl ?_
  refine z_bipush (v := 9) B dX10_has_5 rfl ?_
  refine z_icmp_ge (tgt := 26) B dX10_has_7 rfl (fun h9 => absurd h9 (by decide)) (fun c_2 => ?_)
  refine z_aload_n B dX10_has_10 rfl 0 rfl ?_
  refine z_get (ref := "FlowExporter$Template") (C := RX10) (T := TX10) (N := 4) (ci := 12) (v := .int 0) B (by decide +kernel) rfl 2 (by decide) (by decide +kernel) rfl hc12_ rfl dX10_has_11 ?_
  refine z_iload_n B dX10_has_14 rfl 1 rfl ?_
  refine z_ishr B dX10_has_15 ?_
  refine z_top (st1 := [.int 0]) (congrArg (fun w9 : Int32 => ([.int w9] : List Value)) (show ((0 : Int32) >>> ((4 : Int32) &&& (31 : Int32)) : Int32) = 0 by decide +kernel)) ?_
  refine z_iconst (v := 1) B dX10_has_16 rfl ?_
  refine z_iand B dX10_has_17 ?_
  refine z_top (st1 := [.int 0]) (congrArg (fun w9 : Int32 => ([.int w9] : List Value)) (show (0 &&& 1 : Int32) = 0 by decide +kernel)) ?_
  refine z_iconst (v := 1) B dX10_has_18 rfl ?_
  refine z_icmp_ne (tgt := 26) B dX10_has_19 rfl (fun c_3 => ?_) (fun h9 => absurd h9 (by decide))
  refine z_iconst (v := 0) B dX10_has_26 rfl ?_
  exact z_ret_z B dX10_has_27 (by decide) ⟨rfl, rfl, (fun b9 => rfl)⟩

set_option maxHeartbeats 4000000 in
set_option maxRecDepth 100000 in
theorem f_X10_has_2_4 (G : EnvG) (l : Launch) (Φ : Hm) (sz : Nat) (x : Nat) (hc16_ : Φ (x + 16) = some (o_ 12 [.ref (x + 17), .int 0, .int 0, .int 0])) : Ct G l yX10_has wsX10_has ({ frames := 0, cells := 0, slots := 0, locals := 0 }) 0 0 [.ref (x + 16), .int 4] Φ sz (fun v Φ1 sz1 => v = some (.int 0) ∧ sz1 = sz ∧ (∀ b9 : Nat, Φ1 b9 = Φ b9)) := by
  refine Ct.of (cc := cX10_has) (maxL := 2) (ret := (some .boolean)) (by decide) rfl (Nat.le_of_ble_eq_true rfl) ?_
  intro p9 e9 s9 m9 w9 t9 k9 B
  show Z p9 l e9 _ s9 m9 _ w9 t9 k9 _ G 2 0 [(0, .ref (x + 16)), (1, .int 4)] [] Φ sz 0 0
  refine z_iload_n B dX10_has_0 rfl 1 rfl ?_
  refine z_if_lt (tgt := 26) B dX10_has_1 rfl (fun h9 => absurd h9 (by decide)) (fun c_1 => ?_)
  refine z_iload_n B dX10_has_4 rfl 1 rfl ?_
  refine z_bipush (v := 9) B dX10_has_5 rfl ?_
  refine z_icmp_ge (tgt := 26) B dX10_has_7 rfl (fun h9 => absurd h9 (by decide)) (fun c_2 => ?_)
  refine z_aload_n B dX10_has_10 rfl 0 rfl ?_
  refine z_get (ref := "FlowExporter$Template") (C := RX10) (T := TX10) (N := 4) (ci := 12) (v := .int 0) B (by decide +kernel) rfl 2 (by decide) (by decide +kernel) rfl hc16_ rfl dX10_has_11 ?_
  refine z_iload_n B dX10_has_14 rfl 1 rfl ?_
  refine z_ishr B dX10_has_15 ?_
  refine z_top (st1 := [.int 0]) (congrArg (fun w9 : Int32 => ([.int w9] : List Value)) (show ((0 : Int32) >>> ((4 : Int32) &&& (31 : Int32)) : Int32) = 0 by decide +kernel)) ?_
  refine z_iconst (v := 1) B dX10_has_16 rfl ?_
  refine z_iand B dX10_has_17 ?_
  refine z_top (st1 := [.int 0]) (congrArg (fun w9 : Int32 => ([.int w9] : List Value)) (show (0 &&& 1 : Int32) = 0 by decide +kernel)) ?_
  refine z_iconst (v := 1) B dX10_has_18 rfl ?_
  refine z_icmp_ne (tgt := 26) B dX10_has_19 rfl (fun c_3 => ?_) (fun h9 => absurd h9 (by decide))
  refine z_iconst (v := 0) B dX10_has_26 rfl ?_
  exact z_ret_z B dX10_has_27 (by decide) ⟨rfl, rfl, (fun b9 => rfl)⟩

set_option maxHeartbeats 4000000 in
set_option maxRecDepth 100000 in
theorem f_X10_has_3_4 (G : EnvG) (l : Launch) (Φ : Hm) (sz : Nat) (x : Nat) (hc20_ : Φ (x + 20) = some (o_ 12 [.ref (x + 21), .int 0, .int 0, .int 0])) : Ct G l yX10_has wsX10_has ({ frames := 0, cells := 0, slots := 0, locals := 0 }) 0 0 [.ref (x + 20), .int 4] Φ sz (fun v Φ1 sz1 => v = some (.int 0) ∧ sz1 = sz ∧ (∀ b9 : Nat, Φ1 b9 = Φ b9)) := by
  refine Ct.of (cc := cX10_has) (maxL := 2) (ret := (some .boolean)) (by decide) rfl (Nat.le_of_ble_eq_true rfl) ?_
  intro p9 e9 s9 m9 w9 t9 k9 B
  show Z p9 l e9 _ s9 m9 _ w9 t9 k9 _ G 2 0 [(0, .ref (x + 20)), (1, .int 4)] [] Φ sz 0 0
  refine z_iload_n B dX10_has_0 rfl 1 rfl ?_
  refine z_if_lt (tgt := 26) B dX10_has_1 rfl (fun h9 => absurd h9 (by decide)) (fun c_1 => ?_)
  refine z_iload_n B dX10_has_4 rfl 1 rfl ?_
  refine z_bipush (v := 9) B dX10_has_5 rfl ?_
  refine z_icmp_ge (tgt := 26) B dX10_has_7 rfl (fun h9 => absurd h9 (by decide)) (fun c_2 => ?_)
  refine z_aload_n B dX10_has_10 rfl 0 rfl ?_
  refine z_get (ref := "FlowExporter$Template") (C := RX10) (T := TX10) (N := 4) (ci := 12) (v := .int 0) B (by decide +kernel) rfl 2 (by decide) (by decide +kernel) rfl hc20_ rfl dX10_has_11 ?_
  refine z_iload_n B dX10_has_14 rfl 1 rfl ?_
  refine z_ishr B dX10_has_15 ?_
  refine z_top (st1 := [.int 0]) (congrArg (fun w9 : Int32 => ([.int w9] : List Value)) (show ((0 : Int32) >>> ((4 : Int32) &&& (31 : Int32)) : Int32) = 0 by decide +kernel)) ?_
  refine z_iconst (v := 1) B dX10_has_16 rfl ?_
  refine z_iand B dX10_has_17 ?_
  refine z_top (st1 := [.int 0]) (congrArg (fun w9 : Int32 => ([.int w9] : List Value)) (show (0 &&& 1 : Int32) = 0 by decide +kernel)) ?_
  refine z_iconst (v := 1) B dX10_has_18 rfl ?_
  refine z_icmp_ne (tgt := 26) B dX10_has_19 rfl (fun c_3 => ?_) (fun h9 => absurd h9 (by decide))
  refine z_iconst (v := 0) B dX10_has_26 rfl ?_
  exact z_ret_z B dX10_has_27 (by decide) ⟨rfl, rfl, (fun b9 => rfl)⟩

set_option maxHeartbeats 4000000 in
set_option maxRecDepth 100000 in
theorem f_X8_forget_4 (G : EnvG) (l : Launch) (Φ : Hm) (sz : Nat) (x : Nat) (u : Int32) (hc3_ : Φ (x + 3) = some (o_ 3 [.ref (x + 4), .ref (x + 5), .ref (x + 6), .ref (x + 7), .int 1, .int u])) (hc6_ : Φ (x + 6) = some (aq_ G 4 4 (va_up (va_up (va_up (va_up (fun _ => none) (0 : Int32).toNatClampNeg (some (x + 8))) (1 : Int32).toNatClampNeg (some (x + 12))) (2 : Int32).toNatClampNeg (some (x + 16))) (3 : Int32).toNatClampNeg (some (x + 20))))) (hc8_ : Φ (x + 8) = some (o_ 12 [.ref (x + 9), .int 9, .int 511, .int 29])) (hc12_ : Φ (x + 12) = some (o_ 12 [.ref (x + 13), .int 0, .int 0, .int 0])) (hc16_ : Φ (x + 16) = some (o_ 12 [.ref (x + 17), .int 0, .int 0, .int 0])) (hc20_ : Φ (x + 20) = some (o_ 12 [.ref (x + 21), .int 0, .int 0, .int 0])) (hc74_ : Φ (x + 74) = some (o_ 10 [.ref (x + 3), .ref (x + 46), .ref (x + 75), .ref (x + 77), .int 0, .ref (x + 78), .ref (x + 79), .int 0, .long 0, .int 0])) (hc78_ : Φ (x + 78) = some (ai_ G 4 (fun _ => 0))) (hna : G.2.2.2 ≤ x) : Ct G l yX8_forgetTemplatesWith wsX8_forgetTemplatesWith ({ frames := 1, cells := 0, slots := 0, locals := 21 }) 0 0 [.ref (x + 74), .int 4] Φ sz (fun v Φ1 sz1 => v = none ∧ sz1 = sz ∧ (∀ b9 : Nat, b9 ≠ x + 78 → Φ1 b9 = Φ b9) ∧ Φ1 (x + 78) = some (ai_ G 4 (upd (fun _ => 0) (0 : Int32).toNatClampNeg 0))) := by
  refine Ct.of (cc := cX8_forgetTemplatesWith) (maxL := 3) (ret := none) (by decide) rfl (Nat.le_of_ble_eq_true rfl) ?_
  intro p9 e9 s9 m9 w9 t9 k9 B
  show Z p9 l e9 _ s9 m9 _ w9 t9 k9 _ G 3 0 [(0, .ref (x + 74)), (1, .int 4)] [] Φ sz 0 0
  refine z_iconst (v := 0) B dX8_forgetTemplatesWith_0 rfl ?_
  refine z_istore_n (lv' := [(2, .int 0), (0, .ref (x + 74)), (1, .int 4)]) B dX8_forgetTemplatesWith_1 rfl (Nat.le_of_ble_eq_true rfl) rfl ?_
  refine z_iload_n B dX8_forgetTemplatesWith_2 rfl 0 rfl ?_
  refine z_iconst (v := 4) B dX8_forgetTemplatesWith_3 rfl ?_
  refine z_icmp_ge (tgt := 35) B dX8_forgetTemplatesWith_4 rfl (fun h9 => absurd h9 (by decide)) (fun c_1 => ?_)
  refine z_aload_n B dX8_forgetTemplatesWith_7 rfl 1 rfl ?_
  refine z_get (ref := "FlowExporter$Sender") (C := RX8) (T := TX8) (N := 10) (ci := 10) (v := .ref (x + 3)) B (by decide +kernel) rfl 0 (by decide) (by decide +kernel) rfl hc74_ rfl dX8_forgetTemplatesWith_8 ?_
  refine z_iload_n B dX8_forgetTemplatesWith_11 rfl 0 rfl ?_
  refine z_callV (As := [.int 0]) (rest := []) B (f_X1_template_u0 G l Φ sz x u hc3_ hc6_) (cwV 1 B.1.2.2.2.2 gX8_forgetTemplatesWith_X1_template rfl rfl rfl (by decide +kernel) ⟨Nat.le_of_ble_eq_true rfl, Nat.le_of_ble_eq_true rfl⟩) hc3_ rfl rfl rfl rfl (Nat.le_of_ble_eq_true rfl) dX8_forgetTemplatesWith_12 ⟨Nat.le_of_ble_eq_true rfl, Nat.le_of_ble_eq_true rfl⟩ (fun v1 Φ1 sz1 st1 hp1 hs1 => ?_)
  obtain ⟨rfl, hq1, fr1⟩ := hp1
  replace hq1 : sz1 = sz := hq1
  subst sz1
  replace hs1 : st1 = [.ref (x + 8)] := hs1
  subst st1
  refine z_iload_n B dX8_forgetTemplatesWith_15 rfl 2 rfl ?_
  have h_1 : Φ1 (x + 8) = some (o_ 12 [.ref (x + 9), .int 9, .int 511, .int 29]) := ((fr1 (x + 8)).trans hc8_)
  refine z_callV (As := [.int 4]) (rest := []) B (f_X10_has_0_4 G l Φ1 sz x h_1) (cwV 1 B.1.2.2.2.2 gX8_forgetTemplatesWith_X10_has rfl rfl rfl (by decide +kernel) ⟨Nat.le_of_ble_eq_true rfl, Nat.le_of_ble_eq_true rfl⟩) h_1 rfl rfl rfl rfl (Nat.le_of_ble_eq_true rfl) dX8_forgetTemplatesWith_16 ⟨Nat.le_of_ble_eq_true rfl, Nat.le_of_ble_eq_true rfl⟩ (fun v2 Φ2 sz2 st2 hp2 hs2 => ?_)
  obtain ⟨rfl, hq2, fr2⟩ := hp2
  replace hq2 : sz2 = sz := hq2
  subst sz2
  replace hs2 : st2 = [.int 1] := hs2
  subst st2
  refine z_if_eq (tgt := 29) B dX8_forgetTemplatesWith_19 rfl (fun h9 => absurd h9 (by decide)) (fun c_2 => ?_)
  refine z_aload_n B dX8_forgetTemplatesWith_22 rfl 1 rfl ?_
  have h_2 : Φ2 (x + 74) = some (o_ 10 [.ref (x + 3), .ref (x + 46), .ref (x + 75), .ref (x + 77), .int 0, .ref (x + 78), .ref (x + 79), .int 0, .long 0, .int 0]) := ((fr2 (x + 74)).trans ((fr1 (x + 74)).trans hc74_))
  refine z_get (ref := "FlowExporter$Sender") (C := RX8) (T := TX8) (N := 10) (ci := 10) (v := .ref (x + 78)) B (by decide +kernel) rfl 5 (by decide) (by decide +kernel) rfl h_2 rfl dX8_forgetTemplatesWith_23 ?_
  refine z_iload_n B dX8_forgetTemplatesWith_26 rfl 0 rfl ?_
  refine z_iconst (v := 0) B dX8_forgetTemplatesWith_27 rfl ?_
  have h_3 : Φ2 (x + 78) = some (ai_ G 4 (fun _ => 0)) := ((fr2 (x + 78)).trans ((fr1 (x + 78)).trans hc78_))
  refine z_iast B h_3 (Nat.le_trans hna (Nat.le_add_right x 78)) (vin rfl) dX8_forgetTemplatesWith_28 (fun Φ3 hΦ1 => ?_)
  have h_4 : Φ3 (x + 78) = some (ai_ G 4 (upd (fun _ => 0) (0 : Int32).toNatClampNeg 0)) := fset_at hΦ1
  refine z_iinc (k := 0) (v := 1) (lv' := [(2, .int 1), (0, .ref (x + 74)), (1, .int 4)]) B dX8_forgetTemplatesWith_29 rfl rfl (Nat.le_of_ble_eq_true rfl) rfl ?_
  refine z_goto (tgt := 2) B dX8_forgetTemplatesWith_32 rfl ?_
  refine z_iload_n B dX8_forgetTemplatesWith_2 rfl 0 rfl ?_
  refine z_iconst (v := 4) B dX8_forgetTemplatesWith_3 rfl ?_
  refine z_icmp_ge (tgt := 35) B dX8_forgetTemplatesWith_4 rfl (fun h9 => absurd h9 (by decide)) (fun c_3 => ?_)
  refine z_aload_n B dX8_forgetTemplatesWith_7 rfl 1 rfl ?_
  have h_5 : Φ3 (x + 74) = some (o_ 10 [.ref (x + 3), .ref (x + 46), .ref (x + 75), .ref (x + 77), .int 0, .ref (x + 78), .ref (x + 79), .int 0, .long 0, .int 0]) := ((fset_fr hΦ1 (ne_off (x := x) (i := 74) (j := 78) rfl)).trans h_2)
  refine z_get (ref := "FlowExporter$Sender") (C := RX8) (T := TX8) (N := 10) (ci := 10) (v := .ref (x + 3)) B (by decide +kernel) rfl 0 (by decide) (by decide +kernel) rfl h_5 rfl dX8_forgetTemplatesWith_8 ?_
  refine z_iload_n B dX8_forgetTemplatesWith_11 rfl 0 rfl ?_
  have h_6 : Φ3 (x + 3) = some (o_ 3 [.ref (x + 4), .ref (x + 5), .ref (x + 6), .ref (x + 7), .int 1, .int u]) := ((fset_fr hΦ1 (ne_off (x := x) (i := 3) (j := 78) rfl)).trans ((fr2 (x + 3)).trans ((fr1 (x + 3)).trans hc3_)))
  have h_7 : Φ3 (x + 6) = some (aq_ G 4 4 (va_up (va_up (va_up (va_up (fun _ => none) (0 : Int32).toNatClampNeg (some (x + 8))) (1 : Int32).toNatClampNeg (some (x + 12))) (2 : Int32).toNatClampNeg (some (x + 16))) (3 : Int32).toNatClampNeg (some (x + 20)))) := ((fset_fr hΦ1 (ne_off (x := x) (i := 6) (j := 78) rfl)).trans ((fr2 (x + 6)).trans ((fr1 (x + 6)).trans hc6_)))
  refine z_callV (As := [.int 1]) (rest := []) B (f_X1_template_u1 G l Φ3 sz x u h_6 h_7) (cwV 1 B.1.2.2.2.2 gX8_forgetTemplatesWith_X1_template rfl rfl rfl (by decide +kernel) ⟨Nat.le_of_ble_eq_true rfl, Nat.le_of_ble_eq_true rfl⟩) h_6 rfl rfl rfl rfl (Nat.le_of_ble_eq_true rfl) dX8_forgetTemplatesWith_12 ⟨Nat.le_of_ble_eq_true rfl, Nat.le_of_ble_eq_true rfl⟩ (fun v3 Φ4 sz3 st3 hp3 hs3 => ?_)
  obtain ⟨rfl, hq3, fr3⟩ := hp3
  replace hq3 : sz3 = sz := hq3
  subst sz3
  replace hs3 : st3 = [.ref (x + 12)] := hs3
  subst st3
  refine z_iload_n B dX8_forgetTemplatesWith_15 rfl 2 rfl ?_
  have h_8 : Φ4 (x + 12) = some (o_ 12 [.ref (x + 13), .int 0, .int 0, .int 0]) := ((fr3 (x + 12)).trans ((fset_fr hΦ1 (ne_off (x := x) (i := 12) (j := 78) rfl)).trans ((fr2 (x + 12)).trans ((fr1 (x + 12)).trans hc12_))))
  refine z_callV (As := [.int 4]) (rest := []) B (f_X10_has_1_4 G l Φ4 sz x h_8) (cwV 1 B.1.2.2.2.2 gX8_forgetTemplatesWith_X10_has rfl rfl rfl (by decide +kernel) ⟨Nat.le_of_ble_eq_true rfl, Nat.le_of_ble_eq_true rfl⟩) h_8 rfl rfl rfl rfl (Nat.le_of_ble_eq_true rfl) dX8_forgetTemplatesWith_16 ⟨Nat.le_of_ble_eq_true rfl, Nat.le_of_ble_eq_true rfl⟩ (fun v4 Φ5 sz4 st4 hp4 hs4 => ?_)
  obtain ⟨rfl, hq4, fr4⟩ := hp4
  replace hq4 : sz4 = sz := hq4
  subst sz4
  replace hs4 : st4 = [.int 0] := hs4
  subst st4
  refine z_if_eq (tgt := 29) B dX8_forgetTemplatesWith_19 rfl (fun c_4 => ?_) (fun h9 => absurd (by decide) h9)
  refine z_iinc (k := 0) (v := 2) (lv' := [(2, .int 2), (0, .ref (x + 74)), (1, .int 4)]) B dX8_forgetTemplatesWith_29 rfl rfl (Nat.le_of_ble_eq_true rfl) rfl ?_
  refine z_goto (tgt := 2) B dX8_forgetTemplatesWith_32 rfl ?_
  refine z_iload_n B dX8_forgetTemplatesWith_2 rfl 0 rfl ?_
  refine z_iconst (v := 4) B dX8_forgetTemplatesWith_3 rfl ?_
  refine z_icmp_ge (tgt := 35) B dX8_forgetTemplatesWith_4 rfl (fun h9 => absurd h9 (by decide)) (fun c_5 => ?_)
  refine z_aload_n B dX8_forgetTemplatesWith_7 rfl 1 rfl ?_
  have h_9 : Φ5 (x + 74) = some (o_ 10 [.ref (x + 3), .ref (x + 46), .ref (x + 75), .ref (x + 77), .int 0, .ref (x + 78), .ref (x + 79), .int 0, .long 0, .int 0]) := ((fr4 (x + 74)).trans ((fr3 (x + 74)).trans h_5))
  refine z_get (ref := "FlowExporter$Sender") (C := RX8) (T := TX8) (N := 10) (ci := 10) (v := .ref (x + 3)) B (by decide +kernel) rfl 0 (by decide) (by decide +kernel) rfl h_9 rfl dX8_forgetTemplatesWith_8 ?_
  refine z_iload_n B dX8_forgetTemplatesWith_11 rfl 0 rfl ?_
  have h_10 : Φ5 (x + 3) = some (o_ 3 [.ref (x + 4), .ref (x + 5), .ref (x + 6), .ref (x + 7), .int 1, .int u]) := ((fr4 (x + 3)).trans ((fr3 (x + 3)).trans h_6))
  have h_11 : Φ5 (x + 6) = some (aq_ G 4 4 (va_up (va_up (va_up (va_up (fun _ => none) (0 : Int32).toNatClampNeg (some (x + 8))) (1 : Int32).toNatClampNeg (some (x + 12))) (2 : Int32).toNatClampNeg (some (x + 16))) (3 : Int32).toNatClampNeg (some (x + 20)))) := ((fr4 (x + 6)).trans ((fr3 (x + 6)).trans h_7))
  refine z_callV (As := [.int 2]) (rest := []) B (f_X1_template_u2 G l Φ5 sz x u h_10 h_11) (cwV 1 B.1.2.2.2.2 gX8_forgetTemplatesWith_X1_template rfl rfl rfl (by decide +kernel) ⟨Nat.le_of_ble_eq_true rfl, Nat.le_of_ble_eq_true rfl⟩) h_10 rfl rfl rfl rfl (Nat.le_of_ble_eq_true rfl) dX8_forgetTemplatesWith_12 ⟨Nat.le_of_ble_eq_true rfl, Nat.le_of_ble_eq_true rfl⟩ (fun v5 Φ6 sz5 st5 hp5 hs5 => ?_)
  obtain ⟨rfl, hq5, fr5⟩ := hp5
  replace hq5 : sz5 = sz := hq5
  subst sz5
  replace hs5 : st5 = [.ref (x + 16)] := hs5
  subst st5
  refine z_iload_n B dX8_forgetTemplatesWith_15 rfl 2 rfl ?_
  have h_12 : Φ6 (x + 16) = some (o_ 12 [.ref (x + 17), .int 0, .int 0, .int 0]) := ((fr5 (x + 16)).trans ((fr4 (x + 16)).trans ((fr3 (x + 16)).trans ((fset_fr hΦ1 (ne_off (x := x) (i := 16) (j := 78) rfl)).trans ((fr2 (x + 16)).trans ((fr1 (x + 16)).trans hc16_))))))
  refine z_callV (As := [.int 4]) (rest := []) B (f_X10_has_2_4 G l Φ6 sz x h_12) (cwV 1 B.1.2.2.2.2 gX8_forgetTemplatesWith_X10_has rfl rfl rfl (by decide +kernel) ⟨Nat.le_of_ble_eq_true rfl, Nat.le_of_ble_eq_true rfl⟩) h_12 rfl rfl rfl rfl (Nat.le_of_ble_eq_true rfl) dX8_forgetTemplatesWith_16 ⟨Nat.le_of_ble_eq_true rfl, Nat.le_of_ble_eq_true rfl⟩ (fun v6 Φ7 sz6 st6 hp6 hs6 => ?_)
  obtain ⟨rfl, hq6, fr6⟩ := hp6
  replace hq6 : sz6 = sz := hq6
  subst sz6
  replace hs6 : st6 = [.int 0] := hs6
  subst st6
  refine z_if_eq (tgt := 29) B dX8_forgetTemplatesWith_19 rfl (fun c_6 => ?_) (fun h9 => absurd (by decide) h9)
  refine z_iinc (k := 0) (v := 3) (lv' := [(2, .int 3), (0, .ref (x + 74)), (1, .int 4)]) B dX8_forgetTemplatesWith_29 rfl rfl (Nat.le_of_ble_eq_true rfl) rfl ?_
  refine z_goto (tgt := 2) B dX8_forgetTemplatesWith_32 rfl ?_
  refine z_iload_n B dX8_forgetTemplatesWith_2 rfl 0 rfl ?_
  refine z_iconst (v := 4) B dX8_forgetTemplatesWith_3 rfl ?_
  refine z_icmp_ge (tgt := 35) B dX8_forgetTemplatesWith_4 rfl (fun h9 => absurd h9 (by decide)) (fun c_7 => ?_)
  refine z_aload_n B dX8_forgetTemplatesWith_7 rfl 1 rfl ?_
  have h_13 : Φ7 (x + 74) = some (o_ 10 [.ref (x + 3), .ref (x + 46), .ref (x + 75), .ref (x + 77), .int 0, .ref (x + 78), .ref (x + 79), .int 0, .long 0, .int 0]) := ((fr6 (x + 74)).trans ((fr5 (x + 74)).trans h_9))
  refine z_get (ref := "FlowExporter$Sender") (C := RX8) (T := TX8) (N := 10) (ci := 10) (v := .ref (x + 3)) B (by decide +kernel) rfl 0 (by decide) (by decide +kernel) rfl h_13 rfl dX8_forgetTemplatesWith_8 ?_
  refine z_iload_n B dX8_forgetTemplatesWith_11 rfl 0 rfl ?_
  have h_14 : Φ7 (x + 3) = some (o_ 3 [.ref (x + 4), .ref (x + 5), .ref (x + 6), .ref (x + 7), .int 1, .int u]) := ((fr6 (x + 3)).trans ((fr5 (x + 3)).trans h_10))
  have h_15 : Φ7 (x + 6) = some (aq_ G 4 4 (va_up (va_up (va_up (va_up (fun _ => none) (0 : Int32).toNatClampNeg (some (x + 8))) (1 : Int32).toNatClampNeg (some (x + 12))) (2 : Int32).toNatClampNeg (some (x + 16))) (3 : Int32).toNatClampNeg (some (x + 20)))) := ((fr6 (x + 6)).trans ((fr5 (x + 6)).trans h_11))
  refine z_callV (As := [.int 3]) (rest := []) B (f_X1_template_u3 G l Φ7 sz x u h_14 h_15) (cwV 1 B.1.2.2.2.2 gX8_forgetTemplatesWith_X1_template rfl rfl rfl (by decide +kernel) ⟨Nat.le_of_ble_eq_true rfl, Nat.le_of_ble_eq_true rfl⟩) h_14 rfl rfl rfl rfl (Nat.le_of_ble_eq_true rfl) dX8_forgetTemplatesWith_12 ⟨Nat.le_of_ble_eq_true rfl, Nat.le_of_ble_eq_true rfl⟩ (fun v7 Φ8 sz7 st7 hp7 hs7 => ?_)
  obtain ⟨rfl, hq7, fr7⟩ := hp7
  replace hq7 : sz7 = sz := hq7
  subst sz7
  replace hs7 : st7 = [.ref (x + 20)] := hs7
  subst st7
  refine z_iload_n B dX8_forgetTemplatesWith_15 rfl 2 rfl ?_
  have h_16 : Φ8 (x + 20) = some (o_ 12 [.ref (x + 21), .int 0, .int 0, .int 0]) := ((fr7 (x + 20)).trans ((fr6 (x + 20)).trans ((fr5 (x + 20)).trans ((fr4 (x + 20)).trans ((fr3 (x + 20)).trans ((fset_fr hΦ1 (ne_off (x := x) (i := 20) (j := 78) rfl)).trans ((fr2 (x + 20)).trans ((fr1 (x + 20)).trans hc20_))))))))
  refine z_callV (As := [.int 4]) (rest := []) B (f_X10_has_3_4 G l Φ8 sz x h_16) (cwV 1 B.1.2.2.2.2 gX8_forgetTemplatesWith_X10_has rfl rfl rfl (by decide +kernel) ⟨Nat.le_of_ble_eq_true rfl, Nat.le_of_ble_eq_true rfl⟩) h_16 rfl rfl rfl rfl (Nat.le_of_ble_eq_true rfl) dX8_forgetTemplatesWith_16 ⟨Nat.le_of_ble_eq_true rfl, Nat.le_of_ble_eq_true rfl⟩ (fun v8 Φ9 sz8 st8 hp8 hs8 => ?_)
  obtain ⟨rfl, hq8, fr8⟩ := hp8
  replace hq8 : sz8 = sz := hq8
  subst sz8
  replace hs8 : st8 = [.int 0] := hs8
  subst st8
  refine z_if_eq (tgt := 29) B dX8_forgetTemplatesWith_19 rfl (fun c_8 => ?_) (fun h9 => absurd (by decide) h9)
  refine z_iinc (k := 0) (v := 4) (lv' := [(2, .int 4), (0, .ref (x + 74)), (1, .int 4)]) B dX8_forgetTemplatesWith_29 rfl rfl (Nat.le_of_ble_eq_true rfl) rfl ?_
  refine z_goto (tgt := 2) B dX8_forgetTemplatesWith_32 rfl ?_
  refine z_iload_n B dX8_forgetTemplatesWith_2 rfl 0 rfl ?_
  refine z_iconst (v := 4) B dX8_forgetTemplatesWith_3 rfl ?_
  refine z_icmp_ge (tgt := 35) B dX8_forgetTemplatesWith_4 rfl (fun c_9 => ?_) (fun h9 => absurd (by decide) h9)
  have h_17 : Φ9 (x + 78) = some (ai_ G 4 (upd (fun _ => 0) (0 : Int32).toNatClampNeg 0)) := ((fr8 (x + 78)).trans ((fr7 (x + 78)).trans ((fr6 (x + 78)).trans ((fr5 (x + 78)).trans ((fr4 (x + 78)).trans ((fr3 (x + 78)).trans h_4))))))
  exact z_ret_v B dX8_forgetTemplatesWith_35 ⟨rfl, rfl, (fun b9 h9a => ((fr8 b9).trans ((fr7 b9).trans ((fr6 b9).trans ((fr5 b9).trans ((fr4 b9).trans ((fr3 b9).trans ((fset_fr hΦ1 h9a).trans ((fr2 b9).trans ((fr1 b9).trans rfl)))))))))), h_17⟩

set_option maxHeartbeats 4000000 in
set_option maxRecDepth 100000 in
theorem f_X11_setSupport_4_0 (G : EnvG) (l : Launch) (Φ : Hm) (sz : Nat) (x : Nat) (hc0_ : Φ x = some (o_ 13 [.ref (x + 1), .ref (x + 3), .ref (x + 24), .ref (x + 46), .ref (x + 74), .ref (x + 80), .ref (x + 132), .ref (x + 121)])) (hc3_ : Φ (x + 3) = some (o_ 3 [.ref (x + 4), .ref (x + 5), .ref (x + 6), .ref (x + 7), .int 1, .int 511])) (hc6_ : Φ (x + 6) = some (aq_ G 4 4 (va_up (va_up (va_up (va_up (fun _ => none) (0 : Int32).toNatClampNeg (some (x + 8))) (1 : Int32).toNatClampNeg (some (x + 12))) (2 : Int32).toNatClampNeg (some (x + 16))) (3 : Int32).toNatClampNeg (some (x + 20))))) (hc7_ : Φ (x + 7) = some (aq_ G 4 4 (va_up (va_up (va_up (va_up (fun _ => none) (0 : Int32).toNatClampNeg (some (x + 10))) (1 : Int32).toNatClampNeg (some (x + 14))) (2 : Int32).toNatClampNeg (some (x + 18))) (3 : Int32).toNatClampNeg (some (x + 22))))) (hc8_ : Φ (x + 8) = some (o_ 12 [.ref (x + 9), .int 9, .int 511, .int 29])) (hc9_ : Φ (x + 9) = some (ai_ G 9 (upd (upd (upd (upd (upd (upd (upd (upd (upd (fun _ => 0) (0 : Int32).toNatClampNeg 0) (1 : Int32).toNatClampNeg 1) (2 : Int32).toNatClampNeg 2) (3 : Int32).toNatClampNeg 3) (4 : Int32).toNatClampNeg 4) (5 : Int32).toNatClampNeg 5) (6 : Int32).toNatClampNeg 6) (7 : Int32).toNatClampNeg 7) (8 : Int32).toNatClampNeg 8))) (hc10_ : Φ (x + 10) = some (o_ 12 [.ref (x + 11), .int 9, .int 511, .int 29])) (hc11_ : Φ (x + 11) = some (ai_ G 9 (upd (upd (upd (upd (upd (upd (upd (upd (upd (fun _ => 0) (0 : Int32).toNatClampNeg 0) (1 : Int32).toNatClampNeg 1) (2 : Int32).toNatClampNeg 2) (3 : Int32).toNatClampNeg 3) (4 : Int32).toNatClampNeg 4) (5 : Int32).toNatClampNeg 5) (6 : Int32).toNatClampNeg 6) (7 : Int32).toNatClampNeg 7) (8 : Int32).toNatClampNeg 8))) (hc12_ : Φ (x + 12) = some (o_ 12 [.ref (x + 13), .int 0, .int 0, .int 0])) (hc14_ : Φ (x + 14) = some (o_ 12 [.ref (x + 15), .int 0, .int 0, .int 0])) (hc16_ : Φ (x + 16) = some (o_ 12 [.ref (x + 17), .int 0, .int 0, .int 0])) (hc18_ : Φ (x + 18) = some (o_ 12 [.ref (x + 19), .int 0, .int 0, .int 0])) (hc20_ : Φ (x + 20) = some (o_ 12 [.ref (x + 21), .int 0, .int 0, .int 0])) (hc22_ : Φ (x + 22) = some (o_ 12 [.ref (x + 23), .int 0, .int 0, .int 0])) (hc74_ : Φ (x + 74) = some (o_ 10 [.ref (x + 3), .ref (x + 46), .ref (x + 75), .ref (x + 77), .int 0, .ref (x + 78), .ref (x + 79), .int 0, .long 0, .int 0])) (hc78_ : Φ (x + 78) = some (ai_ G 4 (fun _ => 0))) (hna : G.2.2.2 ≤ x) : Ct G l yX11_setSupport wsX11_setSupport ({ frames := 3, cells := 0, slots := 0, locals := 67 }) 0 0 [.ref x, .int 4, .int 0] Φ sz (fun v Φ1 sz1 => v = some (.int 1) ∧ ∀ b9 : Nat, x + 149 ≤ b9 → Φ1 b9 = Φ b9) := by
  refine Ct.of (cc := cX11_setSupport) (maxL := 4) (ret := (some .boolean)) (by decide) rfl (Nat.le_of_ble_eq_true rfl) ?_
  intro p9 e9 s9 m9 w9 t9 k9 B
  show Z p9 l e9 _ s9 m9 _ w9 t9 k9 _ G 4 0 [(0, .ref x), (1, .int 4), (2, .int 0)] [] Φ sz 0 0
  refine z_iload_n B dX11_setSupport_0 rfl 1 rfl ?_
  refine z_if_lt (tgt := 10) B dX11_setSupport_1 rfl (fun h9 => absurd h9 (by decide)) (fun c_1 => ?_)
  refine z_iload_n B dX11_setSupport_4 rfl 1 rfl ?_
  refine z_bipush (v := 9) B dX11_setSupport_5 rfl ?_
  refine z_icmp_lt (tgt := 18) B dX11_setSupport_7 rfl (fun c_2 => ?_) (fun h9 => absurd (by decide) h9)
  refine z_aload_n B dX11_setSupport_18 rfl 0 rfl ?_
  refine z_get (ref := "FlowExporter") (C := RX11) (T := TX11) (N := 8) (ci := 13) (v := .ref (x + 3)) B (by decide +kernel) rfl 1 (by decide) (by decide +kernel) rfl hc0_ rfl dX11_setSupport_19 ?_
  refine z_get (ref := "FlowExporter$Config") (C := RX1) (T := TX1) (N := 6) (ci := 3) (v := .int 511) B (by decide +kernel) rfl 5 (by decide) (by decide +kernel) rfl hc3_ rfl dX11_setSupport_22 ?_
  refine z_iload_n B dX11_setSupport_25 rfl 1 rfl ?_
  refine z_ishr B dX11_setSupport_26 ?_
  refine z_top (st1 := [.int 31]) (congrArg (fun w9 : Int32 => ([.int w9] : List Value)) (show ((511 : Int32) >>> ((4 : Int32) &&& (31 : Int32)) : Int32) = 31 by decide +kernel)) ?_
  refine z_iconst (v := 1) B dX11_setSupport_27 rfl ?_
  refine z_iand B dX11_setSupport_28 ?_
  refine z_top (st1 := [.int 1]) (congrArg (fun w9 : Int32 => ([.int w9] : List Value)) (show (31 &&& 1 : Int32) = 1 by decide +kernel)) ?_
  refine z_iconst (v := 1) B dX11_setSupport_29 rfl ?_
  refine z_icmp_ne (tgt := 37) B dX11_setSupport_30 rfl (fun h9 => absurd (by decide) h9) (fun c_3 => ?_)
  refine z_iconst (v := 1) B dX11_setSupport_33 rfl ?_
  refine z_goto (tgt := 38) B dX11_setSupport_34 rfl ?_
  refine z_istore_n (lv' := [(3, .int 1), (0, .ref x), (1, .int 4), (2, .int 0)]) B dX11_setSupport_38 rfl (Nat.le_of_ble_eq_true rfl) rfl ?_
  refine z_iload_n B dX11_setSupport_39 rfl 0 rfl ?_
  refine z_iload_n B dX11_setSupport_40 rfl 3 rfl ?_
  refine z_icmp_eq (tgt := 70) B dX11_setSupport_41 rfl (fun h9 => absurd h9 (by decide)) (fun c_4 => ?_)
  refine z_aload_n B dX11_setSupport_44 rfl 1 rfl ?_
  refine z_get (ref := "FlowExporter") (C := RX11) (T := TX11) (N := 8) (ci := 13) (v := .ref (x + 3)) B (by decide +kernel) rfl 1 (by decide) (by decide +kernel) rfl hc0_ rfl dX11_setSupport_45 ?_
  refine z_aload_n B dX11_setSupport_48 rfl 1 rfl ?_
  refine z_get (ref := "FlowExporter") (C := RX11) (T := TX11) (N := 8) (ci := 13) (v := .ref (x + 3)) B (by decide +kernel) rfl 1 (by decide) (by decide +kernel) rfl hc0_ rfl dX11_setSupport_49 ?_
  refine z_get (ref := "FlowExporter$Config") (C := RX1) (T := TX1) (N := 6) (ci := 3) (v := .int 511) B (by decide +kernel) rfl 5 (by decide) (by decide +kernel) rfl hc3_ rfl dX11_setSupport_52 ?_
  refine z_iconst (v := 1) B dX11_setSupport_55 rfl ?_
  refine z_iload_n B dX11_setSupport_56 rfl 2 rfl ?_
  refine z_ishl B dX11_setSupport_57 ?_
  refine z_top (st1 := [.int 16, .int 511, .ref (x + 3)]) (congrArg (fun w9 : Int32 => ([.int w9, .int 511, .ref (x + 3)] : List Value)) (show ((1 : Int32) <<< ((4 : Int32) &&& (31 : Int32)) : Int32) = 16 by decide +kernel)) ?_
  refine z_ixor B dX11_setSupport_58 ?_
  refine z_top (st1 := [.int 495, .ref (x + 3)]) (congrArg (fun w9 : Int32 => ([.int w9, .ref (x + 3)] : List Value)) (show (511 ^^^ 16 : Int32) = 495 by decide +kernel)) ?_
  refine z_callV (As := [.int 495]) (rest := []) B (f_X1_support_s4 G l Φ sz x hc3_ hc6_ hc7_ hc8_ hc9_ hc10_ hc11_ hc12_ hc14_ hc16_ hc18_ hc20_ hc22_ hna) (cwV 1 B.1.2.2.2.2 gX11_setSupport_X1_support rfl rfl rfl (by decide +kernel) ⟨Nat.le_of_ble_eq_true rfl, Nat.le_of_ble_eq_true rfl⟩) hc3_ rfl rfl rfl rfl (Nat.le_of_ble_eq_true rfl) dX11_setSupport_59 ⟨Nat.le_of_ble_eq_true rfl, Nat.le_of_ble_eq_true rfl⟩ (fun v1 Φ1 sz1 st1 hp1 hs1 => ?_)
  obtain ⟨rfl, hq1, fr1, h_1, h_2, h_3, h_4, h_5, h_6⟩ := hp1
  replace hq1 : sz1 = sz := hq1
  subst sz1
  replace hs1 : st1 = [] := hs1
  subst st1
  have h_7 : Φ1 (x + 10) = some (o_ 12 [.ref (x + 11), .int 8, .int 495, .int 25]) := h_1
  have h_8 : Φ1 (x + 11) = some (ai_ G 9 (upd (upd (upd (upd (upd (upd (upd (upd (upd (upd (upd (upd (upd (upd (upd (upd (upd (fun _ => 0) (0 : Int32).toNatClampNeg 0) (1 : Int32).toNatClampNeg 1) (2 : Int32).toNatClampNeg 2) (3 : Int32).toNatClampNeg 3) (4 : Int32).toNatClampNeg 4) (5 : Int32).toNatClampNeg 5) (6 : Int32).toNatClampNeg 6) (7 : Int32).toNatClampNeg 7) (8 : Int32).toNatClampNeg 8) (0 : Int32).toNatClampNeg 0) (1 : Int32).toNatClampNeg 1) (2 : Int32).toNatClampNeg 2) (3 : Int32).toNatClampNeg 3) (4 : Int32).toNatClampNeg 5) (5 : Int32).toNatClampNeg 6) (6 : Int32).toNatClampNeg 7) (7 : Int32).toNatClampNeg 8)) := h_2
  have h_9 : Φ1 (x + 14) = some (o_ 12 [.ref (x + 15), .int 0, .int 0, .int 0]) := h_3
  have h_10 : Φ1 (x + 18) = some (o_ 12 [.ref (x + 19), .int 0, .int 0, .int 0]) := h_4
  have h_11 : Φ1 (x + 22) = some (o_ 12 [.ref (x + 23), .int 0, .int 0, .int 0]) := h_5
  have h_12 : Φ1 (x + 3) = some (o_ 3 [.ref (x + 4), .ref (x + 5), .ref (x + 6), .ref (x + 7), .int 1, .int 495]) := h_6
  refine z_aload_n B dX11_setSupport_62 rfl 1 rfl ?_
  have h_13 : Φ1 x = some (o_ 13 [.ref (x + 1), .ref (x + 3), .ref (x + 24), .ref (x + 46), .ref (x + 74), .ref (x + 80), .ref (x + 132), .ref (x + 121)]) := ((fr1 x (ne_off (x := x) (i := 0) (j := 10) rfl) (ne_off (x := x) (i := 0) (j := 11) rfl) (ne_off (x := x) (i := 0) (j := 14) rfl) (ne_off (x := x) (i := 0) (j := 18) rfl) (ne_off (x := x) (i := 0) (j := 22) rfl) (ne_off (x := x) (i := 0) (j := 3) rfl)).trans hc0_)
  refine z_get (ref := "FlowExporter") (C := RX11) (T := TX11) (N := 8) (ci := 13) (v := .ref (x + 74)) B (by decide +kernel) rfl 4 (by decide) (by decide +kernel) rfl h_13 rfl dX11_setSupport_63 ?_
  refine z_iload_n B dX11_setSupport_66 rfl 2 rfl ?_
  have h_14 : Φ1 (x + 6) = some (aq_ G 4 4 (va_up (va_up (va_up (va_up (fun _ => none) (0 : Int32).toNatClampNeg (some (x + 8))) (1 : Int32).toNatClampNeg (some (x + 12))) (2 : Int32).toNatClampNeg (some (x + 16))) (3 : Int32).toNatClampNeg (some (x + 20)))) := ((fr1 (x + 6) (ne_off (x := x) (i := 6) (j := 10) rfl) (ne_off (x := x) (i := 6) (j := 11) rfl) (ne_off (x := x) (i := 6) (j := 14) rfl) (ne_off (x := x) (i := 6) (j := 18) rfl) (ne_off (x := x) (i := 6) (j := 22) rfl) (ne_off (x := x) (i := 6) (j := 3) rfl)).trans hc6_)
  have h_15 : Φ1 (x + 8) = some (o_ 12 [.ref (x + 9), .int 9, .int 511, .int 29]) := ((fr1 (x + 8) (ne_off (x := x) (i := 8) (j := 10) rfl) (ne_off (x := x) (i := 8) (j := 11) rfl) (ne_off (x := x) (i := 8) (j := 14) rfl) (ne_off (x := x) (i := 8) (j := 18) rfl) (ne_off (x := x) (i := 8) (j := 22) rfl) (ne_off (x := x) (i := 8) (j := 3) rfl)).trans hc8_)
  have h_16 : Φ1 (x + 12) = some (o_ 12 [.ref (x + 13), .int 0, .int 0, .int 0]) := ((fr1 (x + 12) (ne_off (x := x) (i := 12) (j := 10) rfl) (ne_off (x := x) (i := 12) (j := 11) rfl) (ne_off (x := x) (i := 12) (j := 14) rfl) (ne_off (x := x) (i := 12) (j := 18) rfl) (ne_off (x := x) (i := 12) (j := 22) rfl) (ne_off (x := x) (i := 12) (j := 3) rfl)).trans hc12_)
  have h_17 : Φ1 (x + 16) = some (o_ 12 [.ref (x + 17), .int 0, .int 0, .int 0]) := ((fr1 (x + 16) (ne_off (x := x) (i := 16) (j := 10) rfl) (ne_off (x := x) (i := 16) (j := 11) rfl) (ne_off (x := x) (i := 16) (j := 14) rfl) (ne_off (x := x) (i := 16) (j := 18) rfl) (ne_off (x := x) (i := 16) (j := 22) rfl) (ne_off (x := x) (i := 16) (j := 3) rfl)).trans hc16_)
  have h_18 : Φ1 (x + 20) = some (o_ 12 [.ref (x + 21), .int 0, .int 0, .int 0]) := ((fr1 (x + 20) (ne_off (x := x) (i := 20) (j := 10) rfl) (ne_off (x := x) (i := 20) (j := 11) rfl) (ne_off (x := x) (i := 20) (j := 14) rfl) (ne_off (x := x) (i := 20) (j := 18) rfl) (ne_off (x := x) (i := 20) (j := 22) rfl) (ne_off (x := x) (i := 20) (j := 3) rfl)).trans hc20_)
  have h_19 : Φ1 (x + 74) = some (o_ 10 [.ref (x + 3), .ref (x + 46), .ref (x + 75), .ref (x + 77), .int 0, .ref (x + 78), .ref (x + 79), .int 0, .long 0, .int 0]) := ((fr1 (x + 74) (ne_off (x := x) (i := 74) (j := 10) rfl) (ne_off (x := x) (i := 74) (j := 11) rfl) (ne_off (x := x) (i := 74) (j := 14) rfl) (ne_off (x := x) (i := 74) (j := 18) rfl) (ne_off (x := x) (i := 74) (j := 22) rfl) (ne_off (x := x) (i := 74) (j := 3) rfl)).trans hc74_)
  have h_20 : Φ1 (x + 78) = some (ai_ G 4 (fun _ => 0)) := ((fr1 (x + 78) (ne_off (x := x) (i := 78) (j := 10) rfl) (ne_off (x := x) (i := 78) (j := 11) rfl) (ne_off (x := x) (i := 78) (j := 14) rfl) (ne_off (x := x) (i := 78) (j := 18) rfl) (ne_off (x := x) (i := 78) (j := 22) rfl) (ne_off (x := x) (i := 78) (j := 3) rfl)).trans hc78_)
  refine z_callV (As := [.int 4]) (rest := []) B (f_X8_forget_4 G l Φ1 sz x 495 h_12 h_14 h_15 h_16 h_17 h_18 h_19 h_20 hna) (cwV 1 B.1.2.2.2.2 gX11_setSupport_X8_forgetTemplatesWith rfl rfl rfl (by decide +kernel) ⟨Nat.le_of_ble_eq_true rfl, Nat.le_of_ble_eq_true rfl⟩) h_19 rfl rfl rfl rfl (Nat.le_of_ble_eq_true rfl) dX11_setSupport_67 ⟨Nat.le_of_ble_eq_true rfl, Nat.le_of_ble_eq_true rfl⟩ (fun v2 Φ2 sz2 st2 hp2 hs2 => ?_)
  obtain ⟨rfl, hq2, fr2, h_21⟩ := hp2
  replace hq2 : sz2 = sz := hq2
  subst sz2
  replace hs2 : st2 = [] := hs2
  subst st2
  have h_22 : Φ2 (x + 78) = some (ai_ G 4 (upd (fun _ => 0) (0 : Int32).toNatClampNeg 0)) := h_21
  refine z_iload_n B dX11_setSupport_70 rfl 0 rfl ?_
  exact z_ret_z B dX11_setSupport_71 (by decide) ⟨rfl, fun b9 h9 => ((fr2 b9 (Nat.ne_of_gt (Nat.lt_of_lt_of_le (lt_off (x := x) (i := 78) (j := 149) rfl) h9))).trans ((fr1 b9 (Nat.ne_of_gt (Nat.lt_of_lt_of_le (lt_off (x := x) (i := 10) (j := 149) rfl) h9)) (Nat.ne_of_gt (Nat.lt_of_lt_of_le (lt_off (x := x) (i := 11) (j := 149) rfl) h9)) (Nat.ne_of_gt (Nat.lt_of_lt_of_le (lt_off (x := x) (i := 14) (j := 149) rfl) h9)) (Nat.ne_of_gt (Nat.lt_of_lt_of_le (lt_off (x := x) (i := 18) (j := 149) rfl) h9)) (Nat.ne_of_gt (Nat.lt_of_lt_of_le (lt_off (x := x) (i := 22) (j := 149) rfl) h9)) (Nat.ne_of_gt (Nat.lt_of_lt_of_le (lt_off (x := x) (i := 3) (j := 149) rfl) h9))).trans rfl))⟩

set_option maxHeartbeats 4000000 in
set_option maxRecDepth 100000 in
theorem f_X11_setSupport_4_1 (G : EnvG) (l : Launch) (Φ : Hm) (sz : Nat) (x : Nat) (hc0_ : Φ x = some (o_ 13 [.ref (x + 1), .ref (x + 3), .ref (x + 24), .ref (x + 46), .ref (x + 74), .ref (x + 80), .ref (x + 132), .ref (x + 121)])) (hc3_ : Φ (x + 3) = some (o_ 3 [.ref (x + 4), .ref (x + 5), .ref (x + 6), .ref (x + 7), .int 1, .int 511])) : Ct G l yX11_setSupport wsX11_setSupport ({ frames := 0, cells := 0, slots := 0, locals := 0 }) 0 0 [.ref x, .int 4, .int 1] Φ sz (fun v Φ1 sz1 => v = some (.int 1) ∧ ∀ b9 : Nat, x + 149 ≤ b9 → Φ1 b9 = Φ b9) := by
  refine Ct.of (cc := cX11_setSupport) (maxL := 4) (ret := (some .boolean)) (by decide) rfl (Nat.le_of_ble_eq_true rfl) ?_
  intro p9 e9 s9 m9 w9 t9 k9 B
  show Z p9 l e9 _ s9 m9 _ w9 t9 k9 _ G 4 0 [(0, .ref x), (1, .int 4), (2, .int 1)] [] Φ sz 0 0
  refine z_iload_n B dX11_setSupport_0 rfl 1 rfl ?_
  refine z_if_lt (tgt := 10) B dX11_setSupport_1 rfl (fun h9 => absurd h9 (by decide)) (fun c_1 => ?_)
  refine z_iload_n B dX11_setSupport_4 rfl 1 rfl ?_
  refine z_bipush (v := 9) B dX11_setSupport_5 rfl ?_
  refine z_icmp_lt (tgt := 18) B dX11_setSupport_7 rfl (fun c_2 => ?_) (fun h9 => absurd (by decide) h9)
  refine z_aload_n B dX11_setSupport_18 rfl 0 rfl ?_
  refine z_get (ref := "FlowExporter") (C := RX11) (T := TX11) (N := 8) (ci := 13) (v := .ref (x + 3)) B (by decide +kernel) rfl 1 (by decide) (by decide +kernel) rfl hc0_ rfl dX11_setSupport_19 ?_
  refine z_get (ref := "FlowExporter$Config") (C := RX1) (T := TX1) (N := 6) (ci := 3) (v := .int 511) B (by decide +kernel) rfl 5 (by decide) (by decide +kernel) rfl hc3_ rfl dX11_setSupport_22 ?_
  refine z_iload_n B dX11_setSupport_25 rfl 1 rfl ?_
  refine z_ishr B dX11_setSupport_26 ?_
  refine z_top (st1 := [.int 31]) (congrArg (fun w9 : Int32 => ([.int w9] : List Value)) (show ((511 : Int32) >>> ((4 : Int32) &&& (31 : Int32)) : Int32) = 31 by decide +kernel)) ?_
  refine z_iconst (v := 1) B dX11_setSupport_27 rfl ?_
  refine z_iand B dX11_setSupport_28 ?_
  refine z_top (st1 := [.int 1]) (congrArg (fun w9 : Int32 => ([.int w9] : List Value)) (show (31 &&& 1 : Int32) = 1 by decide +kernel)) ?_
  refine z_iconst (v := 1) B dX11_setSupport_29 rfl ?_
  refine z_icmp_ne (tgt := 37) B dX11_setSupport_30 rfl (fun h9 => absurd (by decide) h9) (fun c_3 => ?_)
  refine z_iconst (v := 1) B dX11_setSupport_33 rfl ?_
  refine z_goto (tgt := 38) B dX11_setSupport_34 rfl ?_
  refine z_istore_n (lv' := [(3, .int 1), (0, .ref x), (1, .int 4), (2, .int 1)]) B dX11_setSupport_38 rfl (Nat.le_of_ble_eq_true rfl) rfl ?_
  refine z_iload_n B dX11_setSupport_39 rfl 0 rfl ?_
  refine z_iload_n B dX11_setSupport_40 rfl 3 rfl ?_
  refine z_icmp_eq (tgt := 70) B dX11_setSupport_41 rfl (fun c_4 => ?_) (fun h9 => absurd (by decide) h9)
  refine z_iload_n B dX11_setSupport_70 rfl 0 rfl ?_
  exact z_ret_z B dX11_setSupport_71 (by decide) ⟨rfl, fun b9 h9 => rfl⟩

set_option maxHeartbeats 4000000 in
set_option maxRecDepth 100000 in
theorem f_X10_has_0_5 (G : EnvG) (l : Launch) (Φ : Hm) (sz : Nat) (x : Nat) (hc8_ : Φ (x + 8) = some (o_ 12 [.ref (x + 9), .int 9, .int 511, .int 29])) : Ct G l yX10_has wsX10_has ({ frames := 0, cells := 0, slots := 0, locals := 0 }) 0 0 [.ref (x + 8), .int 5] Φ sz (fun v Φ1 sz1 => v = some (.int 1) ∧ sz1 = sz ∧ (∀ b9 : Nat, Φ1 b9 = Φ b9)) := by
  refine Ct.of (cc := cX10_has) (maxL := 2) (ret := (some .boolean)) (by decide) rfl (Nat.le_of_ble_eq_true rfl) ?_
  intro p9 e9 s9 m9 w9 t9 k9 B
  show Z p9 l e9 _ s9 m9 _ w9 t9 k9 _ G 2 0 [(0, .ref (x + 8)), (1, .int 5)] [] Φ sz 0 0
  refine z_iload_n B dX10_has_0 rfl 1 rfl ?_
  refine z_if_lt (tgt := 26) B dX10_has_1 rfl (fun h9 => absurd h9 (by decide)) (fun c_1 => ?_)
  refine z_iload_n B dX10_has_4 rfl 1 rfl ?_
  refine z_bipush (v := 9) B dX10_has_5 rfl ?_
  refine z_icmp_ge (tgt := 26) B dX10_has_7 rfl (fun h9 => absurd h9 (by decide)) (fun c_2 => ?_)
  refine z_aload_n B dX10_has_10 rfl 0 rfl ?_
  refine z_get (ref := "FlowExporter$Template") (C := RX10) (T := TX10) (N := 4) (ci := 12) (v := .int 511) B (by decide +kernel) rfl 2 (by decide) (by decide +kernel) rfl hc8_ rfl dX10_has_11 ?_
  refine z_iload_n B dX10_has_14 rfl 1 rfl ?_
  refine z_ishr B dX10_has_15 ?_
  refine z_top (st1 := [.int 15]) (congrArg (fun w9 : Int32 => ([.int w9] : List Value)) (show ((511 : Int32) >>> ((5 : Int32) &&& (31 : Int32)) : Int32) = 15 by decide +kernel)) ?_
  refine z_iconst (v := 1) B dX10_has_16 rfl ?_
  refine z_iand B dX10_has_17 ?_
  refine z_top (st1 := [.int 1]) (congrArg (fun w9 : Int32 => ([.int w9] : List Value)) (show (15 &&& 1 : Int32) = 1 by decide +kernel)) ?_
  refine z_iconst (v := 1) B dX10_has_18 rfl ?_
  refine z_icmp_ne (tgt := 26) B dX10_has_19 rfl (fun h9 => absurd (by decide) h9) (fun c_3 => ?_)
  refine z_iconst (v := 1) B dX10_has_22 rfl ?_
  refine z_goto (tgt := 27) B dX10_has_23 rfl ?_
  exact z_ret_z B dX10_has_27 (by decide) ⟨rfl, rfl, (fun b9 => rfl)⟩

set_option maxHeartbeats 4000000 in
set_option maxRecDepth 100000 in
theorem f_X10_has_1_5 (G : EnvG) (l : Launch) (Φ : Hm) (sz : Nat) (x : Nat) (hc12_ : Φ (x + 12) = some (o_ 12 [.ref (x + 13), .int 0, .int 0, .int 0])) : Ct G l yX10_has wsX10_has ({ frames := 0, cells := 0, slots := 0, locals := 0 }) 0 0 [.ref (x + 12), .int 5] Φ sz (fun v Φ1 sz1 => v = some (.int 0) ∧ sz1 = sz ∧ (∀ b9 : Nat, Φ1 b9 = Φ b9)) := by
  refine Ct.of (cc := cX10_has) (maxL := 2) (ret := (some .boolean)) (by decide) rfl (Nat.le_of_ble_eq_true rfl) ?_
  intro p9 e9 s9 m9 w9 t9 k9 B
  show Z p9 l e9 _ s9 m9 _ w9 t9 k9 _ G 2 0 [(0, .ref (x + 12)), (1, .int 5)] [] Φ sz 0 0
  refine z_iload_n B dX10_has_0 rfl 1 rfl ?_
  refine z_if_lt (tgt := 26) B dX10_has_1 rfl (fun h9 => absurd h9 (by decide)) (fun c_1 => ?_)
  refine z_iload_n B dX10_has_4 rfl 1 rfl ?_
  refine z_bipush (v := 9) B dX10_has_5 rfl ?_
  refine z_icmp_ge (tgt := 26) B dX10_has_7 rfl (fun h9 => absurd h9 (by decide)) (fun c_2 => ?_)
  refine z_aload_n B dX10_has_10 rfl 0 rfl ?_
  refine z_get (ref := "FlowExporter$Template") (C := RX10) (T := TX10) (N := 4) (ci := 12) (v := .int 0) B (by decide +kernel) rfl 2 (by decide) (by decide +kernel) rfl hc12_ rfl dX10_has_11 ?_
  refine z_iload_n B dX10_has_14 rfl 1 rfl ?_
  refine z_ishr B dX10_has_15 ?_
  refine z_top (st1 := [.int 0]) (congrArg (fun w9 : Int32 => ([.int w9] : List Value)) (show ((0 : Int32) >>> ((5 : Int32) &&& (31 : Int32)) : Int32) = 0 by decide +kernel)) ?_
  refine z_iconst (v := 1) B dX10_has_16 rfl ?_
  refine z_iand B dX10_has_17 ?_
  refine z_top (st1 := [.int 0]) (congrArg (fun w9 : Int32 => ([.int w9] : List Value)) (show (0 &&& 1 : Int32) = 0 by decide +kernel)) ?_
  refine z_iconst (v := 1) B dX10_has_18 rfl ?_
  refine z_icmp_ne (tgt := 26) B dX10_has_19 rfl (fun c_3 => ?_) (fun h9 => absurd h9 (by decide))
  refine z_iconst (v := 0) B dX10_has_26 rfl ?_
  exact z_ret_z B dX10_has_27 (by decide) ⟨rfl, rfl, (fun b9 => rfl)⟩

set_option maxHeartbeats 4000000 in
set_option maxRecDepth 100000 in
theorem f_X10_has_2_5 (G : EnvG) (l : Launch) (Φ : Hm) (sz : Nat) (x : Nat) (hc16_ : Φ (x + 16) = some (o_ 12 [.ref (x + 17), .int 0, .int 0, .int 0])) : Ct G l yX10_has wsX10_has ({ frames := 0, cells := 0, slots := 0, locals := 0 }) 0 0 [.ref (x + 16), .int 5] Φ sz (fun v Φ1 sz1 => v = some (.int 0) ∧ sz1 = sz ∧ (∀ b9 : Nat, Φ1 b9 = Φ b9)) := by
  refine Ct.of (cc := cX10_has) (maxL := 2) (ret := (some .boolean)) (by decide) rfl (Nat.le_of_ble_eq_true rfl) ?_
  intro p9 e9 s9 m9 w9 t9 k9 B
  show Z p9 l e9 _ s9 m9 _ w9 t9 k9 _ G 2 0 [(0, .ref (x + 16)), (1, .int 5)] [] Φ sz 0 0
  refine z_iload_n B dX10_has_0 rfl 1 rfl ?_
  refine z_if_lt (tgt := 26) B dX10_has_1 rfl (fun h9 => absurd h9 (by decide)) (fun c_1 => ?_)
  refine z_iload_n B dX10_has_4 rfl 1 rfl ?_
  refine z_bipush (v := 9) B dX10_has_5 rfl ?_
  refine z_icmp_ge (tgt := 26) B dX10_has_7 rfl (fun h9 => absurd h9 (by decide)) (fun c_2 => ?_)
  refine z_aload_n B dX10_has_10 rfl 0 rfl ?_
  refine z_get (ref := "FlowExporter$Template") (C := RX10) (T := TX10) (N := 4) (ci := 12) (v := .int 0) B (by decide +kernel) rfl 2 (by decide) (by decide +kernel) rfl hc16_ rfl dX10_has_11 ?_
  refine z_iload_n B dX10_has_14 rfl 1 rfl ?_
  refine z_ishr B dX10_has_15 ?_
  refine z_top (st1 := [.int 0]) (congrArg (fun w9 : Int32 => ([.int w9] : List Value)) (show ((0 : Int32) >>> ((5 : Int32) &&& (31 : Int32)) : Int32) = 0 by decide +kernel)) ?_
  refine z_iconst (v := 1) B dX10_has_16 rfl ?_
  refine z_iand B dX10_has_17 ?_
  refine z_top (st1 := [.int 0]) (congrArg (fun w9 : Int32 => ([.int w9] : List Value)) (show (0 &&& 1 : Int32) = 0 by decide +kernel)) ?_
  refine z_iconst (v := 1) B dX10_has_18 rfl ?_
  refine z_icmp_ne (tgt := 26) B dX10_has_19 rfl (fun c_3 => ?_) (fun h9 => absurd h9 (by decide))
  refine z_iconst (v := 0) B dX10_has_26 rfl ?_
  exact z_ret_z B dX10_has_27 (by decide) ⟨rfl, rfl, (fun b9 => rfl)⟩

set_option maxHeartbeats 4000000 in
set_option maxRecDepth 100000 in
theorem f_X10_has_3_5 (G : EnvG) (l : Launch) (Φ : Hm) (sz : Nat) (x : Nat) (hc20_ : Φ (x + 20) = some (o_ 12 [.ref (x + 21), .int 0, .int 0, .int 0])) : Ct G l yX10_has wsX10_has ({ frames := 0, cells := 0, slots := 0, locals := 0 }) 0 0 [.ref (x + 20), .int 5] Φ sz (fun v Φ1 sz1 => v = some (.int 0) ∧ sz1 = sz ∧ (∀ b9 : Nat, Φ1 b9 = Φ b9)) := by
  refine Ct.of (cc := cX10_has) (maxL := 2) (ret := (some .boolean)) (by decide) rfl (Nat.le_of_ble_eq_true rfl) ?_
  intro p9 e9 s9 m9 w9 t9 k9 B
  show Z p9 l e9 _ s9 m9 _ w9 t9 k9 _ G 2 0 [(0, .ref (x + 20)), (1, .int 5)] [] Φ sz 0 0
  refine z_iload_n B dX10_has_0 rfl 1 rfl ?_
  refine z_if_lt (tgt := 26) B dX10_has_1 rfl (fun h9 => absurd h9 (by decide)) (fun c_1 => ?_)
  refine z_iload_n B dX10_has_4 rfl 1 rfl ?_
  refine z_bipush (v := 9) B dX10_has_5 rfl ?_
  refine z_icmp_ge (tgt := 26) B dX10_has_7 rfl (fun h9 => absurd h9 (by decide)) (fun c_2 => ?_)
  refine z_aload_n B dX10_has_10 rfl 0 rfl ?_
  refine z_get (ref := "FlowExporter$Template") (C := RX10) (T := TX10) (N := 4) (ci := 12) (v := .int 0) B (by decide +kernel) rfl 2 (by decide) (by decide +kernel) rfl hc20_ rfl dX10_has_11 ?_
  refine z_iload_n B dX10_has_14 rfl 1 rfl ?_
  refine z_ishr B dX10_has_15 ?_
  refine z_top (st1 := [.int 0]) (congrArg (fun w9 : Int32 => ([.int w9] : List Value)) (show ((0 : Int32) >>> ((5 : Int32) &&& (31 : Int32)) : Int32) = 0 by decide +kernel)) ?_
  refine z_iconst (v := 1) B dX10_has_16 rfl ?_
  refine z_iand B dX10_has_17 ?_
  refine z_top (st1 := [.int 0]) (congrArg (fun w9 : Int32 => ([.int w9] : List Value)) (show (0 &&& 1 : Int32) = 0 by decide +kernel)) ?_
  refine z_iconst (v := 1) B dX10_has_18 rfl ?_
  refine z_icmp_ne (tgt := 26) B dX10_has_19 rfl (fun c_3 => ?_) (fun h9 => absurd h9 (by decide))
  refine z_iconst (v := 0) B dX10_has_26 rfl ?_
  exact z_ret_z B dX10_has_27 (by decide) ⟨rfl, rfl, (fun b9 => rfl)⟩

set_option maxHeartbeats 4000000 in
set_option maxRecDepth 100000 in
theorem f_X8_forget_5 (G : EnvG) (l : Launch) (Φ : Hm) (sz : Nat) (x : Nat) (u : Int32) (hc3_ : Φ (x + 3) = some (o_ 3 [.ref (x + 4), .ref (x + 5), .ref (x + 6), .ref (x + 7), .int 1, .int u])) (hc6_ : Φ (x + 6) = some (aq_ G 4 4 (va_up (va_up (va_up (va_up (fun _ => none) (0 : Int32).toNatClampNeg (some (x + 8))) (1 : Int32).toNatClampNeg (some (x + 12))) (2 : Int32).toNatClampNeg (some (x + 16))) (3 : Int32).toNatClampNeg (some (x + 20))))) (hc8_ : Φ (x + 8) = some (o_ 12 [.ref (x + 9), .int 9, .int 511, .int 29])) (hc12_ : Φ (x + 12) = some (o_ 12 [.ref (x + 13), .int 0, .int 0, .int 0])) (hc16_ : Φ (x + 16) = some (o_ 12 [.ref (x + 17), .int 0, .int 0, .int 0])) (hc20_ : Φ (x + 20) = some (o_ 12 [.ref (x + 21), .int 0, .int 0, .int 0])) (hc74_ : Φ (x + 74) = some (o_ 10 [.ref (x + 3), .ref (x + 46), .ref (x + 75), .ref (x + 77), .int 0, .ref (x + 78), .ref (x + 79), .int 0, .long 0, .int 0])) (hc78_ : Φ (x + 78) = some (ai_ G 4 (fun _ => 0))) (hna : G.2.2.2 ≤ x) : Ct G l yX8_forgetTemplatesWith wsX8_forgetTemplatesWith ({ frames := 1, cells := 0, slots := 0, locals := 21 }) 0 0 [.ref (x + 74), .int 5] Φ sz (fun v Φ1 sz1 => v = none ∧ sz1 = sz ∧ (∀ b9 : Nat, b9 ≠ x + 78 → Φ1 b9 = Φ b9) ∧ Φ1 (x + 78) = some (ai_ G 4 (upd (fun _ => 0) (0 : Int32).toNatClampNeg 0))) := by
  refine Ct.of (cc := cX8_forgetTemplatesWith) (maxL := 3) (ret := none) (by decide) rfl (Nat.le_of_ble_eq_true rfl) ?_
  intro p9 e9 s9 m9 w9 t9 k9 B
  show Z p9 l e9 _ s9 m9 _ w9 t9 k9 _ G 3 0 [(0, .ref (x + 74)), (1, .int 5)] [] Φ sz 0 0
  refine z_iconst (v := 0) B dX8_forgetTemplatesWith_0 rfl ?_
  refine z_istore_n (lv' := [(2, .int 0), (0, .ref (x + 74)), (1, .int 5)]) B dX8_forgetTemplatesWith_1 rfl (Nat.le_of_ble_eq_true rfl) rfl ?_
  refine z_iload_n B dX8_forgetTemplatesWith_2 rfl 0 rfl ?_
  refine z_iconst (v := 4) B dX8_forgetTemplatesWith_3 rfl ?_
  refine z_icmp_ge (tgt := 35) B dX8_forgetTemplatesWith_4 rfl (fun h9 => absurd h9 (by decide)) (fun c_1 => ?_)
  refine z_aload_n B dX8_forgetTemplatesWith_7 rfl 1 rfl ?_
  refine z_get (ref := "FlowExporter$Sender") (C := RX8) (T := TX8) (N := 10) (ci := 10) (v := .ref (x + 3)) B (by decide +kernel) rfl 0 (by decide) (by decide +kernel) rfl hc74_ rfl dX8_forgetTemplatesWith_8 ?_
  refine z_iload_n B dX8_forgetTemplatesWith_11 rfl 0 rfl ?_
  refine z_callV (As := [.int 0]) (rest := []) B (f_X1_template_u0 G l Φ sz x u hc3_ hc6_) (cwV 1 B.1.2.2.2.2 gX8_forgetTemplatesWith_X1_template rfl rfl rfl (by decide +kernel) ⟨Nat.le_of_ble_eq_true rfl, Nat.le_of_ble_eq_true rfl⟩) hc3_ rfl rfl rfl rfl (Nat.le_of_ble_eq_true rfl) dX8_forgetTemplatesWith_12 ⟨Nat.le_of_ble_eq_true rfl, Nat.le_of_ble_eq_true rfl⟩ (fun v1 Φ1 sz1 st1 hp1 hs1 => ?_)
  obtain ⟨rfl, hq1, fr1⟩ := hp1
  replace hq1 : sz1 = sz := hq1
  subst sz1
  replace hs1 : st1 = [.ref (x + 8)] := hs1
  subst st1
  refine z_iload_n B dX8_forgetTemplatesWith_15 rfl 2 rfl ?_
  have h_1 : Φ1 (x + 8) = some (o_ 12 [.ref (x + 9), .int 9, .int 511, .int 29]) := ((fr1 (x + 8)).trans hc8_)
  refine z_callV (As := [.int 5]) (rest := []) B (f_X10_has_0_5 G l Φ1 sz x h_1) (cwV 1 B.1.2.2.2.2 gX8_forgetTemplatesWith_X10_has rfl rfl rfl (by decide +kernel) ⟨Nat.le_of_ble_eq_true rfl, Nat.le_of_ble_eq_true rfl⟩) h_1 rfl rfl rfl rfl (Nat.le_of_ble_eq_true rfl) dX8_forgetTemplatesWith_16 ⟨Nat.le_of_ble_eq_true rfl, Nat.le_of_ble_eq_true rfl⟩ (fun v2 Φ2 sz2 st2 hp2 hs2 => ?_)
  obtain ⟨rfl, hq2, fr2⟩ := hp2
  replace hq2 : sz2 = sz := hq2
  subst sz2
  replace hs2 : st2 = [.int 1] := hs2
  subst st2
  refine z_if_eq (tgt := 29) B dX8_forgetTemplatesWith_19 rfl (fun h9 => absurd h9 (by decide)) (fun c_2 => ?_)
  refine z_aload_n B dX8_forgetTemplatesWith_22 rfl 1 rfl ?_
  have h_2 : Φ2 (x + 74) = some (o_ 10 [.ref (x + 3), .ref (x + 46), .ref (x + 75), .ref (x + 77), .int 0, .ref (x + 78), .ref (x + 79), .int 0, .long 0, .int 0]) := ((fr2 (x + 74)).trans ((fr1 (x + 74)).trans hc74_))
  refine z_get (ref := "FlowExporter$Sender") (C := RX8) (T := TX8) (N := 10) (ci := 10) (v := .ref (x + 78)) B (by decide +kernel) rfl 5 (by decide) (by decide +kernel) rfl h_2 rfl dX8_forgetTemplatesWith_23 ?_
  refine z_iload_n B dX8_forgetTemplatesWith_26 rfl 0 rfl ?_
  refine z_iconst (v := 0) B dX8_forgetTemplatesWith_27 rfl ?_
  have h_3 : Φ2 (x + 78) = some (ai_ G 4 (fun _ => 0)) := ((fr2 (x + 78)).trans ((fr1 (x + 78)).trans hc78_))
  refine z_iast B h_3 (Nat.le_trans hna (Nat.le_add_right x 78)) (vin rfl) dX8_forgetTemplatesWith_28 (fun Φ3 hΦ1 => ?_)
  have h_4 : Φ3 (x + 78) = some (ai_ G 4 (upd (fun _ => 0) (0 : Int32).toNatClampNeg 0)) := fset_at hΦ1
  refine z_iinc (k := 0) (v := 1) (lv' := [(2, .int 1), (0, .ref (x + 74)), (1, .int 5)]) B dX8_forgetTemplatesWith_29 rfl rfl (Nat.le_of_ble_eq_true rfl) rfl ?_
  refine z_goto (tgt := 2) B dX8_forgetTemplatesWith_32 rfl ?_
  refine z_iload_n B dX8_forgetTemplatesWith_2 rfl 0 rfl ?_
  refine z_iconst (v := 4) B dX8_forgetTemplatesWith_3 rfl ?_
  refine z_icmp_ge (tgt := 35) B dX8_forgetTemplatesWith_4 rfl (fun h9 => absurd h9 (by decide)) (fun c_3 => ?_)
  refine z_aload_n B dX8_forgetTemplatesWith_7 rfl 1 rfl ?_
  have h_5 : Φ3 (x + 74) = some (o_ 10 [.ref (x + 3), .ref (x + 46), .ref (x + 75), .ref (x + 77), .int 0, .ref (x + 78), .ref (x + 79), .int 0, .long 0, .int 0]) := ((fset_fr hΦ1 (ne_off (x := x) (i := 74) (j := 78) rfl)).trans h_2)
  refine z_get (ref := "FlowExporter$Sender") (C := RX8) (T := TX8) (N := 10) (ci := 10) (v := .ref (x + 3)) B (by decide +kernel) rfl 0 (by decide) (by decide +kernel) rfl h_5 rfl dX8_forgetTemplatesWith_8 ?_
  refine z_iload_n B dX8_forgetTemplatesWith_11 rfl 0 rfl ?_
  have h_6 : Φ3 (x + 3) = some (o_ 3 [.ref (x + 4), .ref (x + 5), .ref (x + 6), .ref (x + 7), .int 1, .int u]) := ((fset_fr hΦ1 (ne_off (x := x) (i := 3) (j := 78) rfl)).trans ((fr2 (x + 3)).trans ((fr1 (x + 3)).trans hc3_)))
  have h_7 : Φ3 (x + 6) = some (aq_ G 4 4 (va_up (va_up (va_up (va_up (fun _ => none) (0 : Int32).toNatClampNeg (some (x + 8))) (1 : Int32).toNatClampNeg (some (x + 12))) (2 : Int32).toNatClampNeg (some (x + 16))) (3 : Int32).toNatClampNeg (some (x + 20)))) := ((fset_fr hΦ1 (ne_off (x := x) (i := 6) (j := 78) rfl)).trans ((fr2 (x + 6)).trans ((fr1 (x + 6)).trans hc6_)))
  refine z_callV (As := [.int 1]) (rest := []) B (f_X1_template_u1 G l Φ3 sz x u h_6 h_7) (cwV 1 B.1.2.2.2.2 gX8_forgetTemplatesWith_X1_template rfl rfl rfl (by decide +kernel) ⟨Nat.le_of_ble_eq_true rfl, Nat.le_of_ble_eq_true rfl⟩) h_6 rfl rfl rfl rfl (Nat.le_of_ble_eq_true rfl) dX8_forgetTemplatesWith_12 ⟨Nat.le_of_ble_eq_true rfl, Nat.le_of_ble_eq_true rfl⟩ (fun v3 Φ4 sz3 st3 hp3 hs3 => ?_)
  obtain ⟨rfl, hq3, fr3⟩ := hp3
  replace hq3 : sz3 = sz := hq3
  subst sz3
  replace hs3 : st3 = [.ref (x + 12)] := hs3
  subst st3
  refine z_iload_n B dX8_forgetTemplatesWith_15 rfl 2 rfl ?_
  have h_8 : Φ4 (x + 12) = some (o_ 12 [.ref (x + 13), .int 0, .int 0, .int 0]) := ((fr3 (x + 12)).trans ((fset_fr hΦ1 (ne_off (x := x) (i := 12) (j := 78) rfl)).trans ((fr2 (x + 12)).trans ((fr1 (x + 12)).trans hc12_))))
  refine z_callV (As := [.int 5]) (rest := []) B (f_X10_has_1_5 G l Φ4 sz x h_8) (cwV 1 B.1.2.2.2.2 gX8_forgetTemplatesWith_X10_has rfl rfl rfl (by decide +kernel) ⟨Nat.le_of_ble_eq_true rfl, Nat.le_of_ble_eq_true rfl⟩) h_8 rfl rfl rfl rfl (Nat.le_of_ble_eq_true rfl) dX8_forgetTemplatesWith_16 ⟨Nat.le_of_ble_eq_true rfl, Nat.le_of_ble_eq_true rfl⟩ (fun v4 Φ5 sz4 st4 hp4 hs4 => ?_)
  obtain ⟨rfl, hq4, fr4⟩ := hp4
  replace hq4 : sz4 = sz := hq4
  subst sz4
  replace hs4 : st4 = [.int 0] := hs4
  subst st4
  refine z_if_eq (tgt := 29) B dX8_forgetTemplatesWith_19 rfl (fun c_4 => ?_) (fun h9 => absurd (by decide) h9)
  refine z_iinc (k := 0) (v := 2) (lv' := [(2, .int 2), (0, .ref (x + 74)), (1, .int 5)]) B dX8_forgetTemplatesWith_29 rfl rfl (Nat.le_of_ble_eq_true rfl) rfl ?_
  refine z_goto (tgt := 2) B dX8_forgetTemplatesWith_32 rfl ?_
  refine z_iload_n B dX8_forgetTemplatesWith_2 rfl 0 rfl ?_
  refine z_iconst (v := 4) B dX8_forgetTemplatesWith_3 rfl ?_
  refine z_icmp_ge (tgt := 35) B dX8_forgetTemplatesWith_4 rfl (fun h9 => absurd h9 (by decide)) (fun c_5 => ?_)
  refine z_aload_n B dX8_forgetTemplatesWith_7 rfl 1 rfl ?_
  have h_9 : Φ5 (x + 74) = some (o_ 10 [.ref (x + 3), .ref (x + 46), .ref (x + 75), .ref (x + 77), .int 0, .ref (x + 78), .ref (x + 79), .int 0, .long 0, .int 0]) := ((fr4 (x + 74)).trans ((fr3 (x + 74)).trans h_5))
  refine z_get (ref := "FlowExporter$Sender") (C := RX8) (T := TX8) (N := 10) (ci := 10) (v := .ref (x + 3)) B (by decide +kernel) rfl 0 (by decide) (by decide +kernel) rfl h_9 rfl dX8_forgetTemplatesWith_8 ?_
  refine z_iload_n B dX8_forgetTemplatesWith_11 rfl 0 rfl ?_
  have h_10 : Φ5 (x + 3) = some (o_ 3 [.ref (x + 4), .ref (x + 5), .ref (x + 6), .ref (x + 7), .int 1, .int u]) := ((fr4 (x + 3)).trans ((fr3 (x + 3)).trans h_6))
  have h_11 : Φ5 (x + 6) = some (aq_ G 4 4 (va_up (va_up (va_up (va_up (fun _ => none) (0 : Int32).toNatClampNeg (some (x + 8))) (1 : Int32).toNatClampNeg (some (x + 12))) (2 : Int32).toNatClampNeg (some (x + 16))) (3 : Int32).toNatClampNeg (some (x + 20)))) := ((fr4 (x + 6)).trans ((fr3 (x + 6)).trans h_7))
  refine z_callV (As := [.int 2]) (rest := []) B (f_X1_template_u2 G l Φ5 sz x u h_10 h_11) (cwV 1 B.1.2.2.2.2 gX8_forgetTemplatesWith_X1_template rfl rfl rfl (by decide +kernel) ⟨Nat.le_of_ble_eq_true rfl, Nat.le_of_ble_eq_true rfl⟩) h_10 rfl rfl rfl rfl (Nat.le_of_ble_eq_true rfl) dX8_forgetTemplatesWith_12 ⟨Nat.le_of_ble_eq_true rfl, Nat.le_of_ble_eq_true rfl⟩ (fun v5 Φ6 sz5 st5 hp5 hs5 => ?_)
  obtain ⟨rfl, hq5, fr5⟩ := hp5
  replace hq5 : sz5 = sz := hq5
  subst sz5
  replace hs5 : st5 = [.ref (x + 16)] := hs5
  subst st5
  refine z_iload_n B dX8_forgetTemplatesWith_15 rfl 2 rfl ?_
  have h_12 : Φ6 (x + 16) = some (o_ 12 [.ref (x + 17), .int 0, .int 0, .int 0]) := ((fr5 (x + 16)).trans ((fr4 (x + 16)).trans ((fr3 (x + 16)).trans ((fset_fr hΦ1 (ne_off (x := x) (i := 16) (j := 78) rfl)).trans ((fr2 (x + 16)).trans ((fr1 (x + 16)).trans hc16_))))))
  refine z_callV (As := [.int 5]) (rest := []) B (f_X10_has_2_5 G l Φ6 sz x h_12) (cwV 1 B.1.2.2.2.2 gX8_forgetTemplatesWith_X10_has rfl rfl rfl (by decide +kernel) ⟨Nat.le_of_ble_eq_true rfl, Nat.le_of_ble_eq_true rfl⟩) h_12 rfl rfl rfl rfl (Nat.le_of_ble_eq_true rfl) dX8_forgetTemplatesWith_16 ⟨Nat.le_of_ble_eq_true rfl, Nat.le_of_ble_eq_true rfl⟩ (fun v6 Φ7 sz6 st6 hp6 hs6 => ?_)
  obtain ⟨rfl, hq6, fr6⟩ := hp6
  replace hq6 : sz6 = sz := hq6
  subst sz6
  replace hs6 : st6 = [.int 0] := hs6
  subst st6
  refine z_if_eq (tgt := 29) B dX8_forgetTemplatesWith_19 rfl (fun c_6 => ?_) (fun h9 => absurd (by decide) h9)
  refine z_iinc (k := 0) (v := 3) (lv' := [(2, .int 3), (0, .ref (x + 74)), (1, .int 5)]) B dX8_forgetTemplatesWith_29 rfl rfl (Nat.le_of_ble_eq_true rfl) rfl ?_
  refine z_goto (tgt := 2) B dX8_forgetTemplatesWith_32 rfl ?_
  refine z_iload_n B dX8_forgetTemplatesWith_2 rfl 0 rfl ?_
  refine z_iconst (v := 4) B dX8_forgetTemplatesWith_3 rfl ?_
  refine z_icmp_ge (tgt := 35) B dX8_forgetTemplatesWith_4 rfl (fun h9 => absurd h9 (by decide)) (fun c_7 => ?_)
  refine z_aload_n B dX8_forgetTemplatesWith_7 rfl 1 rfl ?_
  have h_13 : Φ7 (x + 74) = some (o_ 10 [.ref (x + 3), .ref (x + 46), .ref (x + 75), .ref (x + 77), .int 0, .ref (x + 78), .ref (x + 79), .int 0, .long 0, .int 0]) := ((fr6 (x + 74)).trans ((fr5 (x + 74)).trans h_9))
  refine z_get (ref := "FlowExporter$Sender") (C := RX8) (T := TX8) (N := 10) (ci := 10) (v := .ref (x + 3)) B (by decide +kernel) rfl 0 (by decide) (by decide +kernel) rfl h_13 rfl dX8_forgetTemplatesWith_8 ?_
  refine z_iload_n B dX8_forgetTemplatesWith_11 rfl 0 rfl ?_
  have h_14 : Φ7 (x + 3) = some (o_ 3 [.ref (x + 4), .ref (x + 5), .ref (x + 6), .ref (x + 7), .int 1, .int u]) := ((fr6 (x + 3)).trans ((fr5 (x + 3)).trans h_10))
  have h_15 : Φ7 (x + 6) = some (aq_ G 4 4 (va_up (va_up (va_up (va_up (fun _ => none) (0 : Int32).toNatClampNeg (some (x + 8))) (1 : Int32).toNatClampNeg (some (x + 12))) (2 : Int32).toNatClampNeg (some (x + 16))) (3 : Int32).toNatClampNeg (some (x + 20)))) := ((fr6 (x + 6)).trans ((fr5 (x + 6)).trans h_11))
  refine z_callV (As := [.int 3]) (rest := []) B (f_X1_template_u3 G l Φ7 sz x u h_14 h_15) (cwV 1 B.1.2.2.2.2 gX8_forgetTemplatesWith_X1_template rfl rfl rfl (by decide +kernel) ⟨Nat.le_of_ble_eq_true rfl, Nat.le_of_ble_eq_true rfl⟩) h_14 rfl rfl rfl rfl (Nat.le_of_ble_eq_true rfl) dX8_forgetTemplatesWith_12 ⟨Nat.le_of_ble_eq_true rfl, Nat.le_of_ble_eq_true rfl⟩ (fun v7 Φ8 sz7 st7 hp7 hs7 => ?_)
  obtain ⟨rfl, hq7, fr7⟩ := hp7
  replace hq7 : sz7 = sz := hq7
  subst sz7
  replace hs7 : st7 = [.ref (x + 20)] := hs7
  subst st7
  refine z_iload_n B dX8_forgetTemplatesWith_15 rfl 2 rfl ?_
  have h_16 : Φ8 (x + 20) = some (o_ 12 [.ref (x + 21), .int 0, .int 0, .int 0]) := ((fr7 (x + 20)).trans ((fr6 (x + 20)).trans ((fr5 (x + 20)).trans ((fr4 (x + 20)).trans ((fr3 (x + 20)).trans ((fset_fr hΦ1 (ne_off (x := x) (i := 20) (j := 78) rfl)).trans ((fr2 (x + 20)).trans ((fr1 (x + 20)).trans hc20_))))))))
  refine z_callV (As := [.int 5]) (rest := []) B (f_X10_has_3_5 G l Φ8 sz x h_16) (cwV 1 B.1.2.2.2.2 gX8_forgetTemplatesWith_X10_has rfl rfl rfl (by decide +kernel) ⟨Nat.le_of_ble_eq_true rfl, Nat.le_of_ble_eq_true rfl⟩) h_16 rfl rfl rfl rfl (Nat.le_of_ble_eq_true rfl) dX8_forgetTemplatesWith_16 ⟨Nat.le_of_ble_eq_true rfl, Nat.le_of_ble_eq_true rfl⟩ (fun v8 Φ9 sz8 st8 hp8 hs8 => ?_)
  obtain ⟨rfl, hq8, fr8⟩ := hp8
  replace hq8 : sz8 = sz := hq8
  subst sz8
  replace hs8 : st8 = [.int 0] := hs8
  subst st8
  refine z_if_eq (tgt := 29) B dX8_forgetTemplatesWith_19 rfl (fun c_8 => ?_) (fun h9 => absurd (by decide) h9)
  refine z_iinc (k := 0) (v := 4) (lv' := [(2, .int 4), (0, .ref (x + 74)), (1, .int 5)]) B dX8_forgetTemplatesWith_29 rfl rfl (Nat.le_of_ble_eq_true rfl) rfl ?_
  refine z_goto (tgt := 2) B dX8_forgetTemplatesWith_32 rfl ?_
  refine z_iload_n B dX8_forgetTemplatesWith_2 rfl 0 rfl ?_
  refine z_iconst (v := 4) B dX8_forgetTemplatesWith_3 rfl ?_
  refine z_icmp_ge (tgt := 35) B dX8_forgetTemplatesWith_4 rfl (fun c_9 => ?_) (fun h9 => absurd (by decide) h9)
  have h_17 : Φ9 (x + 78) = some (ai_ G 4 (upd (fun _ => 0) (0 : Int32).toNatClampNeg 0)) := ((fr8 (x + 78)).trans ((fr7 (x + 78)).trans ((fr6 (x + 78)).trans ((fr5 (x + 78)).trans ((fr4 (x + 78)).trans ((fr3 (x + 78)).trans h_4))))))
  exact z_ret_v B dX8_forgetTemplatesWith_35 ⟨rfl, rfl, (fun b9 h9a => ((fr8 b9).trans ((fr7 b9).trans ((fr6 b9).trans ((fr5 b9).trans ((fr4 b9).trans ((fr3 b9).trans ((fset_fr hΦ1 h9a).trans ((fr2 b9).trans ((fr1 b9).trans rfl)))))))))), h_17⟩

set_option maxHeartbeats 4000000 in
set_option maxRecDepth 100000 in
theorem f_X11_setSupport_5_0 (G : EnvG) (l : Launch) (Φ : Hm) (sz : Nat) (x : Nat) (hc0_ : Φ x = some (o_ 13 [.ref (x + 1), .ref (x + 3), .ref (x + 24), .ref (x + 46), .ref (x + 74), .ref (x + 80), .ref (x + 132), .ref (x + 121)])) (hc3_ : Φ (x + 3) = some (o_ 3 [.ref (x + 4), .ref (x + 5), .ref (x + 6), .ref (x + 7), .int 1, .int 511])) (hc6_ : Φ (x + 6) = some (aq_ G 4 4 (va_up (va_up (va_up (va_up (fun _ => none) (0 : Int32).toNatClampNeg (some (x + 8))) (1 : Int32).toNatClampNeg (some (x + 12))) (2 : Int32).toNatClampNeg (some (x + 16))) (3 : Int32).toNatClampNeg (some (x + 20))))) (hc7_ : Φ (x + 7) = some (aq_ G 4 4 (va_up (va_up (va_up (va_up (fun _ => none) (0 : Int32).toNatClampNeg (some (x + 10))) (1 : Int32).toNatClampNeg (some (x + 14))) (2 : Int32).toNatClampNeg (some (x + 18))) (3 : Int32).toNatClampNeg (some (x + 22))))) (hc8_ : Φ (x + 8) = some (o_ 12 [.ref (x + 9), .int 9, .int 511, .int 29])) (hc9_ : Φ (x + 9) = some (ai_ G 9 (upd (upd (upd (upd (upd (upd (upd (upd (upd (fun _ => 0) (0 : Int32).toNatClampNeg 0) (1 : Int32).toNatClampNeg 1) (2 : Int32).toNatClampNeg 2) (3 : Int32).toNatClampNeg 3) (4 : Int32).toNatClampNeg 4) (5 : Int32).toNatClampNeg 5) (6 : Int32).toNatClampNeg 6) (7 : Int32).toNatClampNeg 7) (8 : Int32).toNatClampNeg 8))) (hc10_ : Φ (x + 10) = some (o_ 12 [.ref (x + 11), .int 9, .int 511, .int 29])) (hc11_ : Φ (x + 11) = some (ai_ G 9 (upd (upd (upd (upd (upd (upd (upd (upd (upd (fun _ => 0) (0 : Int32).toNatClampNeg 0) (1 : Int32).toNatClampNeg 1) (2 : Int32).toNatClampNeg 2) (3 : Int32).toNatClampNeg 3) (4 : Int32).toNatClampNeg 4) (5 : Int32).toNatClampNeg 5) (6 : Int32).toNatClampNeg 6) (7 : Int32).toNatClampNeg 7) (8 : Int32).toNatClampNeg 8))) (hc12_ : Φ (x + 12) = some (o_ 12 [.ref (x + 13), .int 0, .int 0, .int 0])) (hc14_ : Φ (x + 14) = some (o_ 12 [.ref (x + 15), .int 0, .int 0, .int 0])) (hc16_ : Φ (x + 16) = some (o_ 12 [.ref (x + 17), .int 0, .int 0, .int 0])) (hc18_ : Φ (x + 18) = some (o_ 12 [.ref (x + 19), .int 0, .int 0, .int 0])) (hc20_ : Φ (x + 20) = some (o_ 12 [.ref (x + 21), .int 0, .int 0, .int 0])) (hc22_ : Φ (x + 22) = some (o_ 12 [.ref (x + 23), .int 0, .int 0, .int 0])) (hc74_ : Φ (x + 74) = some (o_ 10 [.ref (x + 3), .ref (x + 46), .ref (x + 75), .ref (x + 77), .int 0, .ref (x + 78), .ref (x + 79), .int 0, .long 0, .int 0])) (hc78_ : Φ (x + 78) = some (ai_ G 4 (fun _ => 0))) (hna : G.2.2.2 ≤ x) : Ct G l yX11_setSupport wsX11_setSupport ({ frames := 3, cells := 0, slots := 0, locals := 67 }) 0 0 [.ref x, .int 5, .int 0] Φ sz (fun v Φ1 sz1 => v = some (.int 1) ∧ ∀ b9 : Nat, x + 149 ≤ b9 → Φ1 b9 = Φ b9) := by
  refine Ct.of (cc := cX11_setSupport) (maxL := 4) (ret := (some .boolean)) (by decide) rfl (Nat.le_of_ble_eq_true rfl) ?_
  intro p9 e9 s9 m9 w9 t9 k9 B
  show Z p9 l e9 _ s9 m9 _ w9 t9 k9 _ G 4 0 [(0, .ref x), (1, .int 5), (2, .int 0)] [] Φ sz 0 0
  refine z_iload_n B dX11_setSupport_0 rfl 1 rfl ?_
  refine z_if_lt (tgt := 10) B dX11_setSupport_1 rfl (fun h9 => absurd h9 (by decide)) (fun c_1 => ?_)
  refine z_iload_n B dX11_setSupport_4 rfl 1 rfl ?_
  refine z_bipush (v := 9) B dX11_setSupport_5 rfl ?_
  refine z_icmp_lt (tgt := 18) B dX11_setSupport_7 rfl (fun c_2 => ?_) (fun h9 => absurd (by decide) h9)
  refine z_aload_n B dX11_setSupport_18 rfl 0 rfl ?_
  refine z_get (ref := "FlowExporter") (C := RX11) (T := TX11) (N := 8) (ci := 13) (v := .ref (x + 3)) B (by decide +kernel) rfl 1 (by decide) (by decide +kernel) rfl hc0_ rfl dX11_setSupport_19 ?_
  refine z_get (ref := "FlowExporter$Config") (C := RX1) (T := TX1) (N := 6) (ci := 3) (v := .int 511) B (by decide +kernel) rfl 5 (by decide) (by decide +kernel) rfl hc3_ rfl dX11_setSupport_22 ?_
  refine z_iload_n B dX11_setSupport_25 rfl 1 rfl ?_
  refine z_ishr B dX11_setSupport_26 ?_
  refine z_top (st1 := [.int 15]) (congrArg (fun w9 : Int32 => ([.int w9] : List Value)) (show ((511 : Int32) >>> ((5 : Int32) &&& (31 : Int32)) : Int32) = 15 by decide +kernel)) ?_
  refine z_iconst (v := 1) B dX11_setSupport_27 rfl ?_
  refine z_iand B dX11_setSupport_28 ?_
  refine z_top (st1 := [.int 1]) (congrArg (fun w9 : Int32 => ([.int w9] : List Value)) (show (15 &&& 1 : Int32) = 1 by decide +kernel)) ?_
  refine z_iconst (v := 1) B dX11_setSupport_29 rfl ?_
  refine z_icmp_ne (tgt := 37) B dX11_setSupport_30 rfl (fun h9 => absurd (by decide) h9) (fun c_3 => ?_)
  refine z_iconst (v := 1) B dX11_setSupport_33 rfl ?_
  refine z_goto (tgt := 38) B dX11_setSupport_34 rfl ?_
  refine z_istore_n (lv' := [(3, .int 1), (0, .ref x), (1, .int 5), (2, .int 0)]) B dX11_setSupport_38 rfl (Nat.le_of_ble_eq_true rfl) rfl ?_
  refine z_iload_n B dX11_setSupport_39 rfl 0 rfl ?_
  refine z_iload_n B dX11_setSupport_40 rfl 3 rfl ?_
  refine z_icmp_eq (tgt := 70) B dX11_setSupport_41 rfl (fun h9 => absurd h9 (by decide)) (fun c_4 => ?_)
  refine z_aload_n B dX11_setSupport_44 rfl 1 rfl ?_
  refine z_get (ref := "FlowExporter") (C := RX11) (T := TX11) (N := 8) (ci := 13) (v := .ref (x + 3)) B (by decide +kernel) rfl 1 (by decide) (by decide +kernel) rfl hc0_ rfl dX11_setSupport_45 ?_
  refine z_aload_n B dX11_setSupport_48 rfl 1 rfl ?_
  refine z_get (ref := "FlowExporter") (C := RX11) (T := TX11) (N := 8) (ci := 13) (v := .ref (x + 3)) B (by decide +kernel) rfl 1 (by decide) (by decide +kernel) rfl hc0_ rfl dX11_setSupport_49 ?_
  refine z_get (ref := "FlowExporter$Config") (C := RX1) (T := TX1) (N := 6) (ci := 3) (v := .int 511) B (by decide +kernel) rfl 5 (by decide) (by decide +kernel) rfl hc3_ rfl dX11_setSupport_52 ?_
  refine z_iconst (v := 1) B dX11_setSupport_55 rfl ?_
  refine z_iload_n B dX11_setSupport_56 rfl 2 rfl ?_
  refine z_ishl B dX11_setSupport_57 ?_
  refine z_top (st1 := [.int 32, .int 511, .ref (x + 3)]) (congrArg (fun w9 : Int32 => ([.int w9, .int 511, .ref (x + 3)] : List Value)) (show ((1 : Int32) <<< ((5 : Int32) &&& (31 : Int32)) : Int32) = 32 by decide +kernel)) ?_
  refine z_ixor B dX11_setSupport_58 ?_
  refine z_top (st1 := [.int 479, .ref (x + 3)]) (congrArg (fun w9 : Int32 => ([.int w9, .ref (x + 3)] : List Value)) (show (511 ^^^ 32 : Int32) = 479 by decide +kernel)) ?_
  refine z_callV (As := [.int 479]) (rest := []) B (f_X1_support_s5 G l Φ sz x hc3_ hc6_ hc7_ hc8_ hc9_ hc10_ hc11_ hc12_ hc14_ hc16_ hc18_ hc20_ hc22_ hna) (cwV 1 B.1.2.2.2.2 gX11_setSupport_X1_support rfl rfl rfl (by decide +kernel) ⟨Nat.le_of_ble_eq_true rfl, Nat.le_of_ble_eq_true rfl⟩) hc3_ rfl rfl rfl rfl (Nat.le_of_ble_eq_true rfl) dX11_setSupport_59 ⟨Nat.le_of_ble_eq_true rfl, Nat.le_of_ble_eq_true rfl⟩ (fun v1 Φ1 sz1 st1 hp1 hs1 => ?_)
  obtain ⟨rfl, hq1, fr1, h_1, h_2, h_3, h_4, h_5, h_6⟩ := hp1
  replace hq1 : sz1 = sz := hq1
  subst sz1
  replace hs1 : st1 = [] := hs1
  subst st1
  have h_7 : Φ1 (x + 10) = some (o_ 12 [.ref (x + 11), .int 8, .int 479, .int 21]) := h_1
  have h_8 : Φ1 (x + 11) = some (ai_ G 9 (upd (upd (upd (upd (upd (upd (upd (upd (upd (upd (upd (upd (upd (upd (upd (upd (upd (fun _ => 0) (0 : Int32).toNatClampNeg 0) (1 : Int32).toNatClampNeg 1) (2 : Int32).toNatClampNeg 2) (3 : Int32).toNatClampNeg 3) (4 : Int32).toNatClampNeg 4) (5 : Int32).toNatClampNeg 5) (6 : Int32).toNatClampNeg 6) (7 : Int32).toNatClampNeg 7) (8 : Int32).toNatClampNeg 8) (0 : Int32).toNatClampNeg 0) (1 : Int32).toNatClampNeg 1) (2 : Int32).toNatClampNeg 2) (3 : Int32).toNatClampNeg 3) (4 : Int32).toNatClampNeg 4) (5 : Int32).toNatClampNeg 6) (6 : Int32).toNatClampNeg 7) (7 : Int32).toNatClampNeg 8)) := h_2
  have h_9 : Φ1 (x + 14) = some (o_ 12 [.ref (x + 15), .int 0, .int 0, .int 0]) := h_3
  have h_10 : Φ1 (x + 18) = some (o_ 12 [.ref (x + 19), .int 0, .int 0, .int 0]) := h_4
  have h_11 : Φ1 (x + 22) = some (o_ 12 [.ref (x + 23), .int 0, .int 0, .int 0]) := h_5
  have h_12 : Φ1 (x + 3) = some (o_ 3 [.ref (x + 4), .ref (x + 5), .ref (x + 6), .ref (x + 7), .int 1, .int 479]) := h_6
  refine z_aload_n B dX11_setSupport_62 rfl 1 rfl ?_
  have h_13 : Φ1 x = some (o_ 13 [.ref (x + 1), .ref (x + 3), .ref (x + 24), .ref (x + 46), .ref (x + 74), .ref (x + 80), .ref (x + 132), .ref (x + 121)]) := ((fr1 x (ne_off (x := x) (i := 0) (j := 10) rfl) (ne_off (x := x) (i := 0) (j := 11) rfl) (ne_off (x := x) (i := 0) (j := 14) rfl) (ne_off (x := x) (i := 0) (j := 18) rfl) (ne_off (x := x) (i := 0) (j := 22) rfl) (ne_off (x := x) (i := 0) (j := 3) rfl)).trans hc0_)
  refine z_get (ref := "FlowExporter") (C := RX11) (T := TX11) (N := 8) (ci := 13) (v := .ref (x + 74)) B (by decide +kernel) rfl 4 (by decide) (by decide +kernel) rfl h_13 rfl dX11_setSupport_63 ?_
  refine z_iload_n B dX11_setSupport_66 rfl 2 rfl ?_
  have h_14 : Φ1 (x + 6) = some (aq_ G 4 4 (va_up (va_up (va_up (va_up (fun _ => none) (0 : Int32).toNatClampNeg (some (x + 8))) (1 : Int32).toNatClampNeg (some (x + 12))) (2 : Int32).toNatClampNeg (some (x + 16))) (3 : Int32).toNatClampNeg (some (x + 20)))) := ((fr1 (x + 6) (ne_off (x := x) (i := 6) (j := 10) rfl) (ne_off (x := x) (i := 6) (j := 11) rfl) (ne_off (x := x) (i := 6) (j := 14) rfl) (ne_off (x := x) (i := 6) (j := 18) rfl) (ne_off (x := x) (i := 6) (j := 22) rfl) (ne_off (x := x) (i := 6) (j := 3) rfl)).trans hc6_)
  have h_15 : Φ1 (x + 8) = some (o_ 12 [.ref (x + 9), .int 9, .int 511, .int 29]) := ((fr1 (x + 8) (ne_off (x := x) (i := 8) (j := 10) rfl) (ne_off (x := x) (i := 8) (j := 11) rfl) (ne_off (x := x) (i := 8) (j := 14) rfl) (ne_off (x := x) (i := 8) (j := 18) rfl) (ne_off (x := x) (i := 8) (j := 22) rfl) (ne_off (x := x) (i := 8) (j := 3) rfl)).trans hc8_)
  have h_16 : Φ1 (x + 12) = some (o_ 12 [.ref (x + 13), .int 0, .int 0, .int 0]) := ((fr1 (x + 12) (ne_off (x := x) (i := 12) (j := 10) rfl) (ne_off (x := x) (i := 12) (j := 11) rfl) (ne_off (x := x) (i := 12) (j := 14) rfl) (ne_off (x := x) (i := 12) (j := 18) rfl) (ne_off (x := x) (i := 12) (j := 22) rfl) (ne_off (x := x) (i := 12) (j := 3) rfl)).trans hc12_)
  have h_17 : Φ1 (x + 16) = some (o_ 12 [.ref (x + 17), .int 0, .int 0, .int 0]) := ((fr1 (x + 16) (ne_off (x := x) (i := 16) (j := 10) rfl) (ne_off (x := x) (i := 16) (j := 11) rfl) (ne_off (x := x) (i := 16) (j := 14) rfl) (ne_off (x := x) (i := 16) (j := 18) rfl) (ne_off (x := x) (i := 16) (j := 22) rfl) (ne_off (x := x) (i := 16) (j := 3) rfl)).trans hc16_)
  have h_18 : Φ1 (x + 20) = some (o_ 12 [.ref (x + 21), .int 0, .int 0, .int 0]) := ((fr1 (x + 20) (ne_off (x := x) (i := 20) (j := 10) rfl) (ne_off (x := x) (i := 20) (j := 11) rfl) (ne_off (x := x) (i := 20) (j := 14) rfl) (ne_off (x := x) (i := 20) (j := 18) rfl) (ne_off (x := x) (i := 20) (j := 22) rfl) (ne_off (x := x) (i := 20) (j := 3) rfl)).trans hc20_)
  have h_19 : Φ1 (x + 74) = some (o_ 10 [.ref (x + 3), .ref (x + 46), .ref (x + 75), .ref (x + 77), .int 0, .ref (x + 78), .ref (x + 79), .int 0, .long 0, .int 0]) := ((fr1 (x + 74) (ne_off (x := x) (i := 74) (j := 10) rfl) (ne_off (x := x) (i := 74) (j := 11) rfl) (ne_off (x := x) (i := 74) (j := 14) rfl) (ne_off (x := x) (i := 74) (j := 18) rfl) (ne_off (x := x) (i := 74) (j := 22) rfl) (ne_off (x := x) (i := 74) (j := 3) rfl)).trans hc74_)
  have h_20 : Φ1 (x + 78) = some (ai_ G 4 (fun _ => 0)) := ((fr1 (x + 78) (ne_off (x := x) (i := 78) (j := 10) rfl) (ne_off (x := x) (i := 78) (j := 11) rfl) (ne_off (x := x) (i := 78) (j := 14) rfl) (ne_off (x := x) (i := 78) (j := 18) rfl) (ne_off (x := x) (i := 78) (j := 22) rfl) (ne_off (x := x) (i := 78) (j := 3) rfl)).trans hc78_)
  refine z_callV (As := [.int 5]) (rest := []) B (f_X8_forget_5 G l Φ1 sz x 479 h_12 h_14 h_15 h_16 h_17 h_18 h_19 h_20 hna) (cwV 1 B.1.2.2.2.2 gX11_setSupport_X8_forgetTemplatesWith rfl rfl rfl (by decide +kernel) ⟨Nat.le_of_ble_eq_true rfl, Nat.le_of_ble_eq_true rfl⟩) h_19 rfl rfl rfl rfl (Nat.le_of_ble_eq_true rfl) dX11_setSupport_67 ⟨Nat.le_of_ble_eq_true rfl, Nat.le_of_ble_eq_true rfl⟩ (fun v2 Φ2 sz2 st2 hp2 hs2 => ?_)
  obtain ⟨rfl, hq2, fr2, h_21⟩ := hp2
  replace hq2 : sz2 = sz := hq2
  subst sz2
  replace hs2 : st2 = [] := hs2
  subst st2
  have h_22 : Φ2 (x + 78) = some (ai_ G 4 (upd (fun _ => 0) (0 : Int32).toNatClampNeg 0)) := h_21
  refine z_iload_n B dX11_setSupport_70 rfl 0 rfl ?_
  exact z_ret_z B dX11_setSupport_71 (by decide) ⟨rfl, fun b9 h9 => ((fr2 b9 (Nat.ne_of_gt (Nat.lt_of_lt_of_le (lt_off (x := x) (i := 78) (j := 149) rfl) h9))).trans ((fr1 b9 (Nat.ne_of_gt (Nat.lt_of_lt_of_le (lt_off (x := x) (i := 10) (j := 149) rfl) h9)) (Nat.ne_of_gt (Nat.lt_of_lt_of_le (lt_off (x := x) (i := 11) (j := 149) rfl) h9)) (Nat.ne_of_gt (Nat.lt_of_lt_of_le (lt_off (x := x) (i := 14) (j := 149) rfl) h9)) (Nat.ne_of_gt (Nat.lt_of_lt_of_le (lt_off (x := x) (i := 18) (j := 149) rfl) h9)) (Nat.ne_of_gt (Nat.lt_of_lt_of_le (lt_off (x := x) (i := 22) (j := 149) rfl) h9)) (Nat.ne_of_gt (Nat.lt_of_lt_of_le (lt_off (x := x) (i := 3) (j := 149) rfl) h9))).trans rfl))⟩

set_option maxHeartbeats 4000000 in
set_option maxRecDepth 100000 in
theorem f_X11_setSupport_5_1 (G : EnvG) (l : Launch) (Φ : Hm) (sz : Nat) (x : Nat) (hc0_ : Φ x = some (o_ 13 [.ref (x + 1), .ref (x + 3), .ref (x + 24), .ref (x + 46), .ref (x + 74), .ref (x + 80), .ref (x + 132), .ref (x + 121)])) (hc3_ : Φ (x + 3) = some (o_ 3 [.ref (x + 4), .ref (x + 5), .ref (x + 6), .ref (x + 7), .int 1, .int 511])) : Ct G l yX11_setSupport wsX11_setSupport ({ frames := 0, cells := 0, slots := 0, locals := 0 }) 0 0 [.ref x, .int 5, .int 1] Φ sz (fun v Φ1 sz1 => v = some (.int 1) ∧ ∀ b9 : Nat, x + 149 ≤ b9 → Φ1 b9 = Φ b9) := by
  refine Ct.of (cc := cX11_setSupport) (maxL := 4) (ret := (some .boolean)) (by decide) rfl (Nat.le_of_ble_eq_true rfl) ?_
  intro p9 e9 s9 m9 w9 t9 k9 B
  show Z p9 l e9 _ s9 m9 _ w9 t9 k9 _ G 4 0 [(0, .ref x), (1, .int 5), (2, .int 1)] [] Φ sz 0 0
  refine z_iload_n B dX11_setSupport_0 rfl 1 rfl ?_
  refine z_if_lt (tgt := 10) B dX11_setSupport_1 rfl (fun h9 => absurd h9 (by decide)) (fun c_1 => ?_)
  refine z_iload_n B dX11_setSupport_4 rfl 1 rfl ?_
  refine z_bipush (v := 9) B dX11_setSupport_5 rfl ?_
  refine z_icmp_lt (tgt := 18) B dX11_setSupport_7 rfl (fun c_2 => ?_) (fun h9 => absurd (by decide) h9)
  refine z_aload_n B dX11_setSupport_18 rfl 0 rfl ?_
  refine z_get (ref := "FlowExporter") (C := RX11) (T := TX11) (N := 8) (ci := 13) (v := .ref (x + 3)) B (by decide +kernel) rfl 1 (by decide) (by decide +kernel) rfl hc0_ rfl dX11_setSupport_19 ?_
  refine z_get (ref := "FlowExporter$Config") (C := RX1) (T := TX1) (N := 6) (ci := 3) (v := .int 511) B (by decide +kernel) rfl 5 (by decide) (by decide +kernel) rfl hc3_ rfl dX11_setSupport_22 ?_
  refine z_iload_n B dX11_setSupport_25 rfl 1 rfl ?_
  refine z_ishr B dX11_setSupport_26 ?_
  refine z_top (st1 := [.int 15]) (congrArg (fun w9 : Int32 => ([.int w9] : List Value)) (show ((511 : Int32) >>> ((5 : Int32) &&& (31 : Int32)) : Int32) = 15 by decide +kernel)) ?_
  refine z_iconst (v := 1) B dX11_setSupport_27 rfl ?_
  refine z_iand B dX11_setSupport_28 ?_
  refine z_top (st1 := [.int 1]) (congrArg (fun w9 : Int32 => ([.int w9] : List Value)) (show (15 &&& 1 : Int32) = 1 by decide +kernel)) ?_
  refine z_iconst (v := 1) B dX11_setSupport_29 rfl ?_
  refine z_icmp_ne (tgt := 37) B dX11_setSupport_30 rfl (fun h9 => absurd (by decide) h9) (fun c_3 => ?_)
  refine z_iconst (v := 1) B dX11_setSupport_33 rfl ?_
  refine z_goto (tgt := 38) B dX11_setSupport_34 rfl ?_
  refine z_istore_n (lv' := [(3, .int 1), (0, .ref x), (1, .int 5), (2, .int 1)]) B dX11_setSupport_38 rfl (Nat.le_of_ble_eq_true rfl) rfl ?_
  refine z_iload_n B dX11_setSupport_39 rfl 0 rfl ?_
  refine z_iload_n B dX11_setSupport_40 rfl 3 rfl ?_
  refine z_icmp_eq (tgt := 70) B dX11_setSupport_41 rfl (fun c_4 => ?_) (fun h9 => absurd (by decide) h9)
  refine z_iload_n B dX11_setSupport_70 rfl 0 rfl ?_
  exact z_ret_z B dX11_setSupport_71 (by decide) ⟨rfl, fun b9 h9 => rfl⟩

set_option maxHeartbeats 4000000 in
set_option maxRecDepth 100000 in
theorem f_X10_has_0_6 (G : EnvG) (l : Launch) (Φ : Hm) (sz : Nat) (x : Nat) (hc8_ : Φ (x + 8) = some (o_ 12 [.ref (x + 9), .int 9, .int 511, .int 29])) : Ct G l yX10_has wsX10_has ({ frames := 0, cells := 0, slots := 0, locals := 0 }) 0 0 [.ref (x + 8), .int 6] Φ sz (fun v Φ1 sz1 => v = some (.int 1) ∧ sz1 = sz ∧ (∀ b9 : Nat, Φ1 b9 = Φ b9)) := by
  refine Ct.of (cc := cX10_has) (maxL := 2) (ret := (some .boolean)) (by decide) rfl (Nat.le_of_ble_eq_true rfl) ?_
  intro p9 e9 s9 m9 w9 t9 k9 B
  show Z p9 l e9 _ s9 m9 _ w9 t9 k9 _ G 2 0 [(0, .ref (x + 8)), (1, .int 6)] [] Φ sz 0 0
  refine z_iload_n B dX10_has_0 rfl 1 rfl ?_
  refine z_if_lt (tgt := 26) B dX10_has_1 rfl (fun h9 => absurd h9 (by decide)) (fun c_1 => ?_)
  refine z_iload_n B dX10_has_4 rfl 1 rfl ?_
  refine z_bipush (v := 9) B dX10_has_5 rfl ?_
  refine z_icmp_ge (tgt := 26) B dX10_has_7 rfl (fun h9 => absurd h9 (by decide)) (fun c_2 => ?_)
  refine z_aload_n B dX10_has_10 rfl 0 rfl ?_
  refine z_get (ref := "FlowExporter$Template") (C := RX10) (T := TX10) (N := 4) (ci := 12) (v := .int 511) B (by decide +kernel) rfl 2 (by decide) (by decide +kernel) rfl hc8_ rfl dX10_has_11 ?_
  refine z_iload_n B dX10_has_14 rfl 1 rfl ?_
  refine z_ishr B dX10_has_15 ?_
  refine z_top (st1 := [.int 7]) (congrArg (fun w9 : Int32 => ([.int w9] : List Value)) (show ((511 : Int32) >>> ((6 : Int32) &&& (31 : Int32)) : Int32) = 7 by decide +kernel)) ?_
  refine z_iconst (v := 1) B dX10_has_16 rfl ?_
  refine z_iand B dX10_has_17 ?_
  refine z_top (st1 := [.int 1]) (congrArg (fun w9 : Int32 => ([.int w9] : List Value)) (show (7 &&& 1 : Int32) = 1 by decide +kernel)) ?_
  refine z_iconst (v := 1) B dX10_has_18 rfl ?_
  refine z_icmp_ne (tgt := 26) B dX10_has_19 rfl (fun h9 => absurd (by decide) h9) (fun c_3 => ?_)
  refine z_iconst (v := 1) B dX10_has_22 rfl ?_
  refine z_goto (tgt := 27) B dX10_has_23 rfl ?_
  exact z_ret_z B dX10_has_27 (by decide) ⟨rfl, rfl, (fun b9 => rfl)⟩

set_option maxHeartbeats 4000000 in
set_option maxRecDepth 100000 in
theorem f_X10_has_1_6 (G : EnvG) (l : Launch) (Φ : Hm) (sz : Nat) (x : Nat) (hc12_ : Φ (x + 12) = some (o_ 12 [.ref (x + 13), .int 0, .int 0, .int 0])) : Ct G l yX10_has wsX10_has ({ frames := 0, cells := 0, slots := 0, locals := 0 }) 0 0 [.ref (x + 12), .int 6] Φ sz (fun v Φ1 sz1 => v = some (.int 0) ∧ sz1 = sz ∧ (∀ b9 : Nat, Φ1 b9 = Φ b9)) := by
  refine Ct.of (cc := cX10_has) (maxL := 2) (ret := (some .boolean)) (by decide) rfl (Nat.le_of_ble_eq_true rfl) ?_
  intro p9 e9 s9 m9 w9 t9 k9 B
  show Z p9 l e9 _ s9 m9 _ w9 t9 k9 _ G 2 0 [(0, .ref (x + 12)), (1, .int 6)] [] Φ sz 0 0
  refine z_iload_n B dX10_has_0 rfl 1 rfl ?_
  refine z_if_lt (tgt := 26) B dX10_has_1 rfl (fun h9 => absurd h9 (by decide)) (fun c_1 => ?_)
  refine z_iload_n B dX10_has_4 rfl 1 rfl ?_
  refine z_bipush (v := 9) B dX10_has_5 rfl ?_
  refine z_icmp_ge (tgt := 26) B dX10_has_7 rfl (fun h9 => absurd h9 (by decide)) (fun c_2 => ?_)
  refine z_aload_n B dX10_has_10 rfl 0 rfl ?_
  refine z_get (ref := "FlowExporter$Template") (C := RX10) (T := TX10) (N := 4) (ci := 12) (v := .int 0) B (by decide +kernel) rfl 2 (by decide) (by decide +kernel) rfl hc12_ rfl dX10_has_11 ?_
  refine z_iload_n B dX10_has_14 rfl 1 rfl ?_
  refine z_ishr B dX10_has_15 ?_
  refine z_top (st1 := [.int 0]) (congrArg (fun w9 : Int32 => ([.int w9] : List Value)) (show ((0 : Int32) >>> ((6 : Int32) &&& (31 : Int32)) : Int32) = 0 by decide +kernel)) ?_
  refine z_iconst (v := 1) B dX10_has_16 rfl ?_
  refine z_iand B dX10_has_17 ?_
  refine z_top (st1 := [.int 0]) (congrArg (fun w9 : Int32 => ([.int w9] : List Value)) (show (0 &&& 1 : Int32) = 0 by decide +kernel)) ?_
  refine z_iconst (v := 1) B dX10_has_18 rfl ?_
  refine z_icmp_ne (tgt := 26) B dX10_has_19 rfl (fun c_3 => ?_) (fun h9 => absurd h9 (by decide))
  refine z_iconst (v := 0) B dX10_has_26 rfl ?_
  exact z_ret_z B dX10_has_27 (by decide) ⟨rfl, rfl, (fun b9 => rfl)⟩

set_option maxHeartbeats 4000000 in
set_option maxRecDepth 100000 in
theorem f_X10_has_2_6 (G : EnvG) (l : Launch) (Φ : Hm) (sz : Nat) (x : Nat) (hc16_ : Φ (x + 16) = some (o_ 12 [.ref (x + 17), .int 0, .int 0, .int 0])) : Ct G l yX10_has wsX10_has ({ frames := 0, cells := 0, slots := 0, locals := 0 }) 0 0 [.ref (x + 16), .int 6] Φ sz (fun v Φ1 sz1 => v = some (.int 0) ∧ sz1 = sz ∧ (∀ b9 : Nat, Φ1 b9 = Φ b9)) := by
  refine Ct.of (cc := cX10_has) (maxL := 2) (ret := (some .boolean)) (by decide) rfl (Nat.le_of_ble_eq_true rfl) ?_
  intro p9 e9 s9 m9 w9 t9 k9 B
  show Z p9 l e9 _ s9 m9 _ w9 t9 k9 _ G 2 0 [(0, .ref (x + 16)), (1, .int 6)] [] Φ sz 0 0
  refine z_iload_n B dX10_has_0 rfl 1 rfl ?_
  refine z_if_lt (tgt := 26) B dX10_has_1 rfl (fun h9 => absurd h9 (by decide)) (fun c_1 => ?_)
  refine z_iload_n B dX10_has_4 rfl 1 rfl ?_
  refine z_bipush (v := 9) B dX10_has_5 rfl ?_
  refine z_icmp_ge (tgt := 26) B dX10_has_7 rfl (fun h9 => absurd h9 (by decide)) (fun c_2 => ?_)
  refine z_aload_n B dX10_has_10 rfl 0 rfl ?_
  refine z_get (ref := "FlowExporter$Template") (C := RX10) (T := TX10) (N := 4) (ci := 12) (v := .int 0) B (by decide +kernel) rfl 2 (by decide) (by decide +kernel) rfl hc16_ rfl dX10_has_11 ?_
  refine z_iload_n B dX10_has_14 rfl 1 rfl ?_
  refine z_ishr B dX10_has_15 ?_
  refine z_top (st1 := [.int 0]) (congrArg (fun w9 : Int32 => ([.int w9] : List Value)) (show ((0 : Int32) >>> ((6 : Int32) &&& (31 : Int32)) : Int32) = 0 by decide +kernel)) ?_
  refine z_iconst (v := 1) B dX10_has_16 rfl ?_
  refine z_iand B dX10_has_17 ?_
  refine z_top (st1 := [.int 0]) (congrArg (fun w9 : Int32 => ([.int w9] : List Value)) (show (0 &&& 1 : Int32) = 0 by decide +kernel)) ?_
  refine z_iconst (v := 1) B dX10_has_18 rfl ?_
  refine z_icmp_ne (tgt := 26) B dX10_has_19 rfl (fun c_3 => ?_) (fun h9 => absurd h9 (by decide))
  refine z_iconst (v := 0) B dX10_has_26 rfl ?_
  exact z_ret_z B dX10_has_27 (by decide) ⟨rfl, rfl, (fun b9 => rfl)⟩

set_option maxHeartbeats 4000000 in
set_option maxRecDepth 100000 in
theorem f_X10_has_3_6 (G : EnvG) (l : Launch) (Φ : Hm) (sz : Nat) (x : Nat) (hc20_ : Φ (x + 20) = some (o_ 12 [.ref (x + 21), .int 0, .int 0, .int 0])) : Ct G l yX10_has wsX10_has ({ frames := 0, cells := 0, slots := 0, locals := 0 }) 0 0 [.ref (x + 20), .int 6] Φ sz (fun v Φ1 sz1 => v = some (.int 0) ∧ sz1 = sz ∧ (∀ b9 : Nat, Φ1 b9 = Φ b9)) := by
  refine Ct.of (cc := cX10_has) (maxL := 2) (ret := (some .boolean)) (by decide) rfl (Nat.le_of_ble_eq_true rfl) ?_
  intro p9 e9 s9 m9 w9 t9 k9 B
  show Z p9 l e9 _ s9 m9 _ w9 t9 k9 _ G 2 0 [(0, .ref (x + 20)), (1, .int 6)] [] Φ sz 0 0
  refine z_iload_n B dX10_has_0 rfl 1 rfl ?_
  refine z_if_lt (tgt := 26) B dX10_has_1 rfl (fun h9 => absurd h9 (by decide)) (fun c_1 => ?_)
  refine z_iload_n B dX10_has_4 rfl 1 rfl ?_
  refine z_bipush (v := 9) B dX10_has_5 rfl ?_
  refine z_icmp_ge (tgt := 26) B dX10_has_7 rfl (fun h9 => absurd h9 (by decide)) (fun c_2 => ?_)
  refine z_aload_n B dX10_has_10 rfl 0 rfl ?_
  refine z_get (ref := "FlowExporter$Template") (C := RX10) (T := TX10) (N := 4) (ci := 12) (v := .int 0) B (by decide +kernel) rfl 2 (by decide) (by decide +kernel) rfl hc20_ rfl dX10_has_11 ?_
  refine z_iload_n B dX10_has_14 rfl 1 rfl ?_
  refine z_ishr B dX10_has_15 ?_
  refine z_top (st1 := [.int 0]) (congrArg (fun w9 : Int32 => ([.int w9] : List Value)) (show ((0 : Int32) >>> ((6 : Int32) &&& (31 : Int32)) : Int32) = 0 by decide +kernel)) ?_
  refine z_iconst (v := 1) B dX10_has_16 rfl ?_
  refine z_iand B dX10_has_17 ?_
  refine z_top (st1 := [.int 0]) (congrArg (fun w9 : Int32 => ([.int w9] : List Value)) (show (0 &&& 1 : Int32) = 0 by decide +kernel)) ?_
  refine z_iconst (v := 1) B dX10_has_18 rfl ?_
  refine z_icmp_ne (tgt := 26) B dX10_has_19 rfl (fun c_3 => ?_) (fun h9 => absurd h9 (by decide))
  refine z_iconst (v := 0) B dX10_has_26 rfl ?_
  exact z_ret_z B dX10_has_27 (by decide) ⟨rfl, rfl, (fun b9 => rfl)⟩

set_option maxHeartbeats 4000000 in
set_option maxRecDepth 100000 in
theorem f_X8_forget_6 (G : EnvG) (l : Launch) (Φ : Hm) (sz : Nat) (x : Nat) (u : Int32) (hc3_ : Φ (x + 3) = some (o_ 3 [.ref (x + 4), .ref (x + 5), .ref (x + 6), .ref (x + 7), .int 1, .int u])) (hc6_ : Φ (x + 6) = some (aq_ G 4 4 (va_up (va_up (va_up (va_up (fun _ => none) (0 : Int32).toNatClampNeg (some (x + 8))) (1 : Int32).toNatClampNeg (some (x + 12))) (2 : Int32).toNatClampNeg (some (x + 16))) (3 : Int32).toNatClampNeg (some (x + 20))))) (hc8_ : Φ (x + 8) = some (o_ 12 [.ref (x + 9), .int 9, .int 511, .int 29])) (hc12_ : Φ (x + 12) = some (o_ 12 [.ref (x + 13), .int 0, .int 0, .int 0])) (hc16_ : Φ (x + 16) = some (o_ 12 [.ref (x + 17), .int 0, .int 0, .int 0])) (hc20_ : Φ (x + 20) = some (o_ 12 [.ref (x + 21), .int 0, .int 0, .int 0])) (hc74_ : Φ (x + 74) = some (o_ 10 [.ref (x + 3), .ref (x + 46), .ref (x + 75), .ref (x + 77), .int 0, .ref (x + 78), .ref (x + 79), .int 0, .long 0, .int 0])) (hc78_ : Φ (x + 78) = some (ai_ G 4 (fun _ => 0))) (hna : G.2.2.2 ≤ x) : Ct G l yX8_forgetTemplatesWith wsX8_forgetTemplatesWith ({ frames := 1, cells := 0, slots := 0, locals := 21 }) 0 0 [.ref (x + 74), .int 6] Φ sz (fun v Φ1 sz1 => v = none ∧ sz1 = sz ∧ (∀ b9 : Nat, b9 ≠ x + 78 → Φ1 b9 = Φ b9) ∧ Φ1 (x + 78) = some (ai_ G 4 (upd (fun _ => 0) (0 : Int32).toNatClampNeg 0))) := by
  refine Ct.of (cc := cX8_forgetTemplatesWith) (maxL := 3) (ret := none) (by decide) rfl (Nat.le_of_ble_eq_true rfl) ?_
  intro p9 e9 s9 m9 w9 t9 k9 B
  show Z p9 l e9 _ s9 m9 _ w9 t9 k9 _ G 3 0 [(0, .ref (x + 74)), (1, .int 6)] [] Φ sz 0 0
  refine z_iconst (v := 0) B dX8_forgetTemplatesWith_0 rfl ?_
  refine z_istore_n (lv' := [(2, .int 0), (0, .ref (x + 74)), (1, .int 6)]) B dX8_forgetTemplatesWith_1 rfl (Nat.le_of_ble_eq_true rfl) rfl ?_
  refine z_iload_n B dX8_forgetTemplatesWith_2 rfl 0 rfl ?_
  refine z_iconst (v := 4) B dX8_forgetTemplatesWith_3 rfl ?_
  refine z_icmp_ge (tgt := 35) B dX8_forgetTemplatesWith_4 rfl (fun h9 => absurd h9 (by decide)) (fun c_1 => ?_)
  refine z_aload_n B dX8_forgetTemplatesWith_7 rfl 1 rfl ?_
  refine z_get (ref := "FlowExporter$Sender") (C := RX8) (T := TX8) (N := 10) (ci := 10) (v := .ref (x + 3)) B (by decide +kernel) rfl 0 (by decide) (by decide +kernel) rfl hc74_ rfl dX8_forgetTemplatesWith_8 ?_
  refine z_iload_n B dX8_forgetTemplatesWith_11 rfl 0 rfl ?_
  refine z_callV (As := [.int 0]) (rest := []) B (f_X1_template_u0 G l Φ sz x u hc3_ hc6_) (cwV 1 B.1.2.2.2.2 gX8_forgetTemplatesWith_X1_template rfl rfl rfl (by decide +kernel) ⟨Nat.le_of_ble_eq_true rfl, Nat.le_of_ble_eq_true rfl⟩) hc3_ rfl rfl rfl rfl (Nat.le_of_ble_eq_true rfl) dX8_forgetTemplatesWith_12 ⟨Nat.le_of_ble_eq_true rfl, Nat.le_of_ble_eq_true rfl⟩ (fun v1 Φ1 sz1 st1 hp1 hs1 => ?_)
  obtain ⟨rfl, hq1, fr1⟩ := hp1
  replace hq1 : sz1 = sz := hq1
  subst sz1
  replace hs1 : st1 = [.ref (x + 8)] := hs1
  subst st1
  refine z_iload_n B dX8_forgetTemplatesWith_15 rfl 2 rfl ?_
  have h_1 : Φ1 (x + 8) = some (o_ 12 [.ref (x + 9), .int 9, .int 511, .int 29]) := ((fr1 (x + 8)).trans hc8_)
  refine z_callV (As := [.int 6]) (rest := []) B (f_X10_has_0_6 G l Φ1 sz x h_1) (cwV 1 B.1.2.2.2.2 gX8_forgetTemplatesWith_X10_has rfl rfl rfl (by decide +kernel) ⟨Nat.le_of_ble_eq_true rfl, Nat.le_of_ble_eq_true rfl⟩) h_1 rfl rfl rfl rfl (Nat.le_of_ble_eq_true rfl) dX8_forgetTemplatesWith_16 ⟨Nat.le_of_ble_eq_true rfl, Nat.le_of_ble_eq_true rfl⟩ (fun v2 Φ2 sz2 st2 hp2 hs2 => ?_)
  obtain ⟨rfl, hq2, fr2⟩ := hp2
  replace hq2 : sz2 = sz := hq2
  subst sz2
  replace hs2 : st2 = [.int 1] := hs2
  subst st2
  refine z_if_eq (tgt := 29) B dX8_forgetTemplatesWith_19 rfl (fun h9 => absurd h9 (by decide)) (fun c_2 => ?_)
  refine z_aload_n B dX8_forgetTemplatesWith_22 rfl 1 rfl ?_
  have h_2 : Φ2 (x + 74) = some (o_ 10 [.ref (x + 3), .ref (x + 46), .ref (x + 75), .ref (x + 77), .int 0, .ref (x + 78), .ref (x + 79), .int 0, .long 0, .int 0]) := ((fr2 (x + 74)).trans ((fr1 (x + 74)).trans hc74_))
  refine z_get (ref := "FlowExporter$Sender") (C := RX8) (T := TX8) (N := 10) (ci := 10) (v := .ref (x + 78)) B (by decide +kernel) rfl 5 (by decide) (by decide +kernel) rfl h_2 rfl dX8_forgetTemplatesWith_23 ?_
  refine z_iload_n B dX8_forgetTemplatesWith_26 rfl 0 rfl ?_
  refine z_iconst (v := 0) B dX8_forgetTemplatesWith_27 rfl ?_
  have h_3 : Φ2 (x + 78) = some (ai_ G 4 (fun _ => 0)) := ((fr2 (x + 78)).trans ((fr1 (x + 78)).trans hc78_))
  refine z_iast B h_3 (Nat.le_trans hna (Nat.le_add_right x 78)) (vin rfl) dX8_forgetTemplatesWith_28 (fun Φ3 hΦ1 => ?_)
  have h_4 : Φ3 (x + 78) = some (ai_ G 4 (upd (fun _ => 0) (0 : Int32).toNatClampNeg 0)) := fset_at hΦ1
  refine z_iinc (k := 0) (v := 1) (lv' := [(2, .int 1), (0, .ref (x + 74)), (1, .int 6)]) B dX8_forgetTemplatesWith_29 rfl rfl (Nat.le_of_ble_eq_true rfl) rfl ?_
  refine z_goto (tgt := 2) B dX8_forgetTemplatesWith_32 rfl ?_
  refine z_iload_n B dX8_forgetTemplatesWith_2 rfl 0 rfl ?_
  refine z_iconst (v := 4) B dX8_forgetTemplatesWith_3 rfl ?_
  refine z_icmp_ge (tgt := 35) B dX8_forgetTemplatesWith_4 rfl (fun h9 => absurd h9 (by decide)) (fun c_3 => ?_)
  refine z_aload_n B dX8_forgetTemplatesWith_7 rfl 1 rfl ?_
  have h_5 : Φ3 (x + 74) = some (o_ 10 [.ref (x + 3), .ref (x + 46), .ref (x + 75), .ref (x + 77), .int 0, .ref (x + 78), .ref (x + 79), .int 0, .long 0, .int 0]) := ((fset_fr hΦ1 (ne_off (x := x) (i := 74) (j := 78) rfl)).trans h_2)
  refine z_get (ref := "FlowExporter$Sender") (C := RX8) (T := TX8) (N := 10) (ci := 10) (v := .ref (x + 3)) B (by decide +kernel) rfl 0 (by decide) (by decide +kernel) rfl h_5 rfl dX8_forgetTemplatesWith_8 ?_
  refine z_iload_n B dX8_forgetTemplatesWith_11 rfl 0 rfl ?_
  have h_6 : Φ3 (x + 3) = some (o_ 3 [.ref (x + 4), .ref (x + 5), .ref (x + 6), .ref (x + 7), .int 1, .int u]) := ((fset_fr hΦ1 (ne_off (x := x) (i := 3) (j := 78) rfl)).trans ((fr2 (x + 3)).trans ((fr1 (x + 3)).trans hc3_)))
  have h_7 : Φ3 (x + 6) = some (aq_ G 4 4 (va_up (va_up (va_up (va_up (fun _ => none) (0 : Int32).toNatClampNeg (some (x + 8))) (1 : Int32).toNatClampNeg (some (x + 12))) (2 : Int32).toNatClampNeg (some (x + 16))) (3 : Int32).toNatClampNeg (some (x + 20)))) := ((fset_fr hΦ1 (ne_off (x := x) (i := 6) (j := 78) rfl)).trans ((fr2 (x + 6)).trans ((fr1 (x + 6)).trans hc6_)))
  refine z_callV (As := [.int 1]) (rest := []) B (f_X1_template_u1 G l Φ3 sz x u h_6 h_7) (cwV 1 B.1.2.2.2.2 gX8_forgetTemplatesWith_X1_template rfl rfl rfl (by decide +kernel) ⟨Nat.le_of_ble_eq_true rfl, Nat.le_of_ble_eq_true rfl⟩) h_6 rfl rfl rfl rfl (Nat.le_of_ble_eq_true rfl) dX8_forgetTemplatesWith_12 ⟨Nat.le_of_ble_eq_true rfl, Nat.le_of_ble_eq_true rfl⟩ (fun v3 Φ4 sz3 st3 hp3 hs3 => ?_)
  obtain ⟨rfl, hq3, fr3⟩ := hp3
  replace hq3 : sz3 = sz := hq3
  subst sz3
  replace hs3 : st3 = [.ref (x + 12)] := hs3
  subst st3
  refine z_iload_n B dX8_forgetTemplatesWith_15 rfl 2 rfl ?_
  have h_8 : Φ4 (x + 12) = some (o_ 12 [.ref (x + 13), .int 0, .int 0, .int 0]) := ((fr3 (x + 12)).trans ((fset_fr hΦ1 (ne_off (x := x) (i := 12) (j := 78) rfl)).trans ((fr2 (x + 12)).trans ((fr1 (x + 12)).trans hc12_))))
  refine z_callV (As := [.int 6]) (rest := []) B (f_X10_has_1_6 G l Φ4 sz x h_8) (cwV 1 B.1.2.2.2.2 gX8_forgetTemplatesWith_X10_has rfl rfl rfl (by decide +kernel) ⟨Nat.le_of_ble_eq_true rfl, Nat.le_of_ble_eq_true rfl⟩) h_8 rfl rfl rfl rfl (Nat.le_of_ble_eq_true rfl) dX8_forgetTemplatesWith_16 ⟨Nat.le_of_ble_eq_true rfl, Nat.le_of_ble_eq_true rfl⟩ (fun v4 Φ5 sz4 st4 hp4 hs4 => ?_)
  obtain ⟨rfl, hq4, fr4⟩ := hp4
  replace hq4 : sz4 = sz := hq4
  subst sz4
  replace hs4 : st4 = [.int 0] := hs4
  subst st4
  refine z_if_eq (tgt := 29) B dX8_forgetTemplatesWith_19 rfl (fun c_4 => ?_) (fun h9 => absurd (by decide) h9)
  refine z_iinc (k := 0) (v := 2) (lv' := [(2, .int 2), (0, .ref (x + 74)), (1, .int 6)]) B dX8_forgetTemplatesWith_29 rfl rfl (Nat.le_of_ble_eq_true rfl) rfl ?_
  refine z_goto (tgt := 2) B dX8_forgetTemplatesWith_32 rfl ?_
  refine z_iload_n B dX8_forgetTemplatesWith_2 rfl 0 rfl ?_
  refine z_iconst (v := 4) B dX8_forgetTemplatesWith_3 rfl ?_
  refine z_icmp_ge (tgt := 35) B dX8_forgetTemplatesWith_4 rfl (fun h9 => absurd h9 (by decide)) (fun c_5 => ?_)
  refine z_aload_n B dX8_forgetTemplatesWith_7 rfl 1 rfl ?_
  have h_9 : Φ5 (x + 74) = some (o_ 10 [.ref (x + 3), .ref (x + 46), .ref (x + 75), .ref (x + 77), .int 0, .ref (x + 78), .ref (x + 79), .int 0, .long 0, .int 0]) := ((fr4 (x + 74)).trans ((fr3 (x + 74)).trans h_5))
  refine z_get (ref := "FlowExporter$Sender") (C := RX8) (T := TX8) (N := 10) (ci := 10) (v := .ref (x + 3)) B (by decide +kernel) rfl 0 (by decide) (by decide +kernel) rfl h_9 rfl dX8_forgetTemplatesWith_8 ?_
  refine z_iload_n B dX8_forgetTemplatesWith_11 rfl 0 rfl ?_
  have h_10 : Φ5 (x + 3) = some (o_ 3 [.ref (x + 4), .ref (x + 5), .ref (x + 6), .ref (x + 7), .int 1, .int u]) := ((fr4 (x + 3)).trans ((fr3 (x + 3)).trans h_6))
  have h_11 : Φ5 (x + 6) = some (aq_ G 4 4 (va_up (va_up (va_up (va_up (fun _ => none) (0 : Int32).toNatClampNeg (some (x + 8))) (1 : Int32).toNatClampNeg (some (x + 12))) (2 : Int32).toNatClampNeg (some (x + 16))) (3 : Int32).toNatClampNeg (some (x + 20)))) := ((fr4 (x + 6)).trans ((fr3 (x + 6)).trans h_7))
  refine z_callV (As := [.int 2]) (rest := []) B (f_X1_template_u2 G l Φ5 sz x u h_10 h_11) (cwV 1 B.1.2.2.2.2 gX8_forgetTemplatesWith_X1_template rfl rfl rfl (by decide +kernel) ⟨Nat.le_of_ble_eq_true rfl, Nat.le_of_ble_eq_true rfl⟩) h_10 rfl rfl rfl rfl (Nat.le_of_ble_eq_true rfl) dX8_forgetTemplatesWith_12 ⟨Nat.le_of_ble_eq_true rfl, Nat.le_of_ble_eq_true rfl⟩ (fun v5 Φ6 sz5 st5 hp5 hs5 => ?_)
  obtain ⟨rfl, hq5, fr5⟩ := hp5
  replace hq5 : sz5 = sz := hq5
  subst sz5
  replace hs5 : st5 = [.ref (x + 16)] := hs5
  subst st5
  refine z_iload_n B dX8_forgetTemplatesWith_15 rfl 2 rfl ?_
  have h_12 : Φ6 (x + 16) = some (o_ 12 [.ref (x + 17), .int 0, .int 0, .int 0]) := ((fr5 (x + 16)).trans ((fr4 (x + 16)).trans ((fr3 (x + 16)).trans ((fset_fr hΦ1 (ne_off (x := x) (i := 16) (j := 78) rfl)).trans ((fr2 (x + 16)).trans ((fr1 (x + 16)).trans hc16_))))))
  refine z_callV (As := [.int 6]) (rest := []) B (f_X10_has_2_6 G l Φ6 sz x h_12) (cwV 1 B.1.2.2.2.2 gX8_forgetTemplatesWith_X10_has rfl rfl rfl (by decide +kernel) ⟨Nat.le_of_ble_eq_true rfl, Nat.le_of_ble_eq_true rfl⟩) h_12 rfl rfl rfl rfl (Nat.le_of_ble_eq_true rfl) dX8_forgetTemplatesWith_16 ⟨Nat.le_of_ble_eq_true rfl, Nat.le_of_ble_eq_true rfl⟩ (fun v6 Φ7 sz6 st6 hp6 hs6 => ?_)
  obtain ⟨rfl, hq6, fr6⟩ := hp6
  replace hq6 : sz6 = sz := hq6
  subst sz6
  replace hs6 : st6 = [.int 0] := hs6
  subst st6
  refine z_if_eq (tgt := 29) B dX8_forgetTemplatesWith_19 rfl (fun c_6 => ?_) (fun h9 => absurd (by decide) h9)
  refine z_iinc (k := 0) (v := 3) (lv' := [(2, .int 3), (0, .ref (x + 74)), (1, .int 6)]) B dX8_forgetTemplatesWith_29 rfl rfl (Nat.le_of_ble_eq_true rfl) rfl ?_
  refine z_goto (tgt := 2) B dX8_forgetTemplatesWith_32 rfl ?_
  refine z_iload_n B dX8_forgetTemplatesWith_2 rfl 0 rfl ?_
  refine z_iconst (v := 4) B dX8_forgetTemplatesWith_3 rfl ?_
  refine z_icmp_ge (tgt := 35) B dX8_forgetTemplatesWith_4 rfl (fun h9 => absurd h9 (by decide)) (fun c_7 => ?_)
  refine z_aload_n B dX8_forgetTemplatesWith_7 rfl 1 rfl ?_
  have h_13 : Φ7 (x + 74) = some (o_ 10 [.ref (x + 3), .ref (x + 46), .ref (x + 75), .ref (x + 77), .int 0, .ref (x + 78), .ref (x + 79), .int 0, .long 0, .int 0]) := ((fr6 (x + 74)).trans ((fr5 (x + 74)).trans h_9))
  refine z_get (ref := "FlowExporter$Sender") (C := RX8) (T := TX8) (N := 10) (ci := 10) (v := .ref (x + 3)) B (by decide +kernel) rfl 0 (by decide) (by decide +kernel) rfl h_13 rfl dX8_forgetTemplatesWith_8 ?_
  refine z_iload_n B dX8_forgetTemplatesWith_11 rfl 0 rfl ?_
  have h_14 : Φ7 (x + 3) = some (o_ 3 [.ref (x + 4), .ref (x + 5), .ref (x + 6), .ref (x + 7), .int 1, .int u]) := ((fr6 (x + 3)).trans ((fr5 (x + 3)).trans h_10))
  have h_15 : Φ7 (x + 6) = some (aq_ G 4 4 (va_up (va_up (va_up (va_up (fun _ => none) (0 : Int32).toNatClampNeg (some (x + 8))) (1 : Int32).toNatClampNeg (some (x + 12))) (2 : Int32).toNatClampNeg (some (x + 16))) (3 : Int32).toNatClampNeg (some (x + 20)))) := ((fr6 (x + 6)).trans ((fr5 (x + 6)).trans h_11))
  refine z_callV (As := [.int 3]) (rest := []) B (f_X1_template_u3 G l Φ7 sz x u h_14 h_15) (cwV 1 B.1.2.2.2.2 gX8_forgetTemplatesWith_X1_template rfl rfl rfl (by decide +kernel) ⟨Nat.le_of_ble_eq_true rfl, Nat.le_of_ble_eq_true rfl⟩) h_14 rfl rfl rfl rfl (Nat.le_of_ble_eq_true rfl) dX8_forgetTemplatesWith_12 ⟨Nat.le_of_ble_eq_true rfl, Nat.le_of_ble_eq_true rfl⟩ (fun v7 Φ8 sz7 st7 hp7 hs7 => ?_)
  obtain ⟨rfl, hq7, fr7⟩ := hp7
  replace hq7 : sz7 = sz := hq7
  subst sz7
  replace hs7 : st7 = [.ref (x + 20)] := hs7
  subst st7
  refine z_iload_n B dX8_forgetTemplatesWith_15 rfl 2 rfl ?_
  have h_16 : Φ8 (x + 20) = some (o_ 12 [.ref (x + 21), .int 0, .int 0, .int 0]) := ((fr7 (x + 20)).trans ((fr6 (x + 20)).trans ((fr5 (x + 20)).trans ((fr4 (x + 20)).trans ((fr3 (x + 20)).trans ((fset_fr hΦ1 (ne_off (x := x) (i := 20) (j := 78) rfl)).trans ((fr2 (x + 20)).trans ((fr1 (x + 20)).trans hc20_))))))))
  refine z_callV (As := [.int 6]) (rest := []) B (f_X10_has_3_6 G l Φ8 sz x h_16) (cwV 1 B.1.2.2.2.2 gX8_forgetTemplatesWith_X10_has rfl rfl rfl (by decide +kernel) ⟨Nat.le_of_ble_eq_true rfl, Nat.le_of_ble_eq_true rfl⟩) h_16 rfl rfl rfl rfl (Nat.le_of_ble_eq_true rfl) dX8_forgetTemplatesWith_16 ⟨Nat.le_of_ble_eq_true rfl, Nat.le_of_ble_eq_true rfl⟩ (fun v8 Φ9 sz8 st8 hp8 hs8 => ?_)
  obtain ⟨rfl, hq8, fr8⟩ := hp8
  replace hq8 : sz8 = sz := hq8
  subst sz8
  replace hs8 : st8 = [.int 0] := hs8
  subst st8
  refine z_if_eq (tgt := 29) B dX8_forgetTemplatesWith_19 rfl (fun c_8 => ?_) (fun h9 => absurd (by decide) h9)
  refine z_iinc (k := 0) (v := 4) (lv' := [(2, .int 4), (0, .ref (x + 74)), (1, .int 6)]) B dX8_forgetTemplatesWith_29 rfl rfl (Nat.le_of_ble_eq_true rfl) rfl ?_
  refine z_goto (tgt := 2) B dX8_forgetTemplatesWith_32 rfl ?_
  refine z_iload_n B dX8_forgetTemplatesWith_2 rfl 0 rfl ?_
  refine z_iconst (v := 4) B dX8_forgetTemplatesWith_3 rfl ?_
  refine z_icmp_ge (tgt := 35) B dX8_forgetTemplatesWith_4 rfl (fun c_9 => ?_) (fun h9 => absurd (by decide) h9)
  have h_17 : Φ9 (x + 78) = some (ai_ G 4 (upd (fun _ => 0) (0 : Int32).toNatClampNeg 0)) := ((fr8 (x + 78)).trans ((fr7 (x + 78)).trans ((fr6 (x + 78)).trans ((fr5 (x + 78)).trans ((fr4 (x + 78)).trans ((fr3 (x + 78)).trans h_4))))))
  exact z_ret_v B dX8_forgetTemplatesWith_35 ⟨rfl, rfl, (fun b9 h9a => ((fr8 b9).trans ((fr7 b9).trans ((fr6 b9).trans ((fr5 b9).trans ((fr4 b9).trans ((fr3 b9).trans ((fset_fr hΦ1 h9a).trans ((fr2 b9).trans ((fr1 b9).trans rfl)))))))))), h_17⟩

set_option maxHeartbeats 4000000 in
set_option maxRecDepth 100000 in
theorem f_X11_setSupport_6_0 (G : EnvG) (l : Launch) (Φ : Hm) (sz : Nat) (x : Nat) (hc0_ : Φ x = some (o_ 13 [.ref (x + 1), .ref (x + 3), .ref (x + 24), .ref (x + 46), .ref (x + 74), .ref (x + 80), .ref (x + 132), .ref (x + 121)])) (hc3_ : Φ (x + 3) = some (o_ 3 [.ref (x + 4), .ref (x + 5), .ref (x + 6), .ref (x + 7), .int 1, .int 511])) (hc6_ : Φ (x + 6) = some (aq_ G 4 4 (va_up (va_up (va_up (va_up (fun _ => none) (0 : Int32).toNatClampNeg (some (x + 8))) (1 : Int32).toNatClampNeg (some (x + 12))) (2 : Int32).toNatClampNeg (some (x + 16))) (3 : Int32).toNatClampNeg (some (x + 20))))) (hc7_ : Φ (x + 7) = some (aq_ G 4 4 (va_up (va_up (va_up (va_up (fun _ => none) (0 : Int32).toNatClampNeg (some (x + 10))) (1 : Int32).toNatClampNeg (some (x + 14))) (2 : Int32).toNatClampNeg (some (x + 18))) (3 : Int32).toNatClampNeg (some (x + 22))))) (hc8_ : Φ (x + 8) = some (o_ 12 [.ref (x + 9), .int 9, .int 511, .int 29])) (hc9_ : Φ (x + 9) = some (ai_ G 9 (upd (upd (upd (upd (upd (upd (upd (upd (upd (fun _ => 0) (0 : Int32).toNatClampNeg 0) (1 : Int32).toNatClampNeg 1) (2 : Int32).toNatClampNeg 2) (3 : Int32).toNatClampNeg 3) (4 : Int32).toNatClampNeg 4) (5 : Int32).toNatClampNeg 5) (6 : Int32).toNatClampNeg 6) (7 : Int32).toNatClampNeg 7) (8 : Int32).toNatClampNeg 8))) (hc10_ : Φ (x + 10) = some (o_ 12 [.ref (x + 11), .int 9, .int 511, .int 29])) (hc11_ : Φ (x + 11) = some (ai_ G 9 (upd (upd (upd (upd (upd (upd (upd (upd (upd (fun _ => 0) (0 : Int32).toNatClampNeg 0) (1 : Int32).toNatClampNeg 1) (2 : Int32).toNatClampNeg 2) (3 : Int32).toNatClampNeg 3) (4 : Int32).toNatClampNeg 4) (5 : Int32).toNatClampNeg 5) (6 : Int32).toNatClampNeg 6) (7 : Int32).toNatClampNeg 7) (8 : Int32).toNatClampNeg 8))) (hc12_ : Φ (x + 12) = some (o_ 12 [.ref (x + 13), .int 0, .int 0, .int 0])) (hc14_ : Φ (x + 14) = some (o_ 12 [.ref (x + 15), .int 0, .int 0, .int 0])) (hc16_ : Φ (x + 16) = some (o_ 12 [.ref (x + 17), .int 0, .int 0, .int 0])) (hc18_ : Φ (x + 18) = some (o_ 12 [.ref (x + 19), .int 0, .int 0, .int 0])) (hc20_ : Φ (x + 20) = some (o_ 12 [.ref (x + 21), .int 0, .int 0, .int 0])) (hc22_ : Φ (x + 22) = some (o_ 12 [.ref (x + 23), .int 0, .int 0, .int 0])) (hc74_ : Φ (x + 74) = some (o_ 10 [.ref (x + 3), .ref (x + 46), .ref (x + 75), .ref (x + 77), .int 0, .ref (x + 78), .ref (x + 79), .int 0, .long 0, .int 0])) (hc78_ : Φ (x + 78) = some (ai_ G 4 (fun _ => 0))) (hna : G.2.2.2 ≤ x) : Ct G l yX11_setSupport wsX11_setSupport ({ frames := 3, cells := 0, slots := 0, locals := 67 }) 0 0 [.ref x, .int 6, .int 0] Φ sz (fun v Φ1 sz1 => v = some (.int 1) ∧ ∀ b9 : Nat, x + 149 ≤ b9 → Φ1 b9 = Φ b9) := by
  refine Ct.of (cc := cX11_setSupport) (maxL := 4) (ret := (some .boolean)) (by decide) rfl (Nat.le_of_ble_eq_true rfl) ?_
  intro p9 e9 s9 m9 w9 t9 k9 B
  show Z p9 l e9 _ s9 m9 _ w9 t9 k9 _ G 4 0 [(0, .ref x), (1, .int 6), (2, .int 0)] [] Φ sz 0 0
  refine z_iload_n B dX11_setSupport_0 rfl 1 rfl ?_
  refine z_if_lt (tgt := 10) B dX11_setSupport_1 rfl (fun h9 => absurd h9 (by decide)) (fun c_1 => ?_)
  refine z_iload_n B dX11_setSupport_4 rfl 1 rfl ?_
  refine z_bipush (v := 9) B dX11_setSupport_5 rfl ?_
  refine z_icmp_lt (tgt := 18) B dX11_setSupport_7 rfl (fun c_2 => ?_) (fun h9 => absurd (by decide) h9)
  refine z_aload_n B dX11_setSupport_18 rfl 0 rfl ?_
  refine z_get (ref := "FlowExporter") (C := RX11) (T := TX11) (N := 8) (ci := 13) (v := .ref (x + 3)) B (by decide +kernel) rfl 1 (by decide) (by decide +kernel) rfl hc0_ rfl dX11_setSupport_19 ?_
  refine z_get (ref := "FlowExporter$Config") (C := RX1) (T := TX1) (N := 6) (ci := 3) (v := .int 511) B (by decide +kernel) rfl 5 (by decide) (by decide +kernel) rfl hc3_ rfl dX11_setSupport_22 ?_
  refine z_iload_n B dX11_setSupport_25 rfl 1 rfl ?_
  refine z_ishr B dX11_setSupport_26 ?_
  refine z_top (st1 := [.int 7]) (congrArg (fun w9 : Int32 => ([.int w9] : List Value)) (show ((511 : Int32) >>> ((6 : Int32) &&& (31 : Int32)) : Int32) = 7 by decide +kernel)) ?_
  refine z_iconst (v := 1) B dX11_setSupport_27 rfl ?_
  refine z_iand B dX11_setSupport_28 ?_
  refine z_top (st1 := [.int 1]) (congrArg (fun w9 : Int32 => ([.int w9] : List Value)) (show (7 &&& 1 : Int32) = 1 by decide +kernel)) ?_
  refine z_iconst (v := 1) B dX11_setSupport_29 rfl ?_
  refine z_icmp_ne (tgt := 37) B dX11_setSupport_30 rfl (fun h9 => absurd (by decide) h9) (fun c_3 => ?_)
  refine z_iconst (v := 1) B dX11_setSupport_33 rfl ?_
  refine z_goto (tgt := 38) B dX11_setSupport_34 rfl ?_
  refine z_istore_n (lv' := [(3, .int 1), (0, .ref x), (1, .int 6), (2, .int 0)]) B dX11_setSupport_38 rfl (Nat.le_of_ble_eq_true rfl) rfl ?_
  refine z_iload_n B dX11_setSupport_39 rfl 0 rfl ?_
  refine z_iload_n B dX11_setSupport_40 rfl 3 rfl ?_
  refine z_icmp_eq (tgt := 70) B dX11_setSupport_41 rfl (fun h9 => absurd h9 (by decide)) (fun c_4 => ?_)
  refine z_aload_n B dX11_setSupport_44 rfl 1 rfl ?_
  refine z_get (ref := "FlowExporter") (C := RX11) (T := TX11) (N := 8) (ci := 13) (v := .ref (x + 3)) B (by decide +kernel) rfl 1 (by decide) (by decide +kernel) rfl hc0_ rfl dX11_setSupport_45 ?_
  refine z_aload_n B dX11_setSupport_48 rfl 1 rfl ?_
  refine z_get (ref := "FlowExporter") (C := RX11) (T := TX11) (N := 8) (ci := 13) (v := .ref (x + 3)) B (by decide +kernel) rfl 1 (by decide) (by decide +kernel) rfl hc0_ rfl dX11_setSupport_49 ?_
  refine z_get (ref := "FlowExporter$Config") (C := RX1) (T := TX1) (N := 6) (ci := 3) (v := .int 511) B (by decide +kernel) rfl 5 (by decide) (by decide +kernel) rfl hc3_ rfl dX11_setSupport_52 ?_
  refine z_iconst (v := 1) B dX11_setSupport_55 rfl ?_
  refine z_iload_n B dX11_setSupport_56 rfl 2 rfl ?_
  refine z_ishl B dX11_setSupport_57 ?_
  refine z_top (st1 := [.int 64, .int 511, .ref (x + 3)]) (congrArg (fun w9 : Int32 => ([.int w9, .int 511, .ref (x + 3)] : List Value)) (show ((1 : Int32) <<< ((6 : Int32) &&& (31 : Int32)) : Int32) = 64 by decide +kernel)) ?_
  refine z_ixor B dX11_setSupport_58 ?_
  refine z_top (st1 := [.int 447, .ref (x + 3)]) (congrArg (fun w9 : Int32 => ([.int w9, .ref (x + 3)] : List Value)) (show (511 ^^^ 64 : Int32) = 447 by decide +kernel)) ?_
  refine z_callV (As := [.int 447]) (rest := []) B (f_X1_support_s6 G l Φ sz x hc3_ hc6_ hc7_ hc8_ hc9_ hc10_ hc11_ hc12_ hc14_ hc16_ hc18_ hc20_ hc22_ hna) (cwV 1 B.1.2.2.2.2 gX11_setSupport_X1_support rfl rfl rfl (by decide +kernel) ⟨Nat.le_of_ble_eq_true rfl, Nat.le_of_ble_eq_true rfl⟩) hc3_ rfl rfl rfl rfl (Nat.le_of_ble_eq_true rfl) dX11_setSupport_59 ⟨Nat.le_of_ble_eq_true rfl, Nat.le_of_ble_eq_true rfl⟩ (fun v1 Φ1 sz1 st1 hp1 hs1 => ?_)
  obtain ⟨rfl, hq1, fr1, h_1, h_2, h_3, h_4, h_5, h_6⟩ := hp1
  replace hq1 : sz1 = sz := hq1
  subst sz1
  replace hs1 : st1 = [] := hs1
  subst st1
  have h_7 : Φ1 (x + 10) = some (o_ 12 [.ref (x + 11), .int 8, .int 447, .int 25]) := h_1
  have h_8 : Φ1 (x + 11) = some (ai_ G 9 (upd (upd (upd (upd (upd (upd (upd (upd (upd (upd (upd (upd (upd (upd (upd (upd (upd (fun _ => 0) (0 : Int32).toNatClampNeg 0) (1 : Int32).toNatClampNeg 1) (2 : Int32).toNatClampNeg 2) (3 : Int32).toNatClampNeg 3) (4 : Int32).toNatClampNeg 4) (5 : Int32).toNatClampNeg 5) (6 : Int32).toNatClampNeg 6) (7 : Int32).toNatClampNeg 7) (8 : Int32).toNatClampNeg 8) (0 : Int32).toNatClampNeg 0) (1 : Int32).toNatClampNeg 1) (2 : Int32).toNatClampNeg 2) (3 : Int32).toNatClampNeg 3) (4 : Int32).toNatClampNeg 4) (5 : Int32).toNatClampNeg 5) (6 : Int32).toNatClampNeg 7) (7 : Int32).toNatClampNeg 8)) := h_2
  have h_9 : Φ1 (x + 14) = some (o_ 12 [.ref (x + 15), .int 0, .int 0, .int 0]) := h_3
  have h_10 : Φ1 (x + 18) = some (o_ 12 [.ref (x + 19), .int 0, .int 0, .int 0]) := h_4
  have h_11 : Φ1 (x + 22) = some (o_ 12 [.ref (x + 23), .int 0, .int 0, .int 0]) := h_5
  have h_12 : Φ1 (x + 3) = some (o_ 3 [.ref (x + 4), .ref (x + 5), .ref (x + 6), .ref (x + 7), .int 1, .int 447]) := h_6
  refine z_aload_n B dX11_setSupport_62 rfl 1 rfl ?_
  have h_13 : Φ1 x = some (o_ 13 [.ref (x + 1), .ref (x + 3), .ref (x + 24), .ref (x + 46), .ref (x + 74), .ref (x + 80), .ref (x + 132), .ref (x + 121)]) := ((fr1 x (ne_off (x := x) (i := 0) (j := 10) rfl) (ne_off (x := x) (i := 0) (j := 11) rfl) (ne_off (x := x) (i := 0) (j := 14) rfl) (ne_off (x := x) (i := 0) (j := 18) rfl) (ne_off (x := x) (i := 0) (j := 22) rfl) (ne_off (x := x) (i := 0) (j := 3) rfl)).trans hc0_)
  refine z_get (ref := "FlowExporter") (C := RX11) (T := TX11) (N := 8) (ci := 13) (v := .ref (x + 74)) B (by decide +kernel) rfl 4 (by decide) (by decide +kernel) rfl h_13 rfl dX11_setSupport_63 ?_
  refine z_iload_n B dX11_setSupport_66 rfl 2 rfl ?_
  have h_14 : Φ1 (x + 6) = some (aq_ G 4 4 (va_up (va_up (va_up (va_up (fun _ => none) (0 : Int32).toNatClampNeg (some (x + 8))) (1 : Int32).toNatClampNeg (some (x + 12))) (2 : Int32).toNatClampNeg (some (x + 16))) (3 : Int32).toNatClampNeg (some (x + 20)))) := ((fr1 (x + 6) (ne_off (x := x) (i := 6) (j := 10) rfl) (ne_off (x := x) (i := 6) (j := 11) rfl) (ne_off (x := x) (i := 6) (j := 14) rfl) (ne_off (x := x) (i := 6) (j := 18) rfl) (ne_off (x := x) (i := 6) (j := 22) rfl) (ne_off (x := x) (i := 6) (j := 3) rfl)).trans hc6_)
  have h_15 : Φ1 (x + 8) = some (o_ 12 [.ref (x + 9), .int 9, .int 511, .int 29]) := ((fr1 (x + 8) (ne_off (x := x) (i := 8) (j := 10) rfl) (ne_off (x := x) (i := 8) (j := 11) rfl) (ne_off (x := x) (i := 8) (j := 14) rfl) (ne_off (x := x) (i := 8) (j := 18) rfl) (ne_off (x := x) (i := 8) (j := 22) rfl) (ne_off (x := x) (i := 8) (j := 3) rfl)).trans hc8_)
  have h_16 : Φ1 (x + 12) = some (o_ 12 [.ref (x + 13), .int 0, .int 0, .int 0]) := ((fr1 (x + 12) (ne_off (x := x) (i := 12) (j := 10) rfl) (ne_off (x := x) (i := 12) (j := 11) rfl) (ne_off (x := x) (i := 12) (j := 14) rfl) (ne_off (x := x) (i := 12) (j := 18) rfl) (ne_off (x := x) (i := 12) (j := 22) rfl) (ne_off (x := x) (i := 12) (j := 3) rfl)).trans hc12_)
  have h_17 : Φ1 (x + 16) = some (o_ 12 [.ref (x + 17), .int 0, .int 0, .int 0]) := ((fr1 (x + 16) (ne_off (x := x) (i := 16) (j := 10) rfl) (ne_off (x := x) (i := 16) (j := 11) rfl) (ne_off (x := x) (i := 16) (j := 14) rfl) (ne_off (x := x) (i := 16) (j := 18) rfl) (ne_off (x := x) (i := 16) (j := 22) rfl) (ne_off (x := x) (i := 16) (j := 3) rfl)).trans hc16_)
  have h_18 : Φ1 (x + 20) = some (o_ 12 [.ref (x + 21), .int 0, .int 0, .int 0]) := ((fr1 (x + 20) (ne_off (x := x) (i := 20) (j := 10) rfl) (ne_off (x := x) (i := 20) (j := 11) rfl) (ne_off (x := x) (i := 20) (j := 14) rfl) (ne_off (x := x) (i := 20) (j := 18) rfl) (ne_off (x := x) (i := 20) (j := 22) rfl) (ne_off (x := x) (i := 20) (j := 3) rfl)).trans hc20_)
  have h_19 : Φ1 (x + 74) = some (o_ 10 [.ref (x + 3), .ref (x + 46), .ref (x + 75), .ref (x + 77), .int 0, .ref (x + 78), .ref (x + 79), .int 0, .long 0, .int 0]) := ((fr1 (x + 74) (ne_off (x := x) (i := 74) (j := 10) rfl) (ne_off (x := x) (i := 74) (j := 11) rfl) (ne_off (x := x) (i := 74) (j := 14) rfl) (ne_off (x := x) (i := 74) (j := 18) rfl) (ne_off (x := x) (i := 74) (j := 22) rfl) (ne_off (x := x) (i := 74) (j := 3) rfl)).trans hc74_)
  have h_20 : Φ1 (x + 78) = some (ai_ G 4 (fun _ => 0)) := ((fr1 (x + 78) (ne_off (x := x) (i := 78) (j := 10) rfl) (ne_off (x := x) (i := 78) (j := 11) rfl) (ne_off (x := x) (i := 78) (j := 14) rfl) (ne_off (x := x) (i := 78) (j := 18) rfl) (ne_off (x := x) (i := 78) (j := 22) rfl) (ne_off (x := x) (i := 78) (j := 3) rfl)).trans hc78_)
  refine z_callV (As := [.int 6]) (rest := []) B (f_X8_forget_6 G l Φ1 sz x 447 h_12 h_14 h_15 h_16 h_17 h_18 h_19 h_20 hna) (cwV 1 B.1.2.2.2.2 gX11_setSupport_X8_forgetTemplatesWith rfl rfl rfl (by decide +kernel) ⟨Nat.le_of_ble_eq_true rfl, Nat.le_of_ble_eq_true rfl⟩) h_19 rfl rfl rfl rfl (Nat.le_of_ble_eq_true rfl) dX11_setSupport_67 ⟨Nat.le_of_ble_eq_true rfl, Nat.le_of_ble_eq_true rfl⟩ (fun v2 Φ2 sz2 st2 hp2 hs2 => ?_)
  obtain ⟨rfl, hq2, fr2, h_21⟩ := hp2
  replace hq2 : sz2 = sz := hq2
  subst sz2
  replace hs2 : st2 = [] := hs2
  subst st2
  have h_22 : Φ2 (x + 78) = some (ai_ G 4 (upd (fun _ => 0) (0 : Int32).toNatClampNeg 0)) := h_21
  refine z_iload_n B dX11_setSupport_70 rfl 0 rfl ?_
  exact z_ret_z B dX11_setSupport_71 (by decide) ⟨rfl, fun b9 h9 => ((fr2 b9 (Nat.ne_of_gt (Nat.lt_of_lt_of_le (lt_off (x := x) (i := 78) (j := 149) rfl) h9))).trans ((fr1 b9 (Nat.ne_of_gt (Nat.lt_of_lt_of_le (lt_off (x := x) (i := 10) (j := 149) rfl) h9)) (Nat.ne_of_gt (Nat.lt_of_lt_of_le (lt_off (x := x) (i := 11) (j := 149) rfl) h9)) (Nat.ne_of_gt (Nat.lt_of_lt_of_le (lt_off (x := x) (i := 14) (j := 149) rfl) h9)) (Nat.ne_of_gt (Nat.lt_of_lt_of_le (lt_off (x := x) (i := 18) (j := 149) rfl) h9)) (Nat.ne_of_gt (Nat.lt_of_lt_of_le (lt_off (x := x) (i := 22) (j := 149) rfl) h9)) (Nat.ne_of_gt (Nat.lt_of_lt_of_le (lt_off (x := x) (i := 3) (j := 149) rfl) h9))).trans rfl))⟩

set_option maxHeartbeats 4000000 in
set_option maxRecDepth 100000 in
theorem f_X11_setSupport_6_1 (G : EnvG) (l : Launch) (Φ : Hm) (sz : Nat) (x : Nat) (hc0_ : Φ x = some (o_ 13 [.ref (x + 1), .ref (x + 3), .ref (x + 24), .ref (x + 46), .ref (x + 74), .ref (x + 80), .ref (x + 132), .ref (x + 121)])) (hc3_ : Φ (x + 3) = some (o_ 3 [.ref (x + 4), .ref (x + 5), .ref (x + 6), .ref (x + 7), .int 1, .int 511])) : Ct G l yX11_setSupport wsX11_setSupport ({ frames := 0, cells := 0, slots := 0, locals := 0 }) 0 0 [.ref x, .int 6, .int 1] Φ sz (fun v Φ1 sz1 => v = some (.int 1) ∧ ∀ b9 : Nat, x + 149 ≤ b9 → Φ1 b9 = Φ b9) := by
  refine Ct.of (cc := cX11_setSupport) (maxL := 4) (ret := (some .boolean)) (by decide) rfl (Nat.le_of_ble_eq_true rfl) ?_
  intro p9 e9 s9 m9 w9 t9 k9 B
  show Z p9 l e9 _ s9 m9 _ w9 t9 k9 _ G 4 0 [(0, .ref x), (1, .int 6), (2, .int 1)] [] Φ sz 0 0
  refine z_iload_n B dX11_setSupport_0 rfl 1 rfl ?_
  refine z_if_lt (tgt := 10) B dX11_setSupport_1 rfl (fun h9 => absurd h9 (by decide)) (fun c_1 => ?_)
  refine z_iload_n B dX11_setSupport_4 rfl 1 rfl ?_
  refine z_bipush (v := 9) B dX11_setSupport_5 rfl ?_
  refine z_icmp_lt (tgt := 18) B dX11_setSupport_7 rfl (fun c_2 => ?_) (fun h9 => absurd (by decide) h9)
  refine z_aload_n B dX11_setSupport_18 rfl 0 rfl ?_
  refine z_get (ref := "FlowExporter") (C := RX11) (T := TX11) (N := 8) (ci := 13) (v := .ref (x + 3)) B (by decide +kernel) rfl 1 (by decide) (by decide +kernel) rfl hc0_ rfl dX11_setSupport_19 ?_
  refine z_get (ref := "FlowExporter$Config") (C := RX1) (T := TX1) (N := 6) (ci := 3) (v := .int 511) B (by decide +kernel) rfl 5 (by decide) (by decide +kernel) rfl hc3_ rfl dX11_setSupport_22 ?_
  refine z_iload_n B dX11_setSupport_25 rfl 1 rfl ?_
  refine z_ishr B dX11_setSupport_26 ?_
  refine z_top (st1 := [.int 7]) (congrArg (fun w9 : Int32 => ([.int w9] : List Value)) (show ((511 : Int32) >>> ((6 : Int32) &&& (31 : Int32)) : Int32) = 7 by decide +kernel)) ?_
  refine z_iconst (v := 1) B dX11_setSupport_27 rfl ?_
  refine z_iand B dX11_setSupport_28 ?_
  refine z_top (st1 := [.int 1]) (congrArg (fun w9 : Int32 => ([.int w9] : List Value)) (show (7 &&& 1 : Int32) = 1 by decide +kernel)) ?_
  refine z_iconst (v := 1) B dX11_setSupport_29 rfl ?_
  refine z_icmp_ne (tgt := 37) B dX11_setSupport_30 rfl (fun h9 => absurd (by decide) h9) (fun c_3 => ?_)
  refine z_iconst (v := 1) B dX11_setSupport_33 rfl ?_
  refine z_goto (tgt := 38) B dX11_setSupport_34 rfl ?_
  refine z_istore_n (lv' := [(3, .int 1), (0, .ref x), (1, .int 6), (2, .int 1)]) B dX11_setSupport_38 rfl (Nat.le_of_ble_eq_true rfl) rfl ?_
  refine z_iload_n B dX11_setSupport_39 rfl 0 rfl ?_
  refine z_iload_n B dX11_setSupport_40 rfl 3 rfl ?_
  refine z_icmp_eq (tgt := 70) B dX11_setSupport_41 rfl (fun c_4 => ?_) (fun h9 => absurd (by decide) h9)
  refine z_iload_n B dX11_setSupport_70 rfl 0 rfl ?_
  exact z_ret_z B dX11_setSupport_71 (by decide) ⟨rfl, fun b9 h9 => rfl⟩

set_option maxHeartbeats 4000000 in
set_option maxRecDepth 100000 in
theorem f_X10_has_0_7 (G : EnvG) (l : Launch) (Φ : Hm) (sz : Nat) (x : Nat) (hc8_ : Φ (x + 8) = some (o_ 12 [.ref (x + 9), .int 9, .int 511, .int 29])) : Ct G l yX10_has wsX10_has ({ frames := 0, cells := 0, slots := 0, locals := 0 }) 0 0 [.ref (x + 8), .int 7] Φ sz (fun v Φ1 sz1 => v = some (.int 1) ∧ sz1 = sz ∧ (∀ b9 : Nat, Φ1 b9 = Φ b9)) := by
  refine Ct.of (cc := cX10_has) (maxL := 2) (ret := (some .boolean)) (by decide) rfl (Nat.le_of_ble_eq_true rfl) ?_
  intro p9 e9 s9 m9 w9 t9 k9 B
  show Z p9 l e9 _ s9 m9 _ w9 t9 k9 _ G 2 0 [(0, .ref (x + 8)), (1, .int 7)] [] Φ sz 0 0
  refine z_iload_n B dX10_has_0 rfl 1 rfl ?_
  refine z_if_lt (tgt := 26) B dX10_has_1 rfl (fun h9 => absurd h9 (by decide)) (fun c_1 => ?_)
  refine z_iload_n B dX10_has_4 rfl 1 rfl ?_
  refine z_bipush (v := 9) B dX10_has_5 rfl ?_
  refine z_icmp_ge (tgt := 26) B dX10_has_7 rfl (fun h9 => absurd h9 (by decide)) (fun c_2 => ?_)
  refine z_aload_n B dX10_has_10 rfl 0 rfl ?_
  refine z_get (ref := "FlowExporter$Template") (C := RX10) (T := TX10) (N := 4) (ci := 12) (v := .int 511) B (by decide +kernel) rfl 2 (by decide) (by decide +kernel) rfl hc8_ rfl dX10_has_11 ?_
  refine z_iload_n B dX10_has_14 rfl 1 rfl ?_
  refine z_ishr B dX10_has_15 ?_
  refine z_top (st1 := [.int 3]) (congrArg (fun w9 : Int32 => ([.int w9] : List Value)) (show ((511 : Int32) >>> ((7 : Int32) &&& (31 : Int32)) : Int32) = 3 by decide +kernel)) ?_
  refine z_iconst (v := 1) B dX10_has_16 rfl ?_
  refine z_iand B dX10_has_17 ?_
  refine z_top (st1 := [.int 1]) (congrArg (fun w9 : Int32 => ([.int w9] : List Value)) (show (3 &&& 1 : Int32) = 1 by decide +kernel)) ?_
  refine z_iconst (v := 1) B dX10_has_18 rfl ?_
  refine z_icmp_ne (tgt := 26) B dX10_has_19 rfl (fun h9 => absurd (by decide) h9) (fun c_3 => ?_)
  refine z_iconst (v := 1) B dX10_has_22 rfl ?_
  refine z_goto (tgt := 27) B dX10_has_23 rfl ?_
  exact z_ret_z B dX10_has_27 (by decide) ⟨rfl, rfl, (fun b9 => rfl)⟩

set_option maxHeartbeats 4000000 in
set_option maxRecDepth 100000 in
theorem f_X10_has_1_7 (G : EnvG) (l : Launch) (Φ : Hm) (sz : Nat) (x : Nat) (hc12_ : Φ (x + 12) = some (o_ 12 [.ref (x + 13), .int 0, .int 0, .int 0])) : Ct G l yX10_has wsX10_has ({ frames := 0, cells := 0, slots := 0, locals := 0 }) 0 0 [.ref (x + 12), .int 7] Φ sz (fun v Φ1 sz1 => v = some (.int 0) ∧ sz1 = sz ∧ (∀ b9 : Nat, Φ1 b9 = Φ b9)) := by
  refine Ct.of (cc := cX10_has) (maxL := 2) (ret := (some .boolean)) (by decide) rfl (Nat.le_of_ble_eq_true rfl) ?_
  intro p9 e9 s9 m9 w9 t9 k9 B
  show Z p9 l e9 _ s9 m9 _ w9 t9 k9 _ G 2 0 [(0, .ref (x + 12)), (1, .int 7)] [] Φ sz 0 0
  refine z_iload_n B dX10_has_0 rfl 1 rfl ?_
  refine z_if_lt (tgt := 26) B dX10_has_1 rfl (fun h9 => absurd h9 (by decide)) (fun c_1 => ?_)
  refine z_iload_n B dX10_has_4 rfl 1 rfl ?_
  refine z_bipush (v := 9) B dX10_has_5 rfl ?_
  refine z_icmp_ge (tgt := 26) B dX10_has_7 rfl (fun h9 => absurd h9 (by decide)) (fun c_2 => ?_)
  refine z_aload_n B dX10_has_10 rfl 0 rfl ?_
  refine z_get (ref := "FlowExporter$Template") (C := RX10) (T := TX10) (N := 4) (ci := 12) (v := .int 0) B (by decide +kernel) rfl 2 (by decide) (by decide +kernel) rfl hc12_ rfl dX10_has_11 ?_
  refine z_iload_n B dX10_has_14 rfl 1 rfl ?_
  refine z_ishr B dX10_has_15 ?_
  refine z_top (st1 := [.int 0]) (congrArg (fun w9 : Int32 => ([.int w9] : List Value)) (show ((0 : Int32) >>> ((7 : Int32) &&& (31 : Int32)) : Int32) = 0 by decide +kernel)) ?_
  refine z_iconst (v := 1) B dX10_has_16 rfl ?_
  refine z_iand B dX10_has_17 ?_
  refine z_top (st1 := [.int 0]) (congrArg (fun w9 : Int32 => ([.int w9] : List Value)) (show (0 &&& 1 : Int32) = 0 by decide +kernel)) ?_
  refine z_iconst (v := 1) B dX10_has_18 rfl ?_
  refine z_icmp_ne (tgt := 26) B dX10_has_19 rfl (fun c_3 => ?_) (fun h9 => absurd h9 (by decide))
  refine z_iconst (v := 0) B dX10_has_26 rfl ?_
  exact z_ret_z B dX10_has_27 (by decide) ⟨rfl, rfl, (fun b9 => rfl)⟩

set_option maxHeartbeats 4000000 in
set_option maxRecDepth 100000 in
theorem f_X10_has_2_7 (G : EnvG) (l : Launch) (Φ : Hm) (sz : Nat) (x : Nat) (hc16_ : Φ (x + 16) = some (o_ 12 [.ref (x + 17), .int 0, .int 0, .int 0])) : Ct G l yX10_has wsX10_has ({ frames := 0, cells := 0, slots := 0, locals := 0 }) 0 0 [.ref (x + 16), .int 7] Φ sz (fun v Φ1 sz1 => v = some (.int 0) ∧ sz1 = sz ∧ (∀ b9 : Nat, Φ1 b9 = Φ b9)) := by
  refine Ct.of (cc := cX10_has) (maxL := 2) (ret := (some .boolean)) (by decide) rfl (Nat.le_of_ble_eq_true rfl) ?_
  intro p9 e9 s9 m9 w9 t9 k9 B
  show Z p9 l e9 _ s9 m9 _ w9 t9 k9 _ G 2 0 [(0, .ref (x + 16)), (1, .int 7)] [] Φ sz 0 0
  refine z_iload_n B dX10_has_0 rfl 1 rfl ?_
  refine z_if_lt (tgt := 26) B dX10_has_1 rfl (fun h9 => absurd h9 (by decide)) (fun c_1 => ?_)
  refine z_iload_n B dX10_has_4 rfl 1 rfl ?_
  refine z_bipush (v := 9) B dX10_has_5 rfl ?_
  refine z_icmp_ge (tgt := 26) B dX10_has_7 rfl (fun h9 => absurd h9 (by decide)) (fun c_2 => ?_)
  refine z_aload_n B dX10_has_10 rfl 0 rfl ?_
  refine z_get (ref := "FlowExporter$Template") (C := RX10) (T := TX10) (N := 4) (ci := 12) (v := .int 0) B (by decide +kernel) rfl 2 (by decide) (by decide +kernel) rfl hc16_ rfl dX10_has_11 ?_
  refine z_iload_n B dX10_has_14 rfl 1 rfl ?_
  refine z_ishr B dX10_has_15 ?_
  refine z_top (st1 := [.int 0]) (congrArg (fun w9 : Int32 => ([.int w9] : List Value)) (show ((0 : Int32) >>> ((7 : Int32) &&& (31 : Int32)) : Int32) = 0 by decide +kernel)) ?_
  refine z_iconst (v := 1) B dX10_has_16 rfl ?_
  refine z_iand B dX10_has_17 ?_
  refine z_top (st1 := [.int 0]) (congrArg (fun w9 : Int32 => ([.int w9] : List Value)) (show (0 &&& 1 : Int32) = 0 by decide +kernel)) ?_
  refine z_iconst (v := 1) B dX10_has_18 rfl ?_
  refine z_icmp_ne (tgt := 26) B dX10_has_19 rfl (fun c_3 => ?_) (fun h9 => absurd h9 (by decide))
  refine z_iconst (v := 0) B dX10_has_26 rfl ?_
  exact z_ret_z B dX10_has_27 (by decide) ⟨rfl, rfl, (fun b9 => rfl)⟩

set_option maxHeartbeats 4000000 in
set_option maxRecDepth 100000 in
theorem f_X10_has_3_7 (G : EnvG) (l : Launch) (Φ : Hm) (sz : Nat) (x : Nat) (hc20_ : Φ (x + 20) = some (o_ 12 [.ref (x + 21), .int 0, .int 0, .int 0])) : Ct G l yX10_has wsX10_has ({ frames := 0, cells := 0, slots := 0, locals := 0 }) 0 0 [.ref (x + 20), .int 7] Φ sz (fun v Φ1 sz1 => v = some (.int 0) ∧ sz1 = sz ∧ (∀ b9 : Nat, Φ1 b9 = Φ b9)) := by
  refine Ct.of (cc := cX10_has) (maxL := 2) (ret := (some .boolean)) (by decide) rfl (Nat.le_of_ble_eq_true rfl) ?_
  intro p9 e9 s9 m9 w9 t9 k9 B
  show Z p9 l e9 _ s9 m9 _ w9 t9 k9 _ G 2 0 [(0, .ref (x + 20)), (1, .int 7)] [] Φ sz 0 0
  refine z_iload_n B dX10_has_0 rfl 1 rfl ?_
  refine z_if_lt (tgt := 26) B dX10_has_1 rfl (fun h9 => absurd h9 (by decide)) (fun c_1 => ?_)
  refine z_iload_n B dX10_has_4 rfl 1 rfl ?_
  refine z_bipush (v := 9) B dX10_has_5 rfl ?_
  refine z_icmp_ge (tgt := 26) B dX10_has_7 rfl (fun h9 => absurd h9 (by decide)) (fun c_2 => ?_)
  refine z_aload_n B dX10_has_10 rfl 0 rfl ?_
  refine z_get (ref := "FlowExporter$Template") (C := RX10) (T := TX10) (N := 4) (ci := 12) (v := .int 0) B (by decide +kernel) rfl 2 (by decide) (by decide +kernel) rfl hc20_ rfl dX10_has_11 ?_
  refine z_iload_n B dX10_has_14 rfl 1 rfl ?_
  refine z_ishr B dX10_has_15 ?_
  refine z_top (st1 := [.int 0]) (congrArg (fun w9 : Int32 => ([.int w9] : List Value)) (show ((0 : Int32) >>> ((7 : Int32) &&& (31 : Int32)) : Int32) = 0 by decide +kernel)) ?_
  refine z_iconst (v := 1) B dX10_has_16 rfl ?_
  refine z_iand B dX10_has_17 ?_
  refine z_top (st1 := [.int 0]) (congrArg (fun w9 : Int32 => ([.int w9] : List Value)) (show (0 &&& 1 : Int32) = 0 by decide +kernel)) ?_
  refine z_iconst (v := 1) B dX10_has_18 rfl ?_
  refine z_icmp_ne (tgt := 26) B dX10_has_19 rfl (fun c_3 => ?_) (fun h9 => absurd h9 (by decide))
  refine z_iconst (v := 0) B dX10_has_26 rfl ?_
  exact z_ret_z B dX10_has_27 (by decide) ⟨rfl, rfl, (fun b9 => rfl)⟩

set_option maxHeartbeats 4000000 in
set_option maxRecDepth 100000 in
theorem f_X8_forget_7 (G : EnvG) (l : Launch) (Φ : Hm) (sz : Nat) (x : Nat) (u : Int32) (hc3_ : Φ (x + 3) = some (o_ 3 [.ref (x + 4), .ref (x + 5), .ref (x + 6), .ref (x + 7), .int 1, .int u])) (hc6_ : Φ (x + 6) = some (aq_ G 4 4 (va_up (va_up (va_up (va_up (fun _ => none) (0 : Int32).toNatClampNeg (some (x + 8))) (1 : Int32).toNatClampNeg (some (x + 12))) (2 : Int32).toNatClampNeg (some (x + 16))) (3 : Int32).toNatClampNeg (some (x + 20))))) (hc8_ : Φ (x + 8) = some (o_ 12 [.ref (x + 9), .int 9, .int 511, .int 29])) (hc12_ : Φ (x + 12) = some (o_ 12 [.ref (x + 13), .int 0, .int 0, .int 0])) (hc16_ : Φ (x + 16) = some (o_ 12 [.ref (x + 17), .int 0, .int 0, .int 0])) (hc20_ : Φ (x + 20) = some (o_ 12 [.ref (x + 21), .int 0, .int 0, .int 0])) (hc74_ : Φ (x + 74) = some (o_ 10 [.ref (x + 3), .ref (x + 46), .ref (x + 75), .ref (x + 77), .int 0, .ref (x + 78), .ref (x + 79), .int 0, .long 0, .int 0])) (hc78_ : Φ (x + 78) = some (ai_ G 4 (fun _ => 0))) (hna : G.2.2.2 ≤ x) : Ct G l yX8_forgetTemplatesWith wsX8_forgetTemplatesWith ({ frames := 1, cells := 0, slots := 0, locals := 21 }) 0 0 [.ref (x + 74), .int 7] Φ sz (fun v Φ1 sz1 => v = none ∧ sz1 = sz ∧ (∀ b9 : Nat, b9 ≠ x + 78 → Φ1 b9 = Φ b9) ∧ Φ1 (x + 78) = some (ai_ G 4 (upd (fun _ => 0) (0 : Int32).toNatClampNeg 0))) := by
  refine Ct.of (cc := cX8_forgetTemplatesWith) (maxL := 3) (ret := none) (by decide) rfl (Nat.le_of_ble_eq_true rfl) ?_
  intro p9 e9 s9 m9 w9 t9 k9 B
  show Z p9 l e9 _ s9 m9 _ w9 t9 k9 _ G 3 0 [(0, .ref (x + 74)), (1, .int 7)] [] Φ sz 0 0
  refine z_iconst (v := 0) B dX8_forgetTemplatesWith_0 rfl ?_
  refine z_istore_n (lv' := [(2, .int 0), (0, .ref (x + 74)), (1, .int 7)]) B dX8_forgetTemplatesWith_1 rfl (Nat.le_of_ble_eq_true rfl) rfl ?_
  refine z_iload_n B dX8_forgetTemplatesWith_2 rfl 0 rfl ?_
  refine z_iconst (v := 4) B dX8_forgetTemplatesWith_3 rfl ?_
  refine z_icmp_ge (tgt := 35) B dX8_forgetTemplatesWith_4 rfl (fun h9 => absurd h9 (by decide)) (fun c_1 => ?_)
  refine z_aload_n B dX8_forgetTemplatesWith_7 rfl 1 rfl ?_
  refine z_get (ref := "FlowExporter$Sender") (C := RX8) (T := TX8) (N := 10) (ci := 10) (v := .ref (x + 3)) B (by decide +kernel) rfl 0 (by decide) (by decide +kernel) rfl hc74_ rfl dX8_forgetTemplatesWith_8 ?_
  refine z_iload_n B dX8_forgetTemplatesWith_11 rfl 0 rfl ?_
  refine z_callV (As := [.int 0]) (rest := []) B (f_X1_template_u0 G l Φ sz x u hc3_ hc6_) (cwV 1 B.1.2.2.2.2 gX8_forgetTemplatesWith_X1_template rfl rfl rfl (by decide +kernel) ⟨Nat.le_of_ble_eq_true rfl, Nat.le_of_ble_eq_true rfl⟩) hc3_ rfl rfl rfl rfl (Nat.le_of_ble_eq_true rfl) dX8_forgetTemplatesWith_12 ⟨Nat.le_of_ble_eq_true rfl, Nat.le_of_ble_eq_true rfl⟩ (fun v1 Φ1 sz1 st1 hp1 hs1 => ?_)
  obtain ⟨rfl, hq1, fr1⟩ := hp1
  replace hq1 : sz1 = sz := hq1
  subst sz1
  replace hs1 : st1 = [.ref (x + 8)] := hs1
  subst st1
  refine z_iload_n B dX8_forgetTemplatesWith_15 rfl 2 rfl ?_
  have h_1 : Φ1 (x + 8) = some (o_ 12 [.ref (x + 9), .int 9, .int 511, .int 29]) := ((fr1 (x + 8)).trans hc8_)
  refine z_callV (As := [.int 7]) (rest := []) B (f_X10_has_0_7 G l Φ1 sz x h_1) (cwV 1 B.1.2.2.2.2 gX8_forgetTemplatesWith_X10_has rfl rfl rfl (by decide +kernel) ⟨Nat.le_of_ble_eq_true rfl, Nat.le_of_ble_eq_true rfl⟩) h_1 rfl rfl rfl rfl (Nat.le_of_ble_eq_true rfl) dX8_forgetTemplatesWith_16 ⟨Nat.le_of_ble_eq_true rfl, Nat.le_of_ble_eq_true rfl⟩ (fun v2 Φ2 sz2 st2 hp2 hs2 => ?_)
  obtain ⟨rfl, hq2, fr2⟩ := hp2
  replace hq2 : sz2 = sz := hq2
  subst sz2
  replace hs2 : st2 = [.int 1] := hs2
  subst st2
  refine z_if_eq (tgt := 29) B dX8_forgetTemplatesWith_19 rfl (fun h9 => absurd h9 (by decide)) (fun c_2 => ?_)
  refine z_aload_n B dX8_forgetTemplatesWith_22 rfl 1 rfl ?_
  have h_2 : Φ2 (x + 74) = some (o_ 10 [.ref (x + 3), .ref (x + 46), .ref (x + 75), .ref (x + 77), .int 0, .ref (x + 78), .ref (x + 79), .int 0, .long 0, .int 0]) := ((fr2 (x + 74)).trans ((fr1 (x + 74)).trans hc74_))
  refine z_get (ref := "FlowExporter$Sender") (C := RX8) (T := TX8) (N := 10) (ci := 10) (v := .ref (x + 78)) B (by decide +kernel) rfl 5 (by decide) (by decide +kernel) rfl h_2 rfl dX8_forgetTemplatesWith_23 ?_
  refine z_iload_n B dX8_forgetTemplatesWith_26 rfl 0 rfl ?_
  refine z_iconst (v := 0) B dX8_forgetTemplatesWith_27 rfl ?_
  have h_3 : Φ2 (x + 78) = some (ai_ G 4 (fun _ => 0)) := ((fr2 (x + 78)).trans ((fr1 (x + 78)).trans hc78_))
  refine z_iast B h_3 (Nat.le_trans hna (Nat.le_add_right x 78)) (vin rfl) dX8_forgetTemplatesWith_28 (fun Φ3 hΦ1 => ?_)
  have h_4 : Φ3 (x + 78) = some (ai_ G 4 (upd (fun _ => 0) (0 : Int32).toNatClampNeg 0)) := fset_at hΦ1
  refine z_iinc (k := 0) (v := 1) (lv' := [(2, .int 1), (0, .ref (x + 74)), (1, .int 7)]) B dX8_forgetTemplatesWith_29 rfl rfl (Nat.le_of_ble_eq_true rfl) rfl ?_
  refine z_goto (tgt := 2) B dX8_forgetTemplatesWith_32 rfl ?_
  refine z_iload_n B dX8_forgetTemplatesWith_2 rfl 0 rfl ?_
  refine z_iconst (v := 4) B dX8_forgetTemplatesWith_3 rfl ?_
  refine z_icmp_ge (tgt := 35) B dX8_forgetTemplatesWith_4 rfl (fun h9 => absurd h9 (by decide)) (fun c_3 => ?_)
  refine z_aload_n B dX8_forgetTemplatesWith_7 rfl 1 rfl ?_
  have h_5 : Φ3 (x + 74) = some (o_ 10 [.ref (x + 3), .ref (x + 46), .ref (x + 75), .ref (x + 77), .int 0, .ref (x + 78), .ref (x + 79), .int 0, .long 0, .int 0]) := ((fset_fr hΦ1 (ne_off (x := x) (i := 74) (j := 78) rfl)).trans h_2)
  refine z_get (ref := "FlowExporter$Sender") (C := RX8) (T := TX8) (N := 10) (ci := 10) (v := .ref (x + 3)) B (by decide +kernel) rfl 0 (by decide) (by decide +kernel) rfl h_5 rfl dX8_forgetTemplatesWith_8 ?_
  refine z_iload_n B dX8_forgetTemplatesWith_11 rfl 0 rfl ?_
  have h_6 : Φ3 (x + 3) = some (o_ 3 [.ref (x + 4), .ref (x + 5), .ref (x + 6), .ref (x + 7), .int 1, .int u]) := ((fset_fr hΦ1 (ne_off (x := x) (i := 3) (j := 78) rfl)).trans ((fr2 (x + 3)).trans ((fr1 (x + 3)).trans hc3_)))
  have h_7 : Φ3 (x + 6) = some (aq_ G 4 4 (va_up (va_up (va_up (va_up (fun _ => none) (0 : Int32).toNatClampNeg (some (x + 8))) (1 : Int32).toNatClampNeg (some (x + 12))) (2 : Int32).toNatClampNeg (some (x + 16))) (3 : Int32).toNatClampNeg (some (x + 20)))) := ((fset_fr hΦ1 (ne_off (x := x) (i := 6) (j := 78) rfl)).trans ((fr2 (x + 6)).trans ((fr1 (x + 6)).trans hc6_)))
  refine z_callV (As := [.int 1]) (rest := []) B (f_X1_template_u1 G l Φ3 sz x u h_6 h_7) (cwV 1 B.1.2.2.2.2 gX8_forgetTemplatesWith_X1_template rfl rfl rfl (by decide +kernel) ⟨Nat.le_of_ble_eq_true rfl, Nat.le_of_ble_eq_true rfl⟩) h_6 rfl rfl rfl rfl (Nat.le_of_ble_eq_true rfl) dX8_forgetTemplatesWith_12 ⟨Nat.le_of_ble_eq_true rfl, Nat.le_of_ble_eq_true rfl⟩ (fun v3 Φ4 sz3 st3 hp3 hs3 => ?_)
  obtain ⟨rfl, hq3, fr3⟩ := hp3
  replace hq3 : sz3 = sz := hq3
  subst sz3
  replace hs3 : st3 = [.ref (x + 12)] := hs3
  subst st3
  refine z_iload_n B dX8_forgetTemplatesWith_15 rfl 2 rfl ?_
  have h_8 : Φ4 (x + 12) = some (o_ 12 [.ref (x + 13), .int 0, .int 0, .int 0]) := ((fr3 (x + 12)).trans ((fset_fr hΦ1 (ne_off (x := x) (i := 12) (j := 78) rfl)).trans ((fr2 (x + 12)).trans ((fr1 (x + 12)).trans hc12_))))
  refine z_callV (As := [.int 7]) (rest := []) B (f_X10_has_1_7 G l Φ4 sz x h_8) (cwV 1 B.1.2.2.2.2 gX8_forgetTemplatesWith_X10_has rfl rfl rfl (by decide +kernel) ⟨Nat.le_of_ble_eq_true rfl, Nat.le_of_ble_eq_true rfl⟩) h_8 rfl rfl rfl rfl (Nat.le_of_ble_eq_true rfl) dX8_forgetTemplatesWith_16 ⟨Nat.le_of_ble_eq_true rfl, Nat.le_of_ble_eq_true rfl⟩ (fun v4 Φ5 sz4 st4 hp4 hs4 => ?_)
  obtain ⟨rfl, hq4, fr4⟩ := hp4
  replace hq4 : sz4 = sz := hq4
  subst sz4
  replace hs4 : st4 = [.int 0] := hs4
  subst st4
  refine z_if_eq (tgt := 29) B dX8_forgetTemplatesWith_19 rfl (fun c_4 => ?_) (fun h9 => absurd (by decide) h9)
  refine z_iinc (k := 0) (v := 2) (lv' := [(2, .int 2), (0, .ref (x + 74)), (1, .int 7)]) B dX8_forgetTemplatesWith_29 rfl rfl (Nat.le_of_ble_eq_true rfl) rfl ?_
  refine z_goto (tgt := 2) B dX8_forgetTemplatesWith_32 rfl ?_
  refine z_iload_n B dX8_forgetTemplatesWith_2 rfl 0 rfl ?_
  refine z_iconst (v := 4) B dX8_forgetTemplatesWith_3 rfl ?_
  refine z_icmp_ge (tgt := 35) B dX8_forgetTemplatesWith_4 rfl (fun h9 => absurd h9 (by decide)) (fun c_5 => ?_)
  refine z_aload_n B dX8_forgetTemplatesWith_7 rfl 1 rfl ?_
  have h_9 : Φ5 (x + 74) = some (o_ 10 [.ref (x + 3), .ref (x + 46), .ref (x + 75), .ref (x + 77), .int 0, .ref (x + 78), .ref (x + 79), .int 0, .long 0, .int 0]) := ((fr4 (x + 74)).trans ((fr3 (x + 74)).trans h_5))
  refine z_get (ref := "FlowExporter$Sender") (C := RX8) (T := TX8) (N := 10) (ci := 10) (v := .ref (x + 3)) B (by decide +kernel) rfl 0 (by decide) (by decide +kernel) rfl h_9 rfl dX8_forgetTemplatesWith_8 ?_
  refine z_iload_n B dX8_forgetTemplatesWith_11 rfl 0 rfl ?_
  have h_10 : Φ5 (x + 3) = some (o_ 3 [.ref (x + 4), .ref (x + 5), .ref (x + 6), .ref (x + 7), .int 1, .int u]) := ((fr4 (x + 3)).trans ((fr3 (x + 3)).trans h_6))
  have h_11 : Φ5 (x + 6) = some (aq_ G 4 4 (va_up (va_up (va_up (va_up (fun _ => none) (0 : Int32).toNatClampNeg (some (x + 8))) (1 : Int32).toNatClampNeg (some (x + 12))) (2 : Int32).toNatClampNeg (some (x + 16))) (3 : Int32).toNatClampNeg (some (x + 20)))) := ((fr4 (x + 6)).trans ((fr3 (x + 6)).trans h_7))
  refine z_callV (As := [.int 2]) (rest := []) B (f_X1_template_u2 G l Φ5 sz x u h_10 h_11) (cwV 1 B.1.2.2.2.2 gX8_forgetTemplatesWith_X1_template rfl rfl rfl (by decide +kernel) ⟨Nat.le_of_ble_eq_true rfl, Nat.le_of_ble_eq_true rfl⟩) h_10 rfl rfl rfl rfl (Nat.le_of_ble_eq_true rfl) dX8_forgetTemplatesWith_12 ⟨Nat.le_of_ble_eq_true rfl, Nat.le_of_ble_eq_true rfl⟩ (fun v5 Φ6 sz5 st5 hp5 hs5 => ?_)
  obtain ⟨rfl, hq5, fr5⟩ := hp5
  replace hq5 : sz5 = sz := hq5
  subst sz5
  replace hs5 : st5 = [.ref (x + 16)] := hs5
  subst st5
  refine z_iload_n B dX8_forgetTemplatesWith_15 rfl 2 rfl ?_
  have h_12 : Φ6 (x + 16) = some (o_ 12 [.ref (x + 17), .int 0, .int 0, .int 0]) := ((fr5 (x + 16)).trans ((fr4 (x + 16)).trans ((fr3 (x + 16)).trans ((fset_fr hΦ1 (ne_off (x := x) (i := 16) (j := 78) rfl)).trans ((fr2 (x + 16)).trans ((fr1 (x + 16)).trans hc16_))))))
  refine z_callV (As := [.int 7]) (rest := []) B (f_X10_has_2_7 G l Φ6 sz x h_12) (cwV 1 B.1.2.2.2.2 gX8_forgetTemplatesWith_X10_has rfl rfl rfl (by decide +kernel) ⟨Nat.le_of_ble_eq_true rfl, Nat.le_of_ble_eq_true rfl⟩) h_12 rfl rfl rfl rfl (Nat.le_of_ble_eq_true rfl) dX8_forgetTemplatesWith_16 ⟨Nat.le_of_ble_eq_true rfl, Nat.le_of_ble_eq_true rfl⟩ (fun v6 Φ7 sz6 st6 hp6 hs6 => ?_)
  obtain ⟨rfl, hq6, fr6⟩ := hp6
  replace hq6 : sz6 = sz := hq6
  subst sz6
  replace hs6 : st6 = [.int 0] := hs6
  subst st6
  refine z_if_eq (tgt := 29) B dX8_forgetTemplatesWith_19 rfl (fun c_6 => ?_) (fun h9 => absurd (by decide) h9)
  refine z_iinc (k := 0) (v := 3) (lv' := [(2, .int 3), (0, .ref (x + 74)), (1, .int 7)]) B dX8_forgetTemplatesWith_29 rfl rfl (Nat.le_of_ble_eq_true rfl) rfl ?_
  refine z_goto (tgt := 2) B dX8_forgetTemplatesWith_32 rfl ?_
  refine z_iload_n B dX8_forgetTemplatesWith_2 rfl 0 rfl ?_
  refine z_iconst (v := 4) B dX8_forgetTemplatesWith_3 rfl ?_
  refine z_icmp_ge (tgt := 35) B dX8_forgetTemplatesWith_4 rfl (fun h9 => absurd h9 (by decide)) (fun c_7 => ?_)
  refine z_aload_n B dX8_forgetTemplatesWith_7 rfl 1 rfl ?_
  have h_13 : Φ7 (x + 74) = some (o_ 10 [.ref (x + 3), .ref (x + 46), .ref (x + 75), .ref (x + 77), .int 0, .ref (x + 78), .ref (x + 79), .int 0, .long 0, .int 0]) := ((fr6 (x + 74)).trans ((fr5 (x + 74)).trans h_9))
  refine z_get (ref := "FlowExporter$Sender") (C := RX8) (T := TX8) (N := 10) (ci := 10) (v := .ref (x + 3)) B (by decide +kernel) rfl 0 (by decide) (by decide +kernel) rfl h_13 rfl dX8_forgetTemplatesWith_8 ?_
  refine z_iload_n B dX8_forgetTemplatesWith_11 rfl 0 rfl ?_
  have h_14 : Φ7 (x + 3) = some (o_ 3 [.ref (x + 4), .ref (x + 5), .ref (x + 6), .ref (x + 7), .int 1, .int u]) := ((fr6 (x + 3)).trans ((fr5 (x + 3)).trans h_10))
  have h_15 : Φ7 (x + 6) = some (aq_ G 4 4 (va_up (va_up (va_up (va_up (fun _ => none) (0 : Int32).toNatClampNeg (some (x + 8))) (1 : Int32).toNatClampNeg (some (x + 12))) (2 : Int32).toNatClampNeg (some (x + 16))) (3 : Int32).toNatClampNeg (some (x + 20)))) := ((fr6 (x + 6)).trans ((fr5 (x + 6)).trans h_11))
  refine z_callV (As := [.int 3]) (rest := []) B (f_X1_template_u3 G l Φ7 sz x u h_14 h_15) (cwV 1 B.1.2.2.2.2 gX8_forgetTemplatesWith_X1_template rfl rfl rfl (by decide +kernel) ⟨Nat.le_of_ble_eq_true rfl, Nat.le_of_ble_eq_true rfl⟩) h_14 rfl rfl rfl rfl (Nat.le_of_ble_eq_true rfl) dX8_forgetTemplatesWith_12 ⟨Nat.le_of_ble_eq_true rfl, Nat.le_of_ble_eq_true rfl⟩ (fun v7 Φ8 sz7 st7 hp7 hs7 => ?_)
  obtain ⟨rfl, hq7, fr7⟩ := hp7
  replace hq7 : sz7 = sz := hq7
  subst sz7
  replace hs7 : st7 = [.ref (x + 20)] := hs7
  subst st7
  refine z_iload_n B dX8_forgetTemplatesWith_15 rfl 2 rfl ?_
  have h_16 : Φ8 (x + 20) = some (o_ 12 [.ref (x + 21), .int 0, .int 0, .int 0]) := ((fr7 (x + 20)).trans ((fr6 (x + 20)).trans ((fr5 (x + 20)).trans ((fr4 (x + 20)).trans ((fr3 (x + 20)).trans ((fset_fr hΦ1 (ne_off (x := x) (i := 20) (j := 78) rfl)).trans ((fr2 (x + 20)).trans ((fr1 (x + 20)).trans hc20_))))))))
  refine z_callV (As := [.int 7]) (rest := []) B (f_X10_has_3_7 G l Φ8 sz x h_16) (cwV 1 B.1.2.2.2.2 gX8_forgetTemplatesWith_X10_has rfl rfl rfl (by decide +kernel) ⟨Nat.le_of_ble_eq_true rfl, Nat.le_of_ble_eq_true rfl⟩) h_16 rfl rfl rfl rfl (Nat.le_of_ble_eq_true rfl) dX8_forgetTemplatesWith_16 ⟨Nat.le_of_ble_eq_true rfl, Nat.le_of_ble_eq_true rfl⟩ (fun v8 Φ9 sz8 st8 hp8 hs8 => ?_)
  obtain ⟨rfl, hq8, fr8⟩ := hp8
  replace hq8 : sz8 = sz := hq8
  subst sz8
  replace hs8 : st8 = [.int 0] := hs8
  subst st8
  refine z_if_eq (tgt := 29) B dX8_forgetTemplatesWith_19 rfl (fun c_8 => ?_) (fun h9 => absurd (by decide) h9)
  refine z_iinc (k := 0) (v := 4) (lv' := [(2, .int 4), (0, .ref (x + 74)), (1, .int 7)]) B dX8_forgetTemplatesWith_29 rfl rfl (Nat.le_of_ble_eq_true rfl) rfl ?_
  refine z_goto (tgt := 2) B dX8_forgetTemplatesWith_32 rfl ?_
  refine z_iload_n B dX8_forgetTemplatesWith_2 rfl 0 rfl ?_
  refine z_iconst (v := 4) B dX8_forgetTemplatesWith_3 rfl ?_
  refine z_icmp_ge (tgt := 35) B dX8_forgetTemplatesWith_4 rfl (fun c_9 => ?_) (fun h9 => absurd (by decide) h9)
  have h_17 : Φ9 (x + 78) = some (ai_ G 4 (upd (fun _ => 0) (0 : Int32).toNatClampNeg 0)) := ((fr8 (x + 78)).trans ((fr7 (x + 78)).trans ((fr6 (x + 78)).trans ((fr5 (x + 78)).trans ((fr4 (x + 78)).trans ((fr3 (x + 78)).trans h_4))))))
  exact z_ret_v B dX8_forgetTemplatesWith_35 ⟨rfl, rfl, (fun b9 h9a => ((fr8 b9).trans ((fr7 b9).trans ((fr6 b9).trans ((fr5 b9).trans ((fr4 b9).trans ((fr3 b9).trans ((fset_fr hΦ1 h9a).trans ((fr2 b9).trans ((fr1 b9).trans rfl)))))))))), h_17⟩

set_option maxHeartbeats 4000000 in
set_option maxRecDepth 100000 in
theorem f_X11_setSupport_7_0 (G : EnvG) (l : Launch) (Φ : Hm) (sz : Nat) (x : Nat) (hc0_ : Φ x = some (o_ 13 [.ref (x + 1), .ref (x + 3), .ref (x + 24), .ref (x + 46), .ref (x + 74), .ref (x + 80), .ref (x + 132), .ref (x + 121)])) (hc3_ : Φ (x + 3) = some (o_ 3 [.ref (x + 4), .ref (x + 5), .ref (x + 6), .ref (x + 7), .int 1, .int 511])) (hc6_ : Φ (x + 6) = some (aq_ G 4 4 (va_up (va_up (va_up (va_up (fun _ => none) (0 : Int32).toNatClampNeg (some (x + 8))) (1 : Int32).toNatClampNeg (some (x + 12))) (2 : Int32).toNatClampNeg (some (x + 16))) (3 : Int32).toNatClampNeg (some (x + 20))))) (hc7_ : Φ (x + 7) = some (aq_ G 4 4 (va_up (va_up (va_up (va_up (fun _ => none) (0 : Int32).toNatClampNeg (some (x + 10))) (1 : Int32).toNatClampNeg (some (x + 14))) (2 : Int32).toNatClampNeg (some (x + 18))) (3 : Int32).toNatClampNeg (some (x + 22))))) (hc8_ : Φ (x + 8) = some (o_ 12 [.ref (x + 9), .int 9, .int 511, .int 29])) (hc9_ : Φ (x + 9) = some (ai_ G 9 (upd (upd (upd (upd (upd (upd (upd (upd (upd (fun _ => 0) (0 : Int32).toNatClampNeg 0) (1 : Int32).toNatClampNeg 1) (2 : Int32).toNatClampNeg 2) (3 : Int32).toNatClampNeg 3) (4 : Int32).toNatClampNeg 4) (5 : Int32).toNatClampNeg 5) (6 : Int32).toNatClampNeg 6) (7 : Int32).toNatClampNeg 7) (8 : Int32).toNatClampNeg 8))) (hc10_ : Φ (x + 10) = some (o_ 12 [.ref (x + 11), .int 9, .int 511, .int 29])) (hc11_ : Φ (x + 11) = some (ai_ G 9 (upd (upd (upd (upd (upd (upd (upd (upd (upd (fun _ => 0) (0 : Int32).toNatClampNeg 0) (1 : Int32).toNatClampNeg 1) (2 : Int32).toNatClampNeg 2) (3 : Int32).toNatClampNeg 3) (4 : Int32).toNatClampNeg 4) (5 : Int32).toNatClampNeg 5) (6 : Int32).toNatClampNeg 6) (7 : Int32).toNatClampNeg 7) (8 : Int32).toNatClampNeg 8))) (hc12_ : Φ (x + 12) = some (o_ 12 [.ref (x + 13), .int 0, .int 0, .int 0])) (hc14_ : Φ (x + 14) = some (o_ 12 [.ref (x + 15), .int 0, .int 0, .int 0])) (hc16_ : Φ (x + 16) = some (o_ 12 [.ref (x + 17), .int 0, .int 0, .int 0])) (hc18_ : Φ (x + 18) = some (o_ 12 [.ref (x + 19), .int 0, .int 0, .int 0])) (hc20_ : Φ (x + 20) = some (o_ 12 [.ref (x + 21), .int 0, .int 0, .int 0])) (hc22_ : Φ (x + 22) = some (o_ 12 [.ref (x + 23), .int 0, .int 0, .int 0])) (hc74_ : Φ (x + 74) = some (o_ 10 [.ref (x + 3), .ref (x + 46), .ref (x + 75), .ref (x + 77), .int 0, .ref (x + 78), .ref (x + 79), .int 0, .long 0, .int 0])) (hc78_ : Φ (x + 78) = some (ai_ G 4 (fun _ => 0))) (hna : G.2.2.2 ≤ x) : Ct G l yX11_setSupport wsX11_setSupport ({ frames := 3, cells := 0, slots := 0, locals := 67 }) 0 0 [.ref x, .int 7, .int 0] Φ sz (fun v Φ1 sz1 => v = some (.int 1) ∧ ∀ b9 : Nat, x + 149 ≤ b9 → Φ1 b9 = Φ b9) := by
  refine Ct.of (cc := cX11_setSupport) (maxL := 4) (ret := (some .boolean)) (by decide) rfl (Nat.le_of_ble_eq_true rfl) ?_
  intro p9 e9 s9 m9 w9 t9 k9 B
  show Z p9 l e9 _ s9 m9 _ w9 t9 k9 _ G 4 0 [(0, .ref x), (1, .int 7), (2, .int 0)] [] Φ sz 0 0
  refine z_iload_n B dX11_setSupport_0 rfl 1 rfl ?_
  refine z_if_lt (tgt := 10) B dX11_setSupport_1 rfl (fun h9 => absurd h9 (by decide)) (fun c_1 => ?_)
  refine z_iload_n B dX11_setSupport_4 rfl 1 rfl ?_
  refine z_bipush (v := 9) B dX11_setSupport_5 rfl ?_
  refine z_icmp_lt (tgt := 18) B dX11_setSupport_7 rfl (fun c_2 => ?_) (fun h9 => absurd (by decide) h9)
  refine z_aload_n B dX11_setSupport_18 rfl 0 rfl ?_
  refine z_get (ref := "FlowExporter") (C := RX11) (T := TX11) (N := 8) (ci := 13) (v := .ref (x + 3)) B (by decide +kernel) rfl 1 (by decide) (by decide +kernel) rfl hc0_ rfl dX11_setSupport_19 ?_
  refine z_get (ref := "FlowExporter$Config") (C := RX1) (T := TX1) (N := 6) (ci := 3) (v := .int 511) B (by decide +kernel) rfl 5 (by decide) (by decide +kernel) rfl hc3_ rfl dX11_setSupport_22 ?_
  refine z_iload_n B dX11_setSupport_25 rfl 1 rfl ?_
  refine z_ishr B dX11_setSupport_26 ?_
  refine z_top (st1 := [.int 3]) (congrArg (fun w9 : Int32 => ([.int w9] : List Value)) (show ((511 : Int32) >>> ((7 : Int32) &&& (31 : Int32)) : Int32) = 3 by decide +kernel)) ?_
  refine z_iconst (v := 1) B dX11_setSupport_27 rfl ?_
  refine z_iand B dX11_setSupport_28 ?_
  refine z_top (st1 := [.int 1]) (congrArg (fun w9 : Int32 => ([.int w9] : List Value)) (show (3 &&& 1 : Int32) = 1 by decide +kernel)) ?_
  refine z_iconst (v := 1) B dX11_setSupport_29 rfl ?_
  refine z_icmp_ne (tgt := 37) B dX11_setSupport_30 rfl (fun h9 => absurd (by decide) h9) (fun c_3 => ?_)
  refine z_iconst (v := 1) B dX11_setSupport_33 rfl ?_
  refine z_goto (tgt := 38) B dX11_setSupport_34 rfl ?_
  refine z_istore_n (lv' := [(3, .int 1), (0, .ref x), (1, .int 7), (2, .int 0)]) B dX11_setSupport_38 rfl (Nat.le_of_ble_eq_true rfl) rfl ?_
  refine z_iload_n B dX11_setSupport_39 rfl 0 rfl ?_
  refine z_iload_n B dX11_setSupport_40 rfl 3 rfl ?_
  refine z_icmp_eq (tgt := 70) B dX11_setSupport_41 rfl (fun h9 => absurd h9 (by decide)) (fun c_4 => ?_)
  refine z_aload_n B dX11_setSupport_44 rfl 1 rfl ?_
  refine z_get (ref := "FlowExporter") (C := RX11) (T := TX11) (N := 8) (ci := 13) (v := .ref (x + 3)) B (by decide +kernel) rfl 1 (by decide) (by decide +kernel) rfl hc0_ rfl dX11_setSupport_45 ?_
  refine z_aload_n B dX11_setSupport_48 rfl 1 rfl ?_
  refine z_get (ref := "FlowExporter") (C := RX11) (T := TX11) (N := 8) (ci := 13) (v := .ref (x + 3)) B (by decide +kernel) rfl 1 (by decide) (by decide +kernel) rfl hc0_ rfl dX11_setSupport_49 ?_
  refine z_get (ref := "FlowExporter$Config") (C := RX1) (T := TX1) (N := 6) (ci := 3) (v := .int 511) B (by decide +kernel) rfl 5 (by decide) (by decide +kernel) rfl hc3_ rfl dX11_setSupport_52 ?_
  refine z_iconst (v := 1) B dX11_setSupport_55 rfl ?_
  refine z_iload_n B dX11_setSupport_56 rfl 2 rfl ?_
  refine z_ishl B dX11_setSupport_57 ?_
  refine z_top (st1 := [.int 128, .int 511, .ref (x + 3)]) (congrArg (fun w9 : Int32 => ([.int w9, .int 511, .ref (x + 3)] : List Value)) (show ((1 : Int32) <<< ((7 : Int32) &&& (31 : Int32)) : Int32) = 128 by decide +kernel)) ?_
  refine z_ixor B dX11_setSupport_58 ?_
  refine z_top (st1 := [.int 383, .ref (x + 3)]) (congrArg (fun w9 : Int32 => ([.int w9, .ref (x + 3)] : List Value)) (show (511 ^^^ 128 : Int32) = 383 by decide +kernel)) ?_
  refine z_callV (As := [.int 383]) (rest := []) B (f_X1_support_s7 G l Φ sz x hc3_ hc6_ hc7_ hc8_ hc9_ hc10_ hc11_ hc12_ hc14_ hc16_ hc18_ hc20_ hc22_ hna) (cwV 1 B.1.2.2.2.2 gX11_setSupport_X1_support rfl rfl rfl (by decide +kernel) ⟨Nat.le_of_ble_eq_true rfl, Nat.le_of_ble_eq_true rfl⟩) hc3_ rfl rfl rfl rfl (Nat.le_of_ble_eq_true rfl) dX11_setSupport_59 ⟨Nat.le_of_ble_eq_true rfl, Nat.le_of_ble_eq_true rfl⟩ (fun v1 Φ1 sz1 st1 hp1 hs1 => ?_)
  obtain ⟨rfl, hq1, fr1, h_1, h_2, h_3, h_4, h_5, h_6⟩ := hp1
  replace hq1 : sz1 = sz := hq1
  subst sz1
  replace hs1 : st1 = [] := hs1
  subst st1
  have h_7 : Φ1 (x + 10) = some (o_ 12 [.ref (x + 11), .int 8, .int 383, .int 25]) := h_1
  have h_8 : Φ1 (x + 11) = some (ai_ G 9 (upd (upd (upd (upd (upd (upd (upd (upd (upd (upd (upd (upd (upd (upd (upd (upd (upd (fun _ => 0) (0 : Int32).toNatClampNeg 0) (1 : Int32).toNatClampNeg 1) (2 : Int32).toNatClampNeg 2) (3 : Int32).toNatClampNeg 3) (4 : Int32).toNatClampNeg 4) (5 : Int32).toNatClampNeg 5) (6 : Int32).toNatClampNeg 6) (7 : Int32).toNatClampNeg 7) (8 : Int32).toNatClampNeg 8) (0 : Int32).toNatClampNeg 0) (1 : Int32).toNatClampNeg 1) (2 : Int32).toNatClampNeg 2) (3 : Int32).toNatClampNeg 3) (4 : Int32).toNatClampNeg 4) (5 : Int32).toNatClampNeg 5) (6 : Int32).toNatClampNeg 6) (7 : Int32).toNatClampNeg 8)) := h_2
  have h_9 : Φ1 (x + 14) = some (o_ 12 [.ref (x + 15), .int 0, .int 0, .int 0]) := h_3
  have h_10 : Φ1 (x + 18) = some (o_ 12 [.ref (x + 19), .int 0, .int 0, .int 0]) := h_4
  have h_11 : Φ1 (x + 22) = some (o_ 12 [.ref (x + 23), .int 0, .int 0, .int 0]) := h_5
  have h_12 : Φ1 (x + 3) = some (o_ 3 [.ref (x + 4), .ref (x + 5), .ref (x + 6), .ref (x + 7), .int 1, .int 383]) := h_6
  refine z_aload_n B dX11_setSupport_62 rfl 1 rfl ?_
  have h_13 : Φ1 x = some (o_ 13 [.ref (x + 1), .ref (x + 3), .ref (x + 24), .ref (x + 46), .ref (x + 74), .ref (x + 80), .ref (x + 132), .ref (x + 121)]) := ((fr1 x (ne_off (x := x) (i := 0) (j := 10) rfl) (ne_off (x := x) (i := 0) (j := 11) rfl) (ne_off (x := x) (i := 0) (j := 14) rfl) (ne_off (x := x) (i := 0) (j := 18) rfl) (ne_off (x := x) (i := 0) (j := 22) rfl) (ne_off (x := x) (i := 0) (j := 3) rfl)).trans hc0_)
  refine z_get (ref := "FlowExporter") (C := RX11) (T := TX11) (N := 8) (ci := 13) (v := .ref (x + 74)) B (by decide +kernel) rfl 4 (by decide) (by decide +kernel) rfl h_13 rfl dX11_setSupport_63 ?_
  refine z_iload_n B dX11_setSupport_66 rfl 2 rfl ?_
  have h_14 : Φ1 (x + 6) = some (aq_ G 4 4 (va_up (va_up (va_up (va_up (fun _ => none) (0 : Int32).toNatClampNeg (some (x + 8))) (1 : Int32).toNatClampNeg (some (x + 12))) (2 : Int32).toNatClampNeg (some (x + 16))) (3 : Int32).toNatClampNeg (some (x + 20)))) := ((fr1 (x + 6) (ne_off (x := x) (i := 6) (j := 10) rfl) (ne_off (x := x) (i := 6) (j := 11) rfl) (ne_off (x := x) (i := 6) (j := 14) rfl) (ne_off (x := x) (i := 6) (j := 18) rfl) (ne_off (x := x) (i := 6) (j := 22) rfl) (ne_off (x := x) (i := 6) (j := 3) rfl)).trans hc6_)
  have h_15 : Φ1 (x + 8) = some (o_ 12 [.ref (x + 9), .int 9, .int 511, .int 29]) := ((fr1 (x + 8) (ne_off (x := x) (i := 8) (j := 10) rfl) (ne_off (x := x) (i := 8) (j := 11) rfl) (ne_off (x := x) (i := 8) (j := 14) rfl) (ne_off (x := x) (i := 8) (j := 18) rfl) (ne_off (x := x) (i := 8) (j := 22) rfl) (ne_off (x := x) (i := 8) (j := 3) rfl)).trans hc8_)
  have h_16 : Φ1 (x + 12) = some (o_ 12 [.ref (x + 13), .int 0, .int 0, .int 0]) := ((fr1 (x + 12) (ne_off (x := x) (i := 12) (j := 10) rfl) (ne_off (x := x) (i := 12) (j := 11) rfl) (ne_off (x := x) (i := 12) (j := 14) rfl) (ne_off (x := x) (i := 12) (j := 18) rfl) (ne_off (x := x) (i := 12) (j := 22) rfl) (ne_off (x := x) (i := 12) (j := 3) rfl)).trans hc12_)
  have h_17 : Φ1 (x + 16) = some (o_ 12 [.ref (x + 17), .int 0, .int 0, .int 0]) := ((fr1 (x + 16) (ne_off (x := x) (i := 16) (j := 10) rfl) (ne_off (x := x) (i := 16) (j := 11) rfl) (ne_off (x := x) (i := 16) (j := 14) rfl) (ne_off (x := x) (i := 16) (j := 18) rfl) (ne_off (x := x) (i := 16) (j := 22) rfl) (ne_off (x := x) (i := 16) (j := 3) rfl)).trans hc16_)
  have h_18 : Φ1 (x + 20) = some (o_ 12 [.ref (x + 21), .int 0, .int 0, .int 0]) := ((fr1 (x + 20) (ne_off (x := x) (i := 20) (j := 10) rfl) (ne_off (x := x) (i := 20) (j := 11) rfl) (ne_off (x := x) (i := 20) (j := 14) rfl) (ne_off (x := x) (i := 20) (j := 18) rfl) (ne_off (x := x) (i := 20) (j := 22) rfl) (ne_off (x := x) (i := 20) (j := 3) rfl)).trans hc20_)
  have h_19 : Φ1 (x + 74) = some (o_ 10 [.ref (x + 3), .ref (x + 46), .ref (x + 75), .ref (x + 77), .int 0, .ref (x + 78), .ref (x + 79), .int 0, .long 0, .int 0]) := ((fr1 (x + 74) (ne_off (x := x) (i := 74) (j := 10) rfl) (ne_off (x := x) (i := 74) (j := 11) rfl) (ne_off (x := x) (i := 74) (j := 14) rfl) (ne_off (x := x) (i := 74) (j := 18) rfl) (ne_off (x := x) (i := 74) (j := 22) rfl) (ne_off (x := x) (i := 74) (j := 3) rfl)).trans hc74_)
  have h_20 : Φ1 (x + 78) = some (ai_ G 4 (fun _ => 0)) := ((fr1 (x + 78) (ne_off (x := x) (i := 78) (j := 10) rfl) (ne_off (x := x) (i := 78) (j := 11) rfl) (ne_off (x := x) (i := 78) (j := 14) rfl) (ne_off (x := x) (i := 78) (j := 18) rfl) (ne_off (x := x) (i := 78) (j := 22) rfl) (ne_off (x := x) (i := 78) (j := 3) rfl)).trans hc78_)
  refine z_callV (As := [.int 7]) (rest := []) B (f_X8_forget_7 G l Φ1 sz x 383 h_12 h_14 h_15 h_16 h_17 h_18 h_19 h_20 hna) (cwV 1 B.1.2.2.2.2 gX11_setSupport_X8_forgetTemplatesWith rfl rfl rfl (by decide +kernel) ⟨Nat.le_of_ble_eq_true rfl, Nat.le_of_ble_eq_true rfl⟩) h_19 rfl rfl rfl rfl (Nat.le_of_ble_eq_true rfl) dX11_setSupport_67 ⟨Nat.le_of_ble_eq_true rfl, Nat.le_of_ble_eq_true rfl⟩ (fun v2 Φ2 sz2 st2 hp2 hs2 => ?_)
  obtain ⟨rfl, hq2, fr2, h_21⟩ := hp2
  replace hq2 : sz2 = sz := hq2
  subst sz2
  replace hs2 : st2 = [] := hs2
  subst st2
  have h_22 : Φ2 (x + 78) = some (ai_ G 4 (upd (fun _ => 0) (0 : Int32).toNatClampNeg 0)) := h_21
  refine z_iload_n B dX11_setSupport_70 rfl 0 rfl ?_
  exact z_ret_z B dX11_setSupport_71 (by decide) ⟨rfl, fun b9 h9 => ((fr2 b9 (Nat.ne_of_gt (Nat.lt_of_lt_of_le (lt_off (x := x) (i := 78) (j := 149) rfl) h9))).trans ((fr1 b9 (Nat.ne_of_gt (Nat.lt_of_lt_of_le (lt_off (x := x) (i := 10) (j := 149) rfl) h9)) (Nat.ne_of_gt (Nat.lt_of_lt_of_le (lt_off (x := x) (i := 11) (j := 149) rfl) h9)) (Nat.ne_of_gt (Nat.lt_of_lt_of_le (lt_off (x := x) (i := 14) (j := 149) rfl) h9)) (Nat.ne_of_gt (Nat.lt_of_lt_of_le (lt_off (x := x) (i := 18) (j := 149) rfl) h9)) (Nat.ne_of_gt (Nat.lt_of_lt_of_le (lt_off (x := x) (i := 22) (j := 149) rfl) h9)) (Nat.ne_of_gt (Nat.lt_of_lt_of_le (lt_off (x := x) (i := 3) (j := 149) rfl) h9))).trans rfl))⟩

set_option maxHeartbeats 4000000 in
set_option maxRecDepth 100000 in
theorem f_X11_setSupport_7_1 (G : EnvG) (l : Launch) (Φ : Hm) (sz : Nat) (x : Nat) (hc0_ : Φ x = some (o_ 13 [.ref (x + 1), .ref (x + 3), .ref (x + 24), .ref (x + 46), .ref (x + 74), .ref (x + 80), .ref (x + 132), .ref (x + 121)])) (hc3_ : Φ (x + 3) = some (o_ 3 [.ref (x + 4), .ref (x + 5), .ref (x + 6), .ref (x + 7), .int 1, .int 511])) : Ct G l yX11_setSupport wsX11_setSupport ({ frames := 0, cells := 0, slots := 0, locals := 0 }) 0 0 [.ref x, .int 7, .int 1] Φ sz (fun v Φ1 sz1 => v = some (.int 1) ∧ ∀ b9 : Nat, x + 149 ≤ b9 → Φ1 b9 = Φ b9) := by
  refine Ct.of (cc := cX11_setSupport) (maxL := 4) (ret := (some .boolean)) (by decide) rfl (Nat.le_of_ble_eq_true rfl) ?_
  intro p9 e9 s9 m9 w9 t9 k9 B
  show Z p9 l e9 _ s9 m9 _ w9 t9 k9 _ G 4 0 [(0, .ref x), (1, .int 7), (2, .int 1)] [] Φ sz 0 0
  refine z_iload_n B dX11_setSupport_0 rfl 1 rfl ?_
  refine z_if_lt (tgt := 10) B dX11_setSupport_1 rfl (fun h9 => absurd h9 (by decide)) (fun c_1 => ?_)
  refine z_iload_n B dX11_setSupport_4 rfl 1 rfl ?_
  refine z_bipush (v := 9) B dX11_setSupport_5 rfl ?_
  refine z_icmp_lt (tgt := 18) B dX11_setSupport_7 rfl (fun c_2 => ?_) (fun h9 => absurd (by decide) h9)
  refine z_aload_n B dX11_setSupport_18 rfl 0 rfl ?_
  refine z_get (ref := "FlowExporter") (C := RX11) (T := TX11) (N := 8) (ci := 13) (v := .ref (x + 3)) B (by decide +kernel) rfl 1 (by decide) (by decide +kernel) rfl hc0_ rfl dX11_setSupport_19 ?_
  refine z_get (ref := "FlowExporter$Config") (C := RX1) (T := TX1) (N := 6) (ci := 3) (v := .int 511) B (by decide +kernel) rfl 5 (by decide) (by decide +kernel) rfl hc3_ rfl dX11_setSupport_22 ?_
  refine z_iload_n B dX11_setSupport_25 rfl 1 rfl ?_
  refine z_ishr B dX11_setSupport_26 ?_
  refine z_top (st1 := [.int 3]) (congrArg (fun w9 : Int32 => ([.int w9] : List Value)) (show ((511 : Int32) >>> ((7 : Int32) &&& (31 : Int32)) : Int32) = 3 by decide +kernel)) ?_
  refine z_iconst (v := 1) B dX11_setSupport_27 rfl ?_
  refine z_iand B dX11_setSupport_28 ?_
  refine z_top (st1 := [.int 1]) (congrArg (fun w9 : Int32 => ([.int w9] : List Value)) (show (3 &&& 1 : Int32) = 1 by decide +kernel)) ?_
  refine z_iconst (v := 1) B dX11_setSupport_29 rfl ?_
  refine z_icmp_ne (tgt := 37) B dX11_setSupport_30 rfl (fun h9 => absurd (by decide) h9) (fun c_3 => ?_)
  refine z_iconst (v := 1) B dX11_setSupport_33 rfl ?_
  refine z_goto (tgt := 38) B dX11_setSupport_34 rfl ?_
  refine z_istore_n (lv' := [(3, .int 1), (0, .ref x), (1, .int 7), (2, .int 1)]) B dX11_setSupport_38 rfl (Nat.le_of_ble_eq_true rfl) rfl ?_
  refine z_iload_n B dX11_setSupport_39 rfl 0 rfl ?_
  refine z_iload_n B dX11_setSupport_40 rfl 3 rfl ?_
  refine z_icmp_eq (tgt := 70) B dX11_setSupport_41 rfl (fun c_4 => ?_) (fun h9 => absurd (by decide) h9)
  refine z_iload_n B dX11_setSupport_70 rfl 0 rfl ?_
  exact z_ret_z B dX11_setSupport_71 (by decide) ⟨rfl, fun b9 h9 => rfl⟩

set_option maxHeartbeats 4000000 in
set_option maxRecDepth 100000 in
theorem f_X10_has_0_8 (G : EnvG) (l : Launch) (Φ : Hm) (sz : Nat) (x : Nat) (hc8_ : Φ (x + 8) = some (o_ 12 [.ref (x + 9), .int 9, .int 511, .int 29])) : Ct G l yX10_has wsX10_has ({ frames := 0, cells := 0, slots := 0, locals := 0 }) 0 0 [.ref (x + 8), .int 8] Φ sz (fun v Φ1 sz1 => v = some (.int 1) ∧ sz1 = sz ∧ (∀ b9 : Nat, Φ1 b9 = Φ b9)) := by
  refine Ct.of (cc := cX10_has) (maxL := 2) (ret := (some .boolean)) (by decide) rfl (Nat.le_of_ble_eq_true rfl) ?_
  intro p9 e9 s9 m9 w9 t9 k9 B
  show Z p9 l e9 _ s9 m9 _ w9 t9 k9 _ G 2 0 [(0, .ref (x + 8)), (1, .int 8)] [] Φ sz 0 0
  refine z_iload_n B dX10_has_0 rfl 1 rfl ?_
  refine z_if_lt (tgt := 26) B dX10_has_1 rfl (fun h9 => absurd h9 (by decide)) (fun c_1 => ?_)
  refine z_iload_n B dX10_has_4 rfl 1 rfl ?_
  refine z_bipush (v := 9) B dX10_has_5 rfl ?_
  refine z_icmp_ge (tgt := 26) B dX10_has_7 rfl (fun h9 => absurd h9 (by decide)) (fun c_2 => ?_)
  refine z_aload_n B dX10_has_10 rfl 0 rfl ?_
  refine z_get (ref := "FlowExporter$Template") (C := RX10) (T := TX10) (N := 4) (ci := 12) (v := .int 511) B (by decide +kernel) rfl 2 (by decide) (by decide +kernel) rfl hc8_ rfl dX10_has_11 ?_
  refine z_iload_n B dX10_has_14 rfl 1 rfl ?_
  refine z_ishr B dX10_has_15 ?_
  refine z_top (st1 := [.int 1]) (congrArg (fun w9 : Int32 => ([.int w9] : List Value)) (show ((511 : Int32) >>> ((8 : Int32) &&& (31 : Int32)) : Int32) = 1 by decide +kernel)) ?_
  refine z_iconst (v := 1) B dX10_has_16 rfl ?_
  refine z_iand B dX10_has_17 ?_
  refine z_top (st1 := [.int 1]) (congrArg (fun w9 : Int32 => ([.int w9] : List Value)) (show (1 &&& 1 : Int32) = 1 by decide +kernel)) ?_
  refine z_iconst (v := 1) B dX10_has_18 rfl ?_
  refine z_icmp_ne (tgt := 26) B dX10_has_19 rfl (fun h9 => absurd (by decide) h9) (fun c_3 => ?_)
  refine z_iconst (v := 1) B dX10_has_22 rfl ?_
  refine z_goto (tgt := 27) B dX10_has_23 rfl ?_
  exact z_ret_z B dX10_has_27 (by decide) ⟨rfl, rfl, (fun b9 => rfl)⟩

set_option maxHeartbeats 4000000 in
set_option maxRecDepth 100000 in
theorem f_X10_has_1_8 (G : EnvG) (l : Launch) (Φ : Hm) (sz : Nat) (x : Nat) (hc12_ : Φ (x + 12) = some (o_ 12 [.ref (x + 13), .int 0, .int 0, .int 0])) : Ct G l yX10_has wsX10_has ({ frames := 0, cells := 0, slots := 0, locals := 0 }) 0 0 [.ref (x + 12), .int 8] Φ sz (fun v Φ1 sz1 => v = some (.int 0) ∧ sz1 = sz ∧ (∀ b9 : Nat, Φ1 b9 = Φ b9)) := by
  refine Ct.of (cc := cX10_has) (maxL := 2) (ret := (some .boolean)) (by decide) rfl (Nat.le_of_ble_eq_true rfl) ?_
  intro p9 e9 s9 m9 w9 t9 k9 B
  show Z p9 l e9 _ s9 m9 _ w9 t9 k9 _ G 2 0 [(0, .ref (x + 12)), (1, .int 8)] [] Φ sz 0 0
  refine z_iload_n B dX10_has_0 rfl 1 rfl ?_
  refine z_if_lt (tgt := 26) B dX10_has_1 rfl (fun h9 => absurd h9 (by decide)) (fun c_1 => ?_)
  refine z_iload_n B dX10_has_4 rfl 1 rfl ?_
  refine z_bipush (v := 9) B dX10_has_5 rfl ?_
  refine z_icmp_ge (tgt := 26) B dX10_has_7 rfl (fun h9 => absurd h9 (by decide)) (fun c_2 => ?_)
  refine z_aload_n B dX10_has_10 rfl 0 rfl ?_
  refine z_get (ref := "FlowExporter$Template") (C := RX10) (T := TX10) (N := 4) (ci := 12) (v := .int 0) B (by decide +kernel) rfl 2 (by decide) (by decide +kernel) rfl hc12_ rfl dX10_has_11 ?_
  refine z_iload_n B dX10_has_14 rfl 1 rfl ?_
  refine z_ishr B dX10_has_15 ?_
  refine z_top (st1 := [.int 0]) (congrArg (fun w9 : Int32 => ([.int w9] : List Value)) (show ((0 : Int32) >>> ((8 : Int32) &&& (31 : Int32)) : Int32) = 0 by decide +kernel)) ?_
  refine z_iconst (v := 1) B dX10_has_16 rfl ?_
  refine z_iand B dX10_has_17 ?_
  refine z_top (st1 := [.int 0]) (congrArg (fun w9 : Int32 => ([.int w9] : List Value)) (show (0 &&& 1 : Int32) = 0 by decide +kernel)) ?_
  refine z_iconst (v := 1) B dX10_has_18 rfl ?_
  refine z_icmp_ne (tgt := 26) B dX10_has_19 rfl (fun c_3 => ?_) (fun h9 => absurd h9 (by decide))
  refine z_iconst (v := 0) B dX10_has_26 rfl ?_
  exact z_ret_z B dX10_has_27 (by decide) ⟨rfl, rfl, (fun b9 => rfl)⟩

set_option maxHeartbeats 4000000 in
set_option maxRecDepth 100000 in
theorem f_X10_has_2_8 (G : EnvG) (l : Launch) (Φ : Hm) (sz : Nat) (x : Nat) (hc16_ : Φ (x + 16) = some (o_ 12 [.ref (x + 17), .int 0, .int 0, .int 0])) : Ct G l yX10_has wsX10_has ({ frames := 0, cells := 0, slots := 0, locals := 0 }) 0 0 [.ref (x + 16), .int 8] Φ sz (fun v Φ1 sz1 => v = some (.int 0) ∧ sz1 = sz ∧ (∀ b9 : Nat, Φ1 b9 = Φ b9)) := by
  refine Ct.of (cc := cX10_has) (maxL := 2) (ret := (some .boolean)) (by decide) rfl (Nat.le_of_ble_eq_true rfl) ?_
  intro p9 e9 s9 m9 w9 t9 k9 B
  show Z p9 l e9 _ s9 m9 _ w9 t9 k9 _ G 2 0 [(0, .ref (x + 16)), (1, .int 8)] [] Φ sz 0 0
  refine z_iload_n B dX10_has_0 rfl 1 rfl ?_
  refine z_if_lt (tgt := 26) B dX10_has_1 rfl (fun h9 => absurd h9 (by decide)) (fun c_1 => ?_)
  refine z_iload_n B dX10_has_4 rfl 1 rfl ?_
  refine z_bipush (v := 9) B dX10_has_5 rfl ?_
  refine z_icmp_ge (tgt := 26) B dX10_has_7 rfl (fun h9 => absurd h9 (by decide)) (fun c_2 => ?_)
  refine z_aload_n B dX10_has_10 rfl 0 rfl ?_
  refine z_get (ref := "FlowExporter$Template") (C := RX10) (T := TX10) (N := 4) (ci := 12) (v := .int 0) B (by decide +kernel) rfl 2 (by decide) (by decide +kernel) rfl hc16_ rfl dX10_has_11 ?_
  refine z_iload_n B dX10_has_14 rfl 1 rfl ?_
  refine z_ishr B dX10_has_15 ?_
  refine z_top (st1 := [.int 0]) (congrArg (fun w9 : Int32 => ([.int w9] : List Value)) (show ((0 : Int32) >>> ((8 : Int32) &&& (31 : Int32)) : Int32) = 0 by decide +kernel)) ?_
  refine z_iconst (v := 1) B dX10_has_16 rfl ?_
  refine z_iand B dX10_has_17 ?_
  refine z_top (st1 := [.int 0]) (congrArg (fun w9 : Int32 => ([.int w9] : List Value)) (show (0 &&& 1 : Int32) = 0 by decide +kernel)) ?_
  refine z_iconst (v := 1) B dX10_has_18 rfl ?_
  refine z_icmp_ne (tgt := 26) B dX10_has_19 rfl (fun c_3 => ?_) (fun h9 => absurd h9 (by decide))
  refine z_iconst (v := 0) B dX10_has_26 rfl ?_
  exact z_ret_z B dX10_has_27 (by decide) ⟨rfl, rfl, (fun b9 => rfl)⟩

set_option maxHeartbeats 4000000 in
set_option maxRecDepth 100000 in
theorem f_X10_has_3_8 (G : EnvG) (l : Launch) (Φ : Hm) (sz : Nat) (x : Nat) (hc20_ : Φ (x + 20) = some (o_ 12 [.ref (x + 21), .int 0, .int 0, .int 0])) : Ct G l yX10_has wsX10_has ({ frames := 0, cells := 0, slots := 0, locals := 0 }) 0 0 [.ref (x + 20), .int 8] Φ sz (fun v Φ1 sz1 => v = some (.int 0) ∧ sz1 = sz ∧ (∀ b9 : Nat, Φ1 b9 = Φ b9)) := by
  refine Ct.of (cc := cX10_has) (maxL := 2) (ret := (some .boolean)) (by decide) rfl (Nat.le_of_ble_eq_true rfl) ?_
  intro p9 e9 s9 m9 w9 t9 k9 B
  show Z p9 l e9 _ s9 m9 _ w9 t9 k9 _ G 2 0 [(0, .ref (x + 20)), (1, .int 8)] [] Φ sz 0 0
  refine z_iload_n B dX10_has_0 rfl 1 rfl ?_
  refine z_if_lt (tgt := 26) B dX10_has_1 rfl (fun h9 => absurd h9 (by decide)) (fun c_1 => ?_)
  refine z_iload_n B dX10_has_4 rfl 1 rfl ?_
  refine z_bipush (v := 9) B dX10_has_5 rfl ?_
  refine z_icmp_ge (tgt := 26) B dX10_has_7 rfl (fun h9 => absurd h9 (by decide)) (fun c_2 => ?_)
  refine z_aload_n B dX10_has_10 rfl 0 rfl ?_
  refine z_get (ref := "FlowExporter$Template") (C := RX10) (T := TX10) (N := 4) (ci := 12) (v := .int 0) B (by decide +kernel) rfl 2 (by decide) (by decide +kernel) rfl hc20_ rfl dX10_has_11 ?_
  refine z_iload_n B dX10_has_14 rfl 1 rfl ?_
  refine z_ishr B dX10_has_15 ?_
  refine z_top (st1 := [.int 0]) (congrArg (fun w9 : Int32 => ([.int w9] : List Value)) (show ((0 : Int32) >>> ((8 : Int32) &&& (31 : Int32)) : Int32) = 0 by decide +kernel)) ?_
  refine z_iconst (v := 1) B dX10_has_16 rfl ?_
  refine z_iand B dX10_has_17 ?_
  refine z_top (st1 := [.int 0]) (congrArg (fun w9 : Int32 => ([.int w9] : List Value)) (show (0 &&& 1 : Int32) = 0 by decide +kernel)) ?_
  refine z_iconst (v := 1) B dX10_has_18 rfl ?_
  refine z_icmp_ne (tgt := 26) B dX10_has_19 rfl (fun c_3 => ?_) (fun h9 => absurd h9 (by decide))
  refine z_iconst (v := 0) B dX10_has_26 rfl ?_
  exact z_ret_z B dX10_has_27 (by decide) ⟨rfl, rfl, (fun b9 => rfl)⟩

set_option maxHeartbeats 4000000 in
set_option maxRecDepth 100000 in
theorem f_X8_forget_8 (G : EnvG) (l : Launch) (Φ : Hm) (sz : Nat) (x : Nat) (u : Int32) (hc3_ : Φ (x + 3) = some (o_ 3 [.ref (x + 4), .ref (x + 5), .ref (x + 6), .ref (x + 7), .int 1, .int u])) (hc6_ : Φ (x + 6) = some (aq_ G 4 4 (va_up (va_up (va_up (va_up (fun _ => none) (0 : Int32).toNatClampNeg (some (x + 8))) (1 : Int32).toNatClampNeg (some (x + 12))) (2 : Int32).toNatClampNeg (some (x + 16))) (3 : Int32).toNatClampNeg (some (x + 20))))) (hc8_ : Φ (x + 8) = some (o_ 12 [.ref (x + 9), .int 9, .int 511, .int 29])) (hc12_ : Φ (x + 12) = some (o_ 12 [.ref (x + 13), .int 0, .int 0, .int 0])) (hc16_ : Φ (x + 16) = some (o_ 12 [.ref (x + 17), .int 0, .int 0, .int 0])) (hc20_ : Φ (x + 20) = some (o_ 12 [.ref (x + 21), .int 0, .int 0, .int 0])) (hc74_ : Φ (x + 74) = some (o_ 10 [.ref (x + 3), .ref (x + 46), .ref (x + 75), .ref (x + 77), .int 0, .ref (x + 78), .ref (x + 79), .int 0, .long 0, .int 0])) (hc78_ : Φ (x + 78) = some (ai_ G 4 (fun _ => 0))) (hna : G.2.2.2 ≤ x) : Ct G l yX8_forgetTemplatesWith wsX8_forgetTemplatesWith ({ frames := 1, cells := 0, slots := 0, locals := 21 }) 0 0 [.ref (x + 74), .int 8] Φ sz (fun v Φ1 sz1 => v = none ∧ sz1 = sz ∧ (∀ b9 : Nat, b9 ≠ x + 78 → Φ1 b9 = Φ b9) ∧ Φ1 (x + 78) = some (ai_ G 4 (upd (fun _ => 0) (0 : Int32).toNatClampNeg 0))) := by
  refine Ct.of (cc := cX8_forgetTemplatesWith) (maxL := 3) (ret := none) (by decide) rfl (Nat.le_of_ble_eq_true rfl) ?_
  intro p9 e9 s9 m9 w9 t9 k9 B
  show Z p9 l e9 _ s9 m9 _ w9 t9 k9 _ G 3 0 [(0, .ref (x + 74)), (1, .int 8)] [] Φ sz 0 0
  refine z_iconst (v := 0) B dX8_forgetTemplatesWith_0 rfl ?_
  refine z_istore_n (lv' := [(2, .int 0), (0, .ref (x + 74)), (1, .int 8)]) B dX8_forgetTemplatesWith_1 rfl (Nat.le_of_ble_eq_true rfl) rfl ?_
  refine z_iload_n B dX8_forgetTemplatesWith_2 rfl 0 rfl ?_
  refine z_iconst (v := 4) B dX8_forgetTemplatesWith_3 rfl ?_
  refine z_icmp_ge (tgt := 35) B dX8_forgetTemplatesWith_4 rfl (fun h9 => absurd h9 (by decide)) (fun c_1 => ?_)
  refine z_aload_n B dX8_forgetTemplatesWith_7 rfl 1 rfl ?_
  refine z_get (ref := "FlowExporter$Sender") (C := RX8) (T := TX8) (N := 10) (ci := 10) (v := .ref (x + 3)) B (by decide +kernel) rfl 0 (by decide) (by decide +kernel) rfl hc74_ rfl dX8_forgetTemplatesWith_8 ?_
  refine z_iload_n B dX8_forgetTemplatesWith_11 rfl 0 rfl ?_
  refine z_callV (As := [.int 0]) (rest := []) B (f_X1_template_u0 G l Φ sz x u hc3_ hc6_) (cwV 1 B.1.2.2.2.2 gX8_forgetTemplatesWith_X1_template rfl rfl rfl (by decide +kernel) ⟨Nat.le_of_ble_eq_true rfl, Nat.le_of_ble_eq_true rfl⟩) hc3_ rfl rfl rfl rfl (Nat.le_of_ble_eq_true rfl) dX8_forgetTemplatesWith_12 ⟨Nat.le_of_ble_eq_true rfl, Nat.le_of_ble_eq_true rfl⟩ (fun v1 Φ1 sz1 st1 hp1 hs1 => ?_)
  obtain ⟨rfl, hq1, fr1⟩ := hp1
  replace hq1 : sz1 = sz := hq1
  subst sz1
  replace hs1 : st1 = [.ref (x + 8)] := hs1
  subst st1
  refine z_iload_n B dX8_forgetTemplatesWith_15 rfl 2 rfl ?_
  have h_1 : Φ1 (x + 8) = some (o_ 12 [.ref (x + 9), .int 9, .int 511, .int 29]) := ((fr1 (x + 8)).trans hc8_)
  refine z_callV (As := [.int 8]) (rest := []) B (f_X10_has_0_8 G l Φ1 sz x h_1) (cwV 1 B.1.2.2.2.2 gX8_forgetTemplatesWith_X10_has rfl rfl rfl (by decide +kernel) ⟨Nat.le_of_ble_eq_true rfl, Nat.le_of_ble_eq_true rfl⟩) h_1 rfl rfl rfl rfl (Nat.le_of_ble_eq_true rfl) dX8_forgetTemplatesWith_16 ⟨Nat.le_of_ble_eq_true rfl, Nat.le_of_ble_eq_true rfl⟩ (fun v2 Φ2 sz2 st2 hp2 hs2 => ?_)
  obtain ⟨rfl, hq2, fr2⟩ := hp2
  replace hq2 : sz2 = sz := hq2
  subst sz2
  replace hs2 : st2 = [.int 1] := hs2
  subst st2
  refine z_if_eq (tgt := 29) B dX8_forgetTemplatesWith_19 rfl (fun h9 => absurd h9 (by decide)) (fun c_2 => ?_)
  refine z_aload_n B dX8_forgetTemplatesWith_22 rfl 1 rfl ?_
  have h_2 : Φ2 (x + 74) = some (o_ 10 [.ref (x + 3), .ref (x + 46), .ref (x + 75), .ref (x + 77), .int 0, .ref (x + 78), .ref (x + 79), .int 0, .long 0, .int 0]) := ((fr2 (x + 74)).trans ((fr1 (x + 74)).trans hc74_))
  refine z_get (ref := "FlowExporter$Sender") (C := RX8) (T := TX8) (N := 10) (ci := 10) (v := .ref (x + 78)) B (by decide +kernel) rfl 5 (by decide) (by decide +kernel) rfl h_2 rfl dX8_forgetTemplatesWith_23 ?_
  refine z_iload_n B dX8_forgetTemplatesWith_26 rfl 0 rfl ?_
  refine z_iconst (v := 0) B dX8_forgetTemplatesWith_27 rfl ?_
  have h_3 : Φ2 (x + 78) = some (ai_ G 4 (fun _ => 0)) := ((fr2 (x + 78)).trans ((fr1 (x + 78)).trans hc78_))
  refine z_iast B h_3 (Nat.le_trans hna (Nat.le_add_right x 78)) (vin rfl) dX8_forgetTemplatesWith_28 (fun Φ3 hΦ1 => ?_)
  have h_4 : Φ3 (x + 78) = some (ai_ G 4 (upd (fun _ => 0) (0 : Int32).toNatClampNeg 0)) := fset_at hΦ1
  refine z_iinc (k := 0) (v := 1) (lv' := [(2, .int 1), (0, .ref (x + 74)), (1, .int 8)]) B dX8_forgetTemplatesWith_29 rfl rfl (Nat.le_of_ble_eq_true rfl) rfl ?_
  refine z_goto (tgt := 2) B dX8_forgetTemplatesWith_32 rfl ?_
  refine z_iload_n B dX8_forgetTemplatesWith_2 rfl 0 rfl ?_
  refine z_iconst (v := 4) B dX8_forgetTemplatesWith_3 rfl ?_
  refine z_icmp_ge (tgt := 35) B dX8_forgetTemplatesWith_4 rfl (fun h9 => absurd h9 (by decide)) (fun c_3 => ?_)
  refine z_aload_n B dX8_forgetTemplatesWith_7 rfl 1 rfl ?_
  have h_5 : Φ3 (x + 74) = some (o_ 10 [.ref (x + 3), .ref (x + 46), .ref (x + 75), .ref (x + 77), .int 0, .ref (x + 78), .ref (x + 79), .int 0, .long 0, .int 0]) := ((fset_fr hΦ1 (ne_off (x := x) (i := 74) (j := 78) rfl)).trans h_2)
  refine z_get (ref := "FlowExporter$Sender") (C := RX8) (T := TX8) (N := 10) (ci := 10) (v := .ref (x + 3)) B (by decide +kernel) rfl 0 (by decide) (by decide +kernel) rfl h_5 rfl dX8_forgetTemplatesWith_8 ?_
  refine z_iload_n B dX8_forgetTemplatesWith_11 rfl 0 rfl ?_
  have h_6 : Φ3 (x + 3) = some (o_ 3 [.ref (x + 4), .ref (x + 5), .ref (x + 6), .ref (x + 7), .int 1, .int u]) := ((fset_fr hΦ1 (ne_off (x := x) (i := 3) (j := 78) rfl)).trans ((fr2 (x + 3)).trans ((fr1 (x + 3)).trans hc3_)))
  have h_7 : Φ3 (x + 6) = some (aq_ G 4 4 (va_up (va_up (va_up (va_up (fun _ => none) (0 : Int32).toNatClampNeg (some (x + 8))) (1 : Int32).toNatClampNeg (some (x + 12))) (2 : Int32).toNatClampNeg (some (x + 16))) (3 : Int32).toNatClampNeg (some (x + 20)))) := ((fset_fr hΦ1 (ne_off (x := x) (i := 6) (j := 78) rfl)).trans ((fr2 (x + 6)).trans ((fr1 (x + 6)).trans hc6_)))
  refine z_callV (As := [.int 1]) (rest := []) B (f_X1_template_u1 G l Φ3 sz x u h_6 h_7) (cwV 1 B.1.2.2.2.2 gX8_forgetTemplatesWith_X1_template rfl rfl rfl (by decide +kernel) ⟨Nat.le_of_ble_eq_true rfl, Nat.le_of_ble_eq_true rfl⟩) h_6 rfl rfl rfl rfl (Nat.le_of_ble_eq_true rfl) dX8_forgetTemplatesWith_12 ⟨Nat.le_of_ble_eq_true rfl, Nat.le_of_ble_eq_true rfl⟩ (fun v3 Φ4 sz3 st3 hp3 hs3 => ?_)
  obtain ⟨rfl, hq3, fr3⟩ := hp3
  replace hq3 : sz3 = sz := hq3
  subst sz3
  replace hs3 : st3 = [.ref (x + 12)] := hs3
  subst st3
  refine z_iload_n B dX8_forgetTemplatesWith_15 rfl 2 rfl ?_
  have h_8 : Φ4 (x + 12) = some (o_ 12 [.ref (x + 13), .int 0, .int 0, .int 0]) := ((fr3 (x + 12)).trans ((fset_fr hΦ1 (ne_off (x := x) (i := 12) (j := 78) rfl)).trans ((fr2 (x + 12)).trans ((fr1 (x + 12)).trans hc12_))))
  refine z_callV (As := [.int 8]) (rest := []) B (f_X10_has_1_8 G l Φ4 sz x h_8) (cwV 1 B.1.2.2.2.2 gX8_forgetTemplatesWith_X10_has rfl rfl rfl (by decide +kernel) ⟨Nat.le_of_ble_eq_true rfl, Nat.le_of_ble_eq_true rfl⟩) h_8 rfl rfl rfl rfl (Nat.le_of_ble_eq_true rfl) dX8_forgetTemplatesWith_16 ⟨Nat.le_of_ble_eq_true rfl, Nat.le_of_ble_eq_true rfl⟩ (fun v4 Φ5 sz4 st4 hp4 hs4 => ?_)
  obtain ⟨rfl, hq4, fr4⟩ := hp4
  replace hq4 : sz4 = sz := hq4
  subst sz4
  replace hs4 : st4 = [.int 0] := hs4
  subst st4
  refine z_if_eq (tgt := 29) B dX8_forgetTemplatesWith_19 rfl (fun c_4 => ?_) (fun h9 => absurd (by decide) h9)
  refine z_iinc (k := 0) (v := 2) (lv' := [(2, .int 2), (0, .ref (x + 74)), (1, .int 8)]) B dX8_forgetTemplatesWith_29 rfl rfl (Nat.le_of_ble_eq_true rfl) rfl ?_
  refine z_goto (tgt := 2) B dX8_forgetTemplatesWith_32 rfl ?_
  refine z_iload_n B dX8_forgetTemplatesWith_2 rfl 0 rfl ?_
  refine z_iconst (v := 4) B dX8_forgetTemplatesWith_3 rfl ?_
  refine z_icmp_ge (tgt := 35) B dX8_forgetTemplatesWith_4 rfl (fun h9 => absurd h9 (by decide)) (fun c_5 => ?_)
  refine z_aload_n B dX8_forgetTemplatesWith_7 rfl 1 rfl ?_
  have h_9 : Φ5 (x + 74) = some (o_ 10 [.ref (x + 3), .ref (x + 46), .ref (x + 75), .ref (x + 77), .int 0, .ref (x + 78), .ref (x + 79), .int 0, .long 0, .int 0]) := ((fr4 (x + 74)).trans ((fr3 (x + 74)).trans h_5))
  refine z_get (ref := "FlowExporter$Sender") (C := RX8) (T := TX8) (N := 10) (ci := 10) (v := .ref (x + 3)) B (by decide +kernel) rfl 0 (by decide) (by decide +kernel) rfl h_9 rfl dX8_forgetTemplatesWith_8 ?_
  refine z_iload_n B dX8_forgetTemplatesWith_11 rfl 0 rfl ?_
  have h_10 : Φ5 (x + 3) = some (o_ 3 [.ref (x + 4), .ref (x + 5), .ref (x + 6), .ref (x + 7), .int 1, .int u]) := ((fr4 (x + 3)).trans ((fr3 (x + 3)).trans h_6))
  have h_11 : Φ5 (x + 6) = some (aq_ G 4 4 (va_up (va_up (va_up (va_up (fun _ => none) (0 : Int32).toNatClampNeg (some (x + 8))) (1 : Int32).toNatClampNeg (some (x + 12))) (2 : Int32).toNatClampNeg (some (x + 16))) (3 : Int32).toNatClampNeg (some (x + 20)))) := ((fr4 (x + 6)).trans ((fr3 (x + 6)).trans h_7))
  refine z_callV (As := [.int 2]) (rest := []) B (f_X1_template_u2 G l Φ5 sz x u h_10 h_11) (cwV 1 B.1.2.2.2.2 gX8_forgetTemplatesWith_X1_template rfl rfl rfl (by decide +kernel) ⟨Nat.le_of_ble_eq_true rfl, Nat.le_of_ble_eq_true rfl⟩) h_10 rfl rfl rfl rfl (Nat.le_of_ble_eq_true rfl) dX8_forgetTemplatesWith_12 ⟨Nat.le_of_ble_eq_true rfl, Nat.le_of_ble_eq_true rfl⟩ (fun v5 Φ6 sz5 st5 hp5 hs5 => ?_)
  obtain ⟨rfl, hq5, fr5⟩ := hp5
  replace hq5 : sz5 = sz := hq5
  subst sz5
  replace hs5 : st5 = [.ref (x + 16)] := hs5
  subst st5
  refine z_iload_n B dX8_forgetTemplatesWith_15 rfl 2 rfl ?_
  have h_12 : Φ6 (x + 16) = some (o_ 12 [.ref (x + 17), .int 0, .int 0, .int 0]) := ((fr5 (x + 16)).trans ((fr4 (x + 16)).trans ((fr3 (x + 16)).trans ((fset_fr hΦ1 (ne_off (x := x) (i := 16) (j := 78) rfl)).trans ((fr2 (x + 16)).trans ((fr1 (x + 16)).trans hc16_))))))
  refine z_callV (As := [.int 8]) (rest := []) B (f_X10_has_2_8 G l Φ6 sz x h_12) (cwV 1 B.1.2.2.2.2 gX8_forgetTemplatesWith_X10_has rfl rfl rfl (by decide +kernel) ⟨Nat.le_of_ble_eq_true rfl, Nat.le_of_ble_eq_true rfl⟩) h_12 rfl rfl rfl rfl (Nat.le_of_ble_eq_true rfl) dX8_forgetTemplatesWith_16 ⟨Nat.le_of_ble_eq_true rfl, Nat.le_of_ble_eq_true rfl⟩ (fun v6 Φ7 sz6 st6 hp6 hs6 => ?_)
  obtain ⟨rfl, hq6, fr6⟩ := hp6
  replace hq6 : sz6 = sz := hq6
  subst sz6
  replace hs6 : st6 = [.int 0] := hs6
  subst st6
  refine z_if_eq (tgt := 29) B dX8_forgetTemplatesWith_19 rfl (fun c_6 => ?_) (fun h9 => absurd (by decide) h9)
  refine z_iinc (k := 0) (v := 3) (lv' := [(2, .int 3), (0, .ref (x + 74)), (1, .int 8)]) B dX8_forgetTemplatesWith_29 rfl rfl (Nat.le_of_ble_eq_true rfl) rfl ?_
  refine z_goto (tgt := 2) B dX8_forgetTemplatesWith_32 rfl ?_
  refine z_iload_n B dX8_forgetTemplatesWith_2 rfl 0 rfl ?_
  refine z_iconst (v := 4) B dX8_forgetTemplatesWith_3 rfl ?_
  refine z_icmp_ge (tgt := 35) B dX8_forgetTemplatesWith_4 rfl (fun h9 => absurd h9 (by decide)) (fun c_7 => ?_)
  refine z_aload_n B dX8_forgetTemplatesWith_7 rfl 1 rfl ?_
  have h_13 : Φ7 (x + 74) = some (o_ 10 [.ref (x + 3), .ref (x + 46), .ref (x + 75), .ref (x + 77), .int 0, .ref (x + 78), .ref (x + 79), .int 0, .long 0, .int 0]) := ((fr6 (x + 74)).trans ((fr5 (x + 74)).trans h_9))
  refine z_get (ref := "FlowExporter$Sender") (C := RX8) (T := TX8) (N := 10) (ci := 10) (v := .ref (x + 3)) B (by decide +kernel) rfl 0 (by decide) (by decide +kernel) rfl h_13 rfl dX8_forgetTemplatesWith_8 ?_
  refine z_iload_n B dX8_forgetTemplatesWith_11 rfl 0 rfl ?_
  have h_14 : Φ7 (x + 3) = some (o_ 3 [.ref (x + 4), .ref (x + 5), .ref (x + 6), .ref (x + 7), .int 1, .int u]) := ((fr6 (x + 3)).trans ((fr5 (x + 3)).trans h_10))
  have h_15 : Φ7 (x + 6) = some (aq_ G 4 4 (va_up (va_up (va_up (va_up (fun _ => none) (0 : Int32).toNatClampNeg (some (x + 8))) (1 : Int32).toNatClampNeg (some (x + 12))) (2 : Int32).toNatClampNeg (some (x + 16))) (3 : Int32).toNatClampNeg (some (x + 20)))) := ((fr6 (x + 6)).trans ((fr5 (x + 6)).trans h_11))
  refine z_callV (As := [.int 3]) (rest := []) B (f_X1_template_u3 G l Φ7 sz x u h_14 h_15) (cwV 1 B.1.2.2.2.2 gX8_forgetTemplatesWith_X1_template rfl rfl rfl (by decide +kernel) ⟨Nat.le_of_ble_eq_true rfl, Nat.le_of_ble_eq_true rfl⟩) h_14 rfl rfl rfl rfl (Nat.le_of_ble_eq_true rfl) dX8_forgetTemplatesWith_12 ⟨Nat.le_of_ble_eq_true rfl, Nat.le_of_ble_eq_true rfl⟩ (fun v7 Φ8 sz7 st7 hp7 hs7 => ?_)
  obtain ⟨rfl, hq7, fr7⟩ := hp7
  replace hq7 : sz7 = sz := hq7
  subst sz7
  replace hs7 : st7 = [.ref (x + 20)] := hs7
  subst st7
  refine z_iload_n B dX8_forgetTemplatesWith_15 rfl 2 rfl ?_
  have h_16 : Φ8 (x + 20) = some (o_ 12 [.ref (x + 21), .int 0, .int 0, .int 0]) := ((fr7 (x + 20)).trans ((fr6 (x + 20)).trans ((fr5 (x + 20)).trans ((fr4 (x + 20)).trans ((fr3 (x + 20)).trans ((fset_fr hΦ1 (ne_off (x := x) (i := 20) (j := 78) rfl)).trans ((fr2 (x + 20)).trans ((fr1 (x + 20)).trans hc20_))))))))
  refine z_callV (As := [.int 8]) (rest := []) B (f_X10_has_3_8 G l Φ8 sz x h_16) (cwV 1 B.1.2.2.2.2 gX8_forgetTemplatesWith_X10_has rfl rfl rfl (by decide +kernel) ⟨Nat.le_of_ble_eq_true rfl, Nat.le_of_ble_eq_true rfl⟩) h_16 rfl rfl rfl rfl (Nat.le_of_ble_eq_true rfl) dX8_forgetTemplatesWith_16 ⟨Nat.le_of_ble_eq_true rfl, Nat.le_of_ble_eq_true rfl⟩ (fun v8 Φ9 sz8 st8 hp8 hs8 => ?_)
  obtain ⟨rfl, hq8, fr8⟩ := hp8
  replace hq8 : sz8 = sz := hq8
  subst sz8
  replace hs8 : st8 = [.int 0] := hs8
  subst st8
  refine z_if_eq (tgt := 29) B dX8_forgetTemplatesWith_19 rfl (fun c_8 => ?_) (fun h9 => absurd (by decide) h9)
  refine z_iinc (k := 0) (v := 4) (lv' := [(2, .int 4), (0, .ref (x + 74)), (1, .int 8)]) B dX8_forgetTemplatesWith_29 rfl rfl (Nat.le_of_ble_eq_true rfl) rfl ?_
  refine z_goto (tgt := 2) B dX8_forgetTemplatesWith_32 rfl ?_
  refine z_iload_n B dX8_forgetTemplatesWith_2 rfl 0 rfl ?_
  refine z_iconst (v := 4) B dX8_forgetTemplatesWith_3 rfl ?_
  refine z_icmp_ge (tgt := 35) B dX8_forgetTemplatesWith_4 rfl (fun c_9 => ?_) (fun h9 => absurd (by decide) h9)
  have h_17 : Φ9 (x + 78) = some (ai_ G 4 (upd (fun _ => 0) (0 : Int32).toNatClampNeg 0)) := ((fr8 (x + 78)).trans ((fr7 (x + 78)).trans ((fr6 (x + 78)).trans ((fr5 (x + 78)).trans ((fr4 (x + 78)).trans ((fr3 (x + 78)).trans h_4))))))
  exact z_ret_v B dX8_forgetTemplatesWith_35 ⟨rfl, rfl, (fun b9 h9a => ((fr8 b9).trans ((fr7 b9).trans ((fr6 b9).trans ((fr5 b9).trans ((fr4 b9).trans ((fr3 b9).trans ((fset_fr hΦ1 h9a).trans ((fr2 b9).trans ((fr1 b9).trans rfl)))))))))), h_17⟩

set_option maxHeartbeats 4000000 in
set_option maxRecDepth 100000 in
theorem f_X11_setSupport_8_0 (G : EnvG) (l : Launch) (Φ : Hm) (sz : Nat) (x : Nat) (hc0_ : Φ x = some (o_ 13 [.ref (x + 1), .ref (x + 3), .ref (x + 24), .ref (x + 46), .ref (x + 74), .ref (x + 80), .ref (x + 132), .ref (x + 121)])) (hc3_ : Φ (x + 3) = some (o_ 3 [.ref (x + 4), .ref (x + 5), .ref (x + 6), .ref (x + 7), .int 1, .int 511])) (hc6_ : Φ (x + 6) = some (aq_ G 4 4 (va_up (va_up (va_up (va_up (fun _ => none) (0 : Int32).toNatClampNeg (some (x + 8))) (1 : Int32).toNatClampNeg (some (x + 12))) (2 : Int32).toNatClampNeg (some (x + 16))) (3 : Int32).toNatClampNeg (some (x + 20))))) (hc7_ : Φ (x + 7) = some (aq_ G 4 4 (va_up (va_up (va_up (va_up (fun _ => none) (0 : Int32).toNatClampNeg (some (x + 10))) (1 : Int32).toNatClampNeg (some (x + 14))) (2 : Int32).toNatClampNeg (some (x + 18))) (3 : Int32).toNatClampNeg (some (x + 22))))) (hc8_ : Φ (x + 8) = some (o_ 12 [.ref (x + 9), .int 9, .int 511, .int 29])) (hc9_ : Φ (x + 9) = some (ai_ G 9 (upd (upd (upd (upd (upd (upd (upd (upd (upd (fun _ => 0) (0 : Int32).toNatClampNeg 0) (1 : Int32).toNatClampNeg 1) (2 : Int32).toNatClampNeg 2) (3 : Int32).toNatClampNeg 3) (4 : Int32).toNatClampNeg 4) (5 : Int32).toNatClampNeg 5) (6 : Int32).toNatClampNeg 6) (7 : Int32).toNatClampNeg 7) (8 : Int32).toNatClampNeg 8))) (hc10_ : Φ (x + 10) = some (o_ 12 [.ref (x + 11), .int 9, .int 511, .int 29])) (hc11_ : Φ (x + 11) = some (ai_ G 9 (upd (upd (upd (upd (upd (upd (upd (upd (upd (fun _ => 0) (0 : Int32).toNatClampNeg 0) (1 : Int32).toNatClampNeg 1) (2 : Int32).toNatClampNeg 2) (3 : Int32).toNatClampNeg 3) (4 : Int32).toNatClampNeg 4) (5 : Int32).toNatClampNeg 5) (6 : Int32).toNatClampNeg 6) (7 : Int32).toNatClampNeg 7) (8 : Int32).toNatClampNeg 8))) (hc12_ : Φ (x + 12) = some (o_ 12 [.ref (x + 13), .int 0, .int 0, .int 0])) (hc14_ : Φ (x + 14) = some (o_ 12 [.ref (x + 15), .int 0, .int 0, .int 0])) (hc16_ : Φ (x + 16) = some (o_ 12 [.ref (x + 17), .int 0, .int 0, .int 0])) (hc18_ : Φ (x + 18) = some (o_ 12 [.ref (x + 19), .int 0, .int 0, .int 0])) (hc20_ : Φ (x + 20) = some (o_ 12 [.ref (x + 21), .int 0, .int 0, .int 0])) (hc22_ : Φ (x + 22) = some (o_ 12 [.ref (x + 23), .int 0, .int 0, .int 0])) (hc74_ : Φ (x + 74) = some (o_ 10 [.ref (x + 3), .ref (x + 46), .ref (x + 75), .ref (x + 77), .int 0, .ref (x + 78), .ref (x + 79), .int 0, .long 0, .int 0])) (hc78_ : Φ (x + 78) = some (ai_ G 4 (fun _ => 0))) (hna : G.2.2.2 ≤ x) : Ct G l yX11_setSupport wsX11_setSupport ({ frames := 3, cells := 0, slots := 0, locals := 67 }) 0 0 [.ref x, .int 8, .int 0] Φ sz (fun v Φ1 sz1 => v = some (.int 1) ∧ ∀ b9 : Nat, x + 149 ≤ b9 → Φ1 b9 = Φ b9) := by
  refine Ct.of (cc := cX11_setSupport) (maxL := 4) (ret := (some .boolean)) (by decide) rfl (Nat.le_of_ble_eq_true rfl) ?_
  intro p9 e9 s9 m9 w9 t9 k9 B
  show Z p9 l e9 _ s9 m9 _ w9 t9 k9 _ G 4 0 [(0, .ref x), (1, .int 8), (2, .int 0)] [] Φ sz 0 0
  refine z_iload_n B dX11_setSupport_0 rfl 1 rfl ?_
  refine z_if_lt (tgt := 10) B dX11_setSupport_1 rfl (fun h9 => absurd h9 (by decide)) (fun c_1 => ?_)
  refine z_iload_n B dX11_setSupport_4 rfl 1 rfl ?_
  refine z_bipush (v := 9) B dX11_setSupport_5 rfl ?_
  refine z_icmp_lt (tgt := 18) B dX11_setSupport_7 rfl (fun c_2 => ?_) (fun h9 => absurd (by decide) h9)
  refine z_aload_n B dX11_setSupport_18 rfl 0 rfl ?_
  refine z_get (ref := "FlowExporter") (C := RX11) (T := TX11) (N := 8) (ci := 13) (v := .ref (x + 3)) B (by decide +kernel) rfl 1 (by decide) (by decide +kernel) rfl hc0_ rfl dX11_setSupport_19 ?_
  refine z_get (ref := "FlowExporter$Config") (C := RX1) (T := TX1) (N := 6) (ci := 3) (v := .int 511) B (by decide +kernel) rfl 5 (by decide) (by decide +kernel) rfl hc3_ rfl dX11_setSupport_22 ?_
  refine z_iload_n B dX11_setSupport_25 rfl 1 rfl ?_
  refine z_ishr B dX11_setSupport_26 ?_
  refine z_top (st1 := [.int 1]) (congrArg (fun w9 : Int32 => ([.int w9] : List Value)) (show ((511 : Int32) >>> ((8 : Int32) &&& (31 : Int32)) : Int32) = 1 by decide +kernel)) ?_
  refine z_iconst (v := 1) B dX11_setSupport_27 rfl ?_
  refine z_iand B dX11_setSupport_28 ?_
  refine z_top (st1 := [.int 1]) (congrArg (fun w9 : Int32 => ([.int w9] : List Value)) (show (1 &&& 1 : Int32) = 1 by decide +kernel)) ?_
  refine z_iconst (v := 1) B dX11_setSupport_29 rfl ?_
  refine z_icmp_ne (tgt := 37) B dX11_setSupport_30 rfl (fun h9 => absurd (by decide) h9) (fun c_3 => ?_)
  refine z_iconst (v := 1) B dX11_setSupport_33 rfl ?_
  refine z_goto (tgt := 38) B dX11_setSupport_34 rfl ?_
  refine z_istore_n (lv' := [(3, .int 1), (0, .ref x), (1, .int 8), (2, .int 0)]) B dX11_setSupport_38 rfl (Nat.le_of_ble_eq_true rfl) rfl ?_
  refine z_iload_n B dX11_setSupport_39 rfl 0 rfl ?_
  refine z_iload_n B dX11_setSupport_40 rfl 3 rfl ?_
  refine z_icmp_eq (tgt := 70) B dX11_setSupport_41 rfl (fun h9 => absurd h9 (by decide)) (fun c_4 => ?_)
  refine z_aload_n B dX11_setSupport_44 rfl 1 rfl ?_
  refine z_get (ref := "FlowExporter") (C := RX11) (T := TX11) (N := 8) (ci := 13) (v := .ref (x + 3)) B (by decide +kernel) rfl 1 (by decide) (by decide +kernel) rfl hc0_ rfl dX11_setSupport_45 ?_
  refine z_aload_n B dX11_setSupport_48 rfl 1 rfl ?_
  refine z_get (ref := "FlowExporter") (C := RX11) (T := TX11) (N := 8) (ci := 13) (v := .ref (x + 3)) B (by decide +kernel) rfl 1 (by decide) (by decide +kernel) rfl hc0_ rfl dX11_setSupport_49 ?_
  refine z_get (ref := "FlowExporter$Config") (C := RX1) (T := TX1) (N := 6) (ci := 3) (v := .int 511) B (by decide +kernel) rfl 5 (by decide) (by decide +kernel) rfl hc3_ rfl dX11_setSupport_52 ?_
  refine z_iconst (v := 1) B dX11_setSupport_55 rfl ?_
  refine z_iload_n B dX11_setSupport_56 rfl 2 rfl ?_
  refine z_ishl B dX11_setSupport_57 ?_
  refine z_top (st1 := [.int 256, .int 511, .ref (x + 3)]) (congrArg (fun w9 : Int32 => ([.int w9, .int 511, .ref (x + 3)] : List Value)) (show ((1 : Int32) <<< ((8 : Int32) &&& (31 : Int32)) : Int32) = 256 by decide +kernel)) ?_
  refine z_ixor B dX11_setSupport_58 ?_
  refine z_top (st1 := [.int 255, .ref (x + 3)]) (congrArg (fun w9 : Int32 => ([.int w9, .ref (x + 3)] : List Value)) (show (511 ^^^ 256 : Int32) = 255 by decide +kernel)) ?_
  refine z_callV (As := [.int 255]) (rest := []) B (f_X1_support_s8 G l Φ sz x hc3_ hc6_ hc7_ hc8_ hc9_ hc10_ hc11_ hc12_ hc14_ hc16_ hc18_ hc20_ hc22_ hna) (cwV 1 B.1.2.2.2.2 gX11_setSupport_X1_support rfl rfl rfl (by decide +kernel) ⟨Nat.le_of_ble_eq_true rfl, Nat.le_of_ble_eq_true rfl⟩) hc3_ rfl rfl rfl rfl (Nat.le_of_ble_eq_true rfl) dX11_setSupport_59 ⟨Nat.le_of_ble_eq_true rfl, Nat.le_of_ble_eq_true rfl⟩ (fun v1 Φ1 sz1 st1 hp1 hs1 => ?_)
  obtain ⟨rfl, hq1, fr1, h_1, h_2, h_3, h_4, h_5, h_6⟩ := hp1
  replace hq1 : sz1 = sz := hq1
  subst sz1
  replace hs1 : st1 = [] := hs1
  subst st1
  have h_7 : Φ1 (x + 10) = some (o_ 12 [.ref (x + 11), .int 8, .int 255, .int 25]) := h_1
  have h_8 : Φ1 (x + 11) = some (ai_ G 9 (upd (upd (upd (upd (upd (upd (upd (upd (upd (upd (upd (upd (upd (upd (upd (upd (upd (fun _ => 0) (0 : Int32).toNatClampNeg 0) (1 : Int32).toNatClampNeg 1) (2 : Int32).toNatClampNeg 2) (3 : Int32).toNatClampNeg 3) (4 : Int32).toNatClampNeg 4) (5 : Int32).toNatClampNeg 5) (6 : Int32).toNatClampNeg 6) (7 : Int32).toNatClampNeg 7) (8 : Int32).toNatClampNeg 8) (0 : Int32).toNatClampNeg 0) (1 : Int32).toNatClampNeg 1) (2 : Int32).toNatClampNeg 2) (3 : Int32).toNatClampNeg 3) (4 : Int32).toNatClampNeg 4) (5 : Int32).toNatClampNeg 5) (6 : Int32).toNatClampNeg 6) (7 : Int32).toNatClampNeg 7)) := h_2
  have h_9 : Φ1 (x + 14) = some (o_ 12 [.ref (x + 15), .int 0, .int 0, .int 0]) := h_3
  have h_10 : Φ1 (x + 18) = some (o_ 12 [.ref (x + 19), .int 0, .int 0, .int 0]) := h_4
  have h_11 : Φ1 (x + 22) = some (o_ 12 [.ref (x + 23), .int 0, .int 0, .int 0]) := h_5
  have h_12 : Φ1 (x + 3) = some (o_ 3 [.ref (x + 4), .ref (x + 5), .ref (x + 6), .ref (x + 7), .int 1, .int 255]) := h_6
  refine z_aload_n B dX11_setSupport_62 rfl 1 rfl ?_
  have h_13 : Φ1 x = some (o_ 13 [.ref (x + 1), .ref (x + 3), .ref (x + 24), .ref (x + 46), .ref (x + 74), .ref (x + 80), .ref (x + 132), .ref (x + 121)]) := ((fr1 x (ne_off (x := x) (i := 0) (j := 10) rfl) (ne_off (x := x) (i := 0) (j := 11) rfl) (ne_off (x := x) (i := 0) (j := 14) rfl) (ne_off (x := x) (i := 0) (j := 18) rfl) (ne_off (x := x) (i := 0) (j := 22) rfl) (ne_off (x := x) (i := 0) (j := 3) rfl)).trans hc0_)
  refine z_get (ref := "FlowExporter") (C := RX11) (T := TX11) (N := 8) (ci := 13) (v := .ref (x + 74)) B (by decide +kernel) rfl 4 (by decide) (by decide +kernel) rfl h_13 rfl dX11_setSupport_63 ?_
  refine z_iload_n B dX11_setSupport_66 rfl 2 rfl ?_
  have h_14 : Φ1 (x + 6) = some (aq_ G 4 4 (va_up (va_up (va_up (va_up (fun _ => none) (0 : Int32).toNatClampNeg (some (x + 8))) (1 : Int32).toNatClampNeg (some (x + 12))) (2 : Int32).toNatClampNeg (some (x + 16))) (3 : Int32).toNatClampNeg (some (x + 20)))) := ((fr1 (x + 6) (ne_off (x := x) (i := 6) (j := 10) rfl) (ne_off (x := x) (i := 6) (j := 11) rfl) (ne_off (x := x) (i := 6) (j := 14) rfl) (ne_off (x := x) (i := 6) (j := 18) rfl) (ne_off (x := x) (i := 6) (j := 22) rfl) (ne_off (x := x) (i := 6) (j := 3) rfl)).trans hc6_)
  have h_15 : Φ1 (x + 8) = some (o_ 12 [.ref (x + 9), .int 9, .int 511, .int 29]) := ((fr1 (x + 8) (ne_off (x := x) (i := 8) (j := 10) rfl) (ne_off (x := x) (i := 8) (j := 11) rfl) (ne_off (x := x) (i := 8) (j := 14) rfl) (ne_off (x := x) (i := 8) (j := 18) rfl) (ne_off (x := x) (i := 8) (j := 22) rfl) (ne_off (x := x) (i := 8) (j := 3) rfl)).trans hc8_)
  have h_16 : Φ1 (x + 12) = some (o_ 12 [.ref (x + 13), .int 0, .int 0, .int 0]) := ((fr1 (x + 12) (ne_off (x := x) (i := 12) (j := 10) rfl) (ne_off (x := x) (i := 12) (j := 11) rfl) (ne_off (x := x) (i := 12) (j := 14) rfl) (ne_off (x := x) (i := 12) (j := 18) rfl) (ne_off (x := x) (i := 12) (j := 22) rfl) (ne_off (x := x) (i := 12) (j := 3) rfl)).trans hc12_)
  have h_17 : Φ1 (x + 16) = some (o_ 12 [.ref (x + 17), .int 0, .int 0, .int 0]) := ((fr1 (x + 16) (ne_off (x := x) (i := 16) (j := 10) rfl) (ne_off (x := x) (i := 16) (j := 11) rfl) (ne_off (x := x) (i := 16) (j := 14) rfl) (ne_off (x := x) (i := 16) (j := 18) rfl) (ne_off (x := x) (i := 16) (j := 22) rfl) (ne_off (x := x) (i := 16) (j := 3) rfl)).trans hc16_)
  have h_18 : Φ1 (x + 20) = some (o_ 12 [.ref (x + 21), .int 0, .int 0, .int 0]) := ((fr1 (x + 20) (ne_off (x := x) (i := 20) (j := 10) rfl) (ne_off (x := x) (i := 20) (j := 11) rfl) (ne_off (x := x) (i := 20) (j := 14) rfl) (ne_off (x := x) (i := 20) (j := 18) rfl) (ne_off (x := x) (i := 20) (j := 22) rfl) (ne_off (x := x) (i := 20) (j := 3) rfl)).trans hc20_)
  have h_19 : Φ1 (x + 74) = some (o_ 10 [.ref (x + 3), .ref (x + 46), .ref (x + 75), .ref (x + 77), .int 0, .ref (x + 78), .ref (x + 79), .int 0, .long 0, .int 0]) := ((fr1 (x + 74) (ne_off (x := x) (i := 74) (j := 10) rfl) (ne_off (x := x) (i := 74) (j := 11) rfl) (ne_off (x := x) (i := 74) (j := 14) rfl) (ne_off (x := x) (i := 74) (j := 18) rfl) (ne_off (x := x) (i := 74) (j := 22) rfl) (ne_off (x := x) (i := 74) (j := 3) rfl)).trans hc74_)
  have h_20 : Φ1 (x + 78) = some (ai_ G 4 (fun _ => 0)) := ((fr1 (x + 78) (ne_off (x := x) (i := 78) (j := 10) rfl) (ne_off (x := x) (i := 78) (j := 11) rfl) (ne_off (x := x) (i := 78) (j := 14) rfl) (ne_off (x := x) (i := 78) (j := 18) rfl) (ne_off (x := x) (i := 78) (j := 22) rfl) (ne_off (x := x) (i := 78) (j := 3) rfl)).trans hc78_)
  refine z_callV (As := [.int 8]) (rest := []) B (f_X8_forget_8 G l Φ1 sz x 255 h_12 h_14 h_15 h_16 h_17 h_18 h_19 h_20 hna) (cwV 1 B.1.2.2.2.2 gX11_setSupport_X8_forgetTemplatesWith rfl rfl rfl (by decide +kernel) ⟨Nat.le_of_ble_eq_true rfl, Nat.le_of_ble_eq_true rfl⟩) h_19 rfl rfl rfl rfl (Nat.le_of_ble_eq_true rfl) dX11_setSupport_67 ⟨Nat.le_of_ble_eq_true rfl, Nat.le_of_ble_eq_true rfl⟩ (fun v2 Φ2 sz2 st2 hp2 hs2 => ?_)
  obtain ⟨rfl, hq2, fr2, h_21⟩ := hp2
  replace hq2 : sz2 = sz := hq2
  subst sz2
  replace hs2 : st2 = [] := hs2
  subst st2
  have h_22 : Φ2 (x + 78) = some (ai_ G 4 (upd (fun _ => 0) (0 : Int32).toNatClampNeg 0)) := h_21
  refine z_iload_n B dX11_setSupport_70 rfl 0 rfl ?_
  exact z_ret_z B dX11_setSupport_71 (by decide) ⟨rfl, fun b9 h9 => ((fr2 b9 (Nat.ne_of_gt (Nat.lt_of_lt_of_le (lt_off (x := x) (i := 78) (j := 149) rfl) h9))).trans ((fr1 b9 (Nat.ne_of_gt (Nat.lt_of_lt_of_le (lt_off (x := x) (i := 10) (j := 149) rfl) h9)) (Nat.ne_of_gt (Nat.lt_of_lt_of_le (lt_off (x := x) (i := 11) (j := 149) rfl) h9)) (Nat.ne_of_gt (Nat.lt_of_lt_of_le (lt_off (x := x) (i := 14) (j := 149) rfl) h9)) (Nat.ne_of_gt (Nat.lt_of_lt_of_le (lt_off (x := x) (i := 18) (j := 149) rfl) h9)) (Nat.ne_of_gt (Nat.lt_of_lt_of_le (lt_off (x := x) (i := 22) (j := 149) rfl) h9)) (Nat.ne_of_gt (Nat.lt_of_lt_of_le (lt_off (x := x) (i := 3) (j := 149) rfl) h9))).trans rfl))⟩

set_option maxHeartbeats 4000000 in
set_option maxRecDepth 100000 in
theorem f_X11_setSupport_8_1 (G : EnvG) (l : Launch) (Φ : Hm) (sz : Nat) (x : Nat) (hc0_ : Φ x = some (o_ 13 [.ref (x + 1), .ref (x + 3), .ref (x + 24), .ref (x + 46), .ref (x + 74), .ref (x + 80), .ref (x + 132), .ref (x + 121)])) (hc3_ : Φ (x + 3) = some (o_ 3 [.ref (x + 4), .ref (x + 5), .ref (x + 6), .ref (x + 7), .int 1, .int 511])) : Ct G l yX11_setSupport wsX11_setSupport ({ frames := 0, cells := 0, slots := 0, locals := 0 }) 0 0 [.ref x, .int 8, .int 1] Φ sz (fun v Φ1 sz1 => v = some (.int 1) ∧ ∀ b9 : Nat, x + 149 ≤ b9 → Φ1 b9 = Φ b9) := by
  refine Ct.of (cc := cX11_setSupport) (maxL := 4) (ret := (some .boolean)) (by decide) rfl (Nat.le_of_ble_eq_true rfl) ?_
  intro p9 e9 s9 m9 w9 t9 k9 B
  show Z p9 l e9 _ s9 m9 _ w9 t9 k9 _ G 4 0 [(0, .ref x), (1, .int 8), (2, .int 1)] [] Φ sz 0 0
  refine z_iload_n B dX11_setSupport_0 rfl 1 rfl ?_
  refine z_if_lt (tgt := 10) B dX11_setSupport_1 rfl (fun h9 => absurd h9 (by decide)) (fun c_1 => ?_)
  refine z_iload_n B dX11_setSupport_4 rfl 1 rfl ?_
  refine z_bipush (v := 9) B dX11_setSupport_5 rfl ?_
  refine z_icmp_lt (tgt := 18) B dX11_setSupport_7 rfl (fun c_2 => ?_) (fun h9 => absurd (by decide) h9)
  refine z_aload_n B dX11_setSupport_18 rfl 0 rfl ?_
  refine z_get (ref := "FlowExporter") (C := RX11) (T := TX11) (N := 8) (ci := 13) (v := .ref (x + 3)) B (by decide +kernel) rfl 1 (by decide) (by decide +kernel) rfl hc0_ rfl dX11_setSupport_19 ?_
  refine z_get (ref := "FlowExporter$Config") (C := RX1) (T := TX1) (N := 6) (ci := 3) (v := .int 511) B (by decide +kernel) rfl 5 (by decide) (by decide +kernel) rfl hc3_ rfl dX11_setSupport_22 ?_
  refine z_iload_n B dX11_setSupport_25 rfl 1 rfl ?_
  refine z_ishr B dX11_setSupport_26 ?_
  refine z_top (st1 := [.int 1]) (congrArg (fun w9 : Int32 => ([.int w9] : List Value)) (show ((511 : Int32) >>> ((8 : Int32) &&& (31 : Int32)) : Int32) = 1 by decide +kernel)) ?_
  refine z_iconst (v := 1) B dX11_setSupport_27 rfl ?_
  refine z_iand B dX11_setSupport_28 ?_
  refine z_top (st1 := [.int 1]) (congrArg (fun w9 : Int32 => ([.int w9] : List Value)) (show (1 &&& 1 : Int32) = 1 by decide +kernel)) ?_
  refine z_iconst (v := 1) B dX11_setSupport_29 rfl ?_
  refine z_icmp_ne (tgt := 37) B dX11_setSupport_30 rfl (fun h9 => absurd (by decide) h9) (fun c_3 => ?_)
  refine z_iconst (v := 1) B dX11_setSupport_33 rfl ?_
  refine z_goto (tgt := 38) B dX11_setSupport_34 rfl ?_
  refine z_istore_n (lv' := [(3, .int 1), (0, .ref x), (1, .int 8), (2, .int 1)]) B dX11_setSupport_38 rfl (Nat.le_of_ble_eq_true rfl) rfl ?_
  refine z_iload_n B dX11_setSupport_39 rfl 0 rfl ?_
  refine z_iload_n B dX11_setSupport_40 rfl 3 rfl ?_
  refine z_icmp_eq (tgt := 70) B dX11_setSupport_41 rfl (fun c_4 => ?_) (fun h9 => absurd (by decide) h9)
  refine z_iload_n B dX11_setSupport_70 rfl 0 rfl ?_
  exact z_ret_z B dX11_setSupport_71 (by decide) ⟨rfl, fun b9 h9 => rfl⟩

set_option maxHeartbeats 4000000 in
set_option maxRecDepth 100000 in
theorem f_X11_setSupport_x (G : EnvG) (l : Launch) (hl9 : l.stackTraces = false) (Φ : Hm) (sz : Nat) (x : Nat) (a : Int32) (s : Int32) (ha : ¬ (¬ a < 0 ∧ a < 9)) : CtX G l yX11_setSupport wsX11_setSupport ({ frames := 6, cells := 1, slots := 6, locals := 81 }) 1 6 [.ref x, .int a, .int s] Φ sz xIA := by
  refine CtX.of (cc := cX11_setSupport) (maxL := 4) (ret := (some .boolean)) (by decide) rfl (Nat.le_of_ble_eq_true rfl) ?_
  intro p9 e9 s9 m9 w9 t9 k9 B htab9
  show Z p9 l e9 _ s9 m9 _ w9 t9 k9 _ G 4 0 [(0, .ref x), (1, .int a), (2, .int s)] [] Φ sz 0 0
  refine z_iload_n B dX11_setSupport_0 rfl 1 rfl ?_
  refine z_if_lt (tgt := 10) B dX11_setSupport_1 rfl (fun c_1 => ?_) (fun c_1 => ?_)
  · exact z_throw (cls := xIA) (ik := 116) (ic := 118) B hl9 htab9 (by decide) (by decide +kernel) (by decide +kernel) (by decide +kernel) (by decide +kernel) (by decide +kernel) (by decide +kernel) (by decide +kernel) dX11_setSupport_10 dX11_setSupport_13 dX11_setSupport_14 dX11_setSupport_17 ⟨Nat.le_of_ble_eq_true rfl, Nat.le_of_ble_eq_true rfl, Nat.le_of_ble_eq_true rfl, Nat.le_of_ble_eq_true rfl⟩ ⟨Nat.le_of_ble_eq_true rfl, Nat.le_of_ble_eq_true rfl⟩
  · refine z_iload_n B dX11_setSupport_4 rfl 1 rfl ?_
    refine z_bipush (v := 9) B dX11_setSupport_5 rfl ?_
    refine z_icmp_lt (tgt := 18) B dX11_setSupport_7 rfl (fun h9 => absurd h9 (fun h8 => ha ⟨c_1, h8⟩)) (fun c_2 => ?_)
    exact z_throw (cls := xIA) (ik := 116) (ic := 118) B hl9 htab9 (by decide) (by decide +kernel) (by decide +kernel) (by decide +kernel) (by decide +kernel) (by decide +kernel) (by decide +kernel) (by decide +kernel) dX11_setSupport_10 dX11_setSupport_13 dX11_setSupport_14 dX11_setSupport_17 ⟨Nat.le_of_ble_eq_true rfl, Nat.le_of_ble_eq_true rfl, Nat.le_of_ble_eq_true rfl, Nat.le_of_ble_eq_true rfl⟩ ⟨Nat.le_of_ble_eq_true rfl, Nat.le_of_ble_eq_true rfl⟩

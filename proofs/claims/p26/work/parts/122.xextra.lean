theorem ab_inj {G : EnvG} {n m : Nat} {f g : Nat → Int32} (h : some (ab_ G n f) = some (ab_ G m g)) : f = g := by
  have h1 := Option.some.inj h
  have h2 := Sum.inl.inj h1
  have h3 := (Prod.mk.inj (Prod.mk.inj h2).2).2
  exact Sum.inl.inj h3
theorem im_fit {G : EnvG} {x : Nat} {T : MT} {Φ : Hm} {f : Nat → Int32} (h : Im G x T Φ) (hc : Φ (x + 25) = some (ab_ G 700 f)) : ∀ j9, fits .byte (.int (f j9)) = true := by
  obtain ⟨f2, h2, h3⟩ := h.2 25 (by decide) (by decide)
  have e := ab_inj (hc.symm.trans h2)
  subst e
  exact h3
theorem bI_at {a : Int32} {i : Nat} (h1 : 1 ≤ i) (h2 : i ≤ 4) : (a >>> ((nI (8 * i) - 8) &&& 31)).toInt8.toInt32 = bI a (3 - (4 - i)) := by
  have e : nI (8 * i) - 8 = nI (8 * (i - 1)) := by
    have h3 : nI (8 * i) - nI 8 = nI (8 * i - 8) := nI_sub (by omega)
    rw [show 8 * (i - 1) = 8 * i - 8 by omega]
    exact h3
  rw [e, show 3 - (4 - i) = i - 1 by omega]
  rfl
theorem AppI_of {f f1 f2 f3 f4 f5 : Nat → Int32} {m m1 m2 m3 m4 : Nat} {a b d p q : Int32} (e1 : m1 = m + 4) (e2 : m2 = m + 8) (e3 : m3 = m + 12) (e4 : m4 = m + 16) (h1 : PutP f m 4 (fun t9 => bI a (3 - t9)) f1) (h2 : PutP f1 m1 4 (fun t9 => bI b (3 - t9)) f2) (h3 : PutP f2 m2 4 (fun t9 => bI d (3 - t9)) f3) (h4 : PutP f3 m3 4 (fun t9 => bI p (3 - t9)) f4) (h5 : PutP f4 m4 4 (fun t9 => bI q (3 - t9)) f5) : AppR bI f m a b d p q f5 := by
  subst e1
  subst e2
  subst e3
  subst e4
  exact ⟨f1, f2, f3, f4, h1, h2, h3, h4, h5⟩

set_option maxHeartbeats 4000000 in
set_option maxRecDepth 100000 in
theorem s_X11_appendInputC (G : EnvG) (l : Launch) (Φ : Hm) (sz x ca : Nat) (n : Nat) (fB : Nat → Int32) (a : Int32) (b : Int32) (d : Int32) (f : Int32) (g : Int32) (hx : G.2.2.2 ≤ x) (hI : In G x ca Φ) (hc0 : Φ (x + 1) = some (o_ 7 [.ref (x + 2), .int (nI n)])) (hc1 : Φ (x + 2) = some (ab_ G 700 fB)) (hn : n ≤ 700) (hfit : ∀ j9, fits .byte (.int (fB j9)) = true) : Ct G l yX11_appendInput wsX11_appendInput ({ frames := 1, cells := 0, slots := 0, locals := 24 }) 0 0 [.ref x, .int a, .int b, .int d, .int f, .int g] Φ sz (fun v Φ1 sz1 => (∃ (n9 : Nat) (f9 : Nat → Int32), Φ1 (x + 1) = some (o_ 7 [.ref (x + 2), .int (nI n9)]) ∧ Φ1 (x + 2) = some (ab_ G 700 f9) ∧ apV n v n9 ∧ (n9 = n → f9 = fB) ∧ (n ≤ 680 → AppR (fun w k => bL w.toInt64 k) fB n a b d f g f9)) ∧ sz1 = sz ∧ In G x (ca) Φ1 ∧ Fr x (fun j9 => j9 = 1 ∨ j9 = 2) Φ Φ1) := by
  refine Ct.of (cc := cX11_appendInput) (maxL := 6) (ret := (some .int)) (by decide) rfl (Nat.le_of_ble_eq_true rfl) ?_
  intro p9 e9 s9 m9 w9 t9 k9 B
  show Z p9 l e9 _ s9 m9 _ w9 t9 k9 _ G 6 0 [(0, .ref x), (1, .int a), (2, .int b), (3, .int d), (4, .int f), (5, .int g)] [] Φ sz 0 0
  refine z_aload_n B dX11_appendInput_0 rfl 0 rfl ?_
  have h_1 := in0 (k := 0) hI rfl
  have h_2 : Φ x = some (o_ 13 [.ref (x + 1), .ref (x + 3), .ref (x + 24), .ref (x + 46), .ref (x + 74), .ref (x + 80), .ref (x + 132), .ref (x + 121)]) := h_1
  refine z_get (ref := "FlowExporter") (C := RX11) (T := TX11) (N := 8) (ci := 13) (v := .ref (x + 1)) B hu_X11_appendInput_X11 rfl 0 (Nat.le_of_ble_eq_true rfl) hv_X11_appendInput_14 rfl h_2 rfl dX11_appendInput_1 ?_
  refine z_get (ref := "FlowExporter$Message") (C := RX5) (T := TX5) (N := 2) (ci := 7) (v := .int (nI n)) B hu_X11_appendInput_X5 rfl 1 (Nat.le_of_ble_eq_true rfl) hv_X11_appendInput_97 rfl hc0 rfl dX11_appendInput_4 ?_
  refine z_bipush (v := 20) B dX11_appendInput_7 rfl ?_
  refine z_iadd B dX11_appendInput_9 ?_
  refine z_top (st1 := [.int (nI (n + 20))]) (congrArg (fun w9 : Int32 => ([.int w9] : List Value)) (nI_add n 20)) ?_
  refine z_sipush (v := 700) B dX11_appendInput_10 rfl ?_
  refine z_icmp_le (tgt := 18) B dX11_appendInput_13 rfl (fun c_1 => ?_) (fun c_1 => ?_)
  · have e_1 : n + 20 ≤ 700 := (nI_leI (a := n + 20) (b := 700) (by omega) (by omega)).mp c_1
    refine z_aload_n B dX11_appendInput_18 rfl 0 rfl ?_
    refine z_get (ref := "FlowExporter") (C := RX11) (T := TX11) (N := 8) (ci := 13) (v := .ref (x + 1)) B hu_X11_appendInput_X11 rfl 0 (Nat.le_of_ble_eq_true rfl) hv_X11_appendInput_14 rfl h_2 rfl dX11_appendInput_19 ?_
    refine z_iload_n B dX11_appendInput_22 rfl 1 rfl ?_
    refine z_i2l (v := a.toInt64) B dX11_appendInput_23 rfl ?_
    refine z_iconst (v := 4) B dX11_appendInput_24 rfl ?_
    refine z_callV (As := [.long a.toInt64, .int 4]) (rest := []) B (s_X5_putB G l Φ sz x (ca) n fB a.toInt64 4 hx hI hc0 hc1 (show 4 ≤ 8 by omega) (show n + 4 ≤ 700 by omega) hfit) (cwV 2 B.1.2.2.2.2 gX11_appendInput_X5_put rfl rfl rfl (by decide +kernel) ⟨Nat.le_of_ble_eq_true rfl, Nat.le_of_ble_eq_true rfl⟩) hc0 rfl rfl rfl rfl (Nat.le_of_ble_eq_true rfl) dX11_appendInput_25 ⟨Nat.le_of_ble_eq_true rfl, Nat.le_of_ble_eq_true rfl⟩ (fun r_1 Φ1 sz1 st1 hp1 hs1 => ?_)
    obtain ⟨⟨rfl, h_3, f_1, h_4, r_2, hP1⟩, hq1, hI1, hF1⟩ := hp1
    subst sz1
    replace hs1 : st1 = [] := hs1
    subst st1
    replace hI1 : In G x (ca) Φ1 := hI1
    refine z_aload_n B dX11_appendInput_28 rfl 0 rfl ?_
    have h_5 : Φ1 x = some (o_ 13 [.ref (x + 1), .ref (x + 3), .ref (x + 24), .ref (x + 46), .ref (x + 74), .ref (x + 80), .ref (x + 132), .ref (x + 121)]) := ((hF1 x fq_495).trans h_2)
    refine z_get (ref := "FlowExporter") (C := RX11) (T := TX11) (N := 8) (ci := 13) (v := .ref (x + 1)) B hu_X11_appendInput_X11 rfl 0 (Nat.le_of_ble_eq_true rfl) hv_X11_appendInput_14 rfl h_5 rfl dX11_appendInput_29 ?_
    refine z_iload_n B dX11_appendInput_32 rfl 2 rfl ?_
    refine z_i2l (v := b.toInt64) B dX11_appendInput_33 rfl ?_
    refine z_iconst (v := 4) B dX11_appendInput_34 rfl ?_
    refine z_callV (As := [.long b.toInt64, .int 4]) (rest := []) B (s_X5_putB G l Φ1 sz x (ca) (n + 4) f_1 b.toInt64 4 hx hI1 h_3 h_4 (show 4 ≤ 8 by omega) (show (n + 4) + 4 ≤ 700 by omega) r_2) (cwV 2 B.1.2.2.2.2 gX11_appendInput_X5_put rfl rfl rfl (by decide +kernel) ⟨Nat.le_of_ble_eq_true rfl, Nat.le_of_ble_eq_true rfl⟩) h_3 rfl rfl rfl rfl (Nat.le_of_ble_eq_true rfl) dX11_appendInput_35 ⟨Nat.le_of_ble_eq_true rfl, Nat.le_of_ble_eq_true rfl⟩ (fun r_3 Φ2 sz2 st2 hp2 hs2 => ?_)
    obtain ⟨⟨rfl, h_6, f_2, h_7, r_4, hP2⟩, hq2, hI2, hF2⟩ := hp2
    subst sz2
    replace hs2 : st2 = [] := hs2
    subst st2
    replace hI2 : In G x (ca) Φ2 := hI2
    refine z_aload_n B dX11_appendInput_38 rfl 0 rfl ?_
    have h_8 : Φ2 x = some (o_ 13 [.ref (x + 1), .ref (x + 3), .ref (x + 24), .ref (x + 46), .ref (x + 74), .ref (x + 80), .ref (x + 132), .ref (x + 121)]) := ((hF2 x fq_495).trans h_5)
    refine z_get (ref := "FlowExporter") (C := RX11) (T := TX11) (N := 8) (ci := 13) (v := .ref (x + 1)) B hu_X11_appendInput_X11 rfl 0 (Nat.le_of_ble_eq_true rfl) hv_X11_appendInput_14 rfl h_8 rfl dX11_appendInput_39 ?_
    refine z_iload_n B dX11_appendInput_42 rfl 3 rfl ?_
    refine z_i2l (v := d.toInt64) B dX11_appendInput_43 rfl ?_
    refine z_iconst (v := 4) B dX11_appendInput_44 rfl ?_
    refine z_callV (As := [.long d.toInt64, .int 4]) (rest := []) B (s_X5_putB G l Φ2 sz x (ca) ((n + 4) + 4) f_2 d.toInt64 4 hx hI2 h_6 h_7 (show 4 ≤ 8 by omega) (show ((n + 4) + 4) + 4 ≤ 700 by omega) r_4) (cwV 2 B.1.2.2.2.2 gX11_appendInput_X5_put rfl rfl rfl (by decide +kernel) ⟨Nat.le_of_ble_eq_true rfl, Nat.le_of_ble_eq_true rfl⟩) h_6 rfl rfl rfl rfl (Nat.le_of_ble_eq_true rfl) dX11_appendInput_45 ⟨Nat.le_of_ble_eq_true rfl, Nat.le_of_ble_eq_true rfl⟩ (fun r_5 Φ3 sz3 st3 hp3 hs3 => ?_)
    obtain ⟨⟨rfl, h_9, f_3, h_10, r_6, hP3⟩, hq3, hI3, hF3⟩ := hp3
    subst sz3
    replace hs3 : st3 = [] := hs3
    subst st3
    replace hI3 : In G x (ca) Φ3 := hI3
    refine z_aload_n B dX11_appendInput_48 rfl 0 rfl ?_
    have h_11 : Φ3 x = some (o_ 13 [.ref (x + 1), .ref (x + 3), .ref (x + 24), .ref (x + 46), .ref (x + 74), .ref (x + 80), .ref (x + 132), .ref (x + 121)]) := ((hF3 x fq_495).trans h_8)
    refine z_get (ref := "FlowExporter") (C := RX11) (T := TX11) (N := 8) (ci := 13) (v := .ref (x + 1)) B hu_X11_appendInput_X11 rfl 0 (Nat.le_of_ble_eq_true rfl) hv_X11_appendInput_14 rfl h_11 rfl dX11_appendInput_49 ?_
    refine z_iload B dX11_appendInput_52 4 rfl ?_
    refine z_i2l (v := f.toInt64) B dX11_appendInput_54 rfl ?_
    refine z_iconst (v := 4) B dX11_appendInput_55 rfl ?_
    refine z_callV (As := [.long f.toInt64, .int 4]) (rest := []) B (s_X5_putB G l Φ3 sz x (ca) (((n + 4) + 4) + 4) f_3 f.toInt64 4 hx hI3 h_9 h_10 (show 4 ≤ 8 by omega) (show (((n + 4) + 4) + 4) + 4 ≤ 700 by omega) r_6) (cwV 2 B.1.2.2.2.2 gX11_appendInput_X5_put rfl rfl rfl (by decide +kernel) ⟨Nat.le_of_ble_eq_true rfl, Nat.le_of_ble_eq_true rfl⟩) h_9 rfl rfl rfl rfl (Nat.le_of_ble_eq_true rfl) dX11_appendInput_56 ⟨Nat.le_of_ble_eq_true rfl, Nat.le_of_ble_eq_true rfl⟩ (fun r_7 Φ4 sz4 st4 hp4 hs4 => ?_)
    obtain ⟨⟨rfl, h_12, f_4, h_13, r_8, hP4⟩, hq4, hI4, hF4⟩ := hp4
    subst sz4
    replace hs4 : st4 = [] := hs4
    subst st4
    replace hI4 : In G x (ca) Φ4 := hI4
    refine z_aload_n B dX11_appendInput_59 rfl 0 rfl ?_
    have h_14 : Φ4 x = some (o_ 13 [.ref (x + 1), .ref (x + 3), .ref (x + 24), .ref (x + 46), .ref (x + 74), .ref (x + 80), .ref (x + 132), .ref (x + 121)]) := ((hF4 x fq_495).trans h_11)
    refine z_get (ref := "FlowExporter") (C := RX11) (T := TX11) (N := 8) (ci := 13) (v := .ref (x + 1)) B hu_X11_appendInput_X11 rfl 0 (Nat.le_of_ble_eq_true rfl) hv_X11_appendInput_14 rfl h_14 rfl dX11_appendInput_60 ?_
    refine z_iload B dX11_appendInput_63 5 rfl ?_
    refine z_i2l (v := g.toInt64) B dX11_appendInput_65 rfl ?_
    refine z_iconst (v := 4) B dX11_appendInput_66 rfl ?_
    refine z_callV (As := [.long g.toInt64, .int 4]) (rest := []) B (s_X5_putB G l Φ4 sz x (ca) ((((n + 4) + 4) + 4) + 4) f_4 g.toInt64 4 hx hI4 h_12 h_13 (show 4 ≤ 8 by omega) (show ((((n + 4) + 4) + 4) + 4) + 4 ≤ 700 by omega) r_8) (cwV 2 B.1.2.2.2.2 gX11_appendInput_X5_put rfl rfl rfl (by decide +kernel) ⟨Nat.le_of_ble_eq_true rfl, Nat.le_of_ble_eq_true rfl⟩) h_12 rfl rfl rfl rfl (Nat.le_of_ble_eq_true rfl) dX11_appendInput_67 ⟨Nat.le_of_ble_eq_true rfl, Nat.le_of_ble_eq_true rfl⟩ (fun r_9 Φ5 sz5 st5 hp5 hs5 => ?_)
    obtain ⟨⟨rfl, h_15, f_5, h_16, r_10, hP5⟩, hq5, hI5, hF5⟩ := hp5
    subst sz5
    replace hs5 : st5 = [] := hs5
    subst st5
    replace hI5 : In G x (ca) Φ5 := hI5
    refine z_aload_n B dX11_appendInput_70 rfl 0 rfl ?_
    have h_17 : Φ5 x = some (o_ 13 [.ref (x + 1), .ref (x + 3), .ref (x + 24), .ref (x + 46), .ref (x + 74), .ref (x + 80), .ref (x + 132), .ref (x + 121)]) := ((hF5 x fq_495).trans h_14)
    refine z_get (ref := "FlowExporter") (C := RX11) (T := TX11) (N := 8) (ci := 13) (v := .ref (x + 1)) B hu_X11_appendInput_X11 rfl 0 (Nat.le_of_ble_eq_true rfl) hv_X11_appendInput_14 rfl h_17 rfl dX11_appendInput_71 ?_
    refine z_get (ref := "FlowExporter$Message") (C := RX5) (T := TX5) (N := 2) (ci := 7) (v := .int (nI (((((n + 4) + 4) + 4) + 4) + 4))) B hu_X11_appendInput_X5 rfl 1 (Nat.le_of_ble_eq_true rfl) hv_X11_appendInput_97 rfl h_15 rfl dX11_appendInput_74 ?_
    exact z_ret_i B dX11_appendInput_77 ⟨⟨((((n + 4) + 4) + 4) + 4) + 4, f_5, h_15, h_16, Or.inr ⟨by omega, congrArg (fun w9 : Nat => some (Value.int (nI w9))) (show ((((n + 4) + 4) + 4) + 4) + 4 = n + 20 by omega), by omega⟩, fun h9 => absurd h9 (by omega), fun _ => App_of hP1 hP2 hP3 hP4 hP5⟩, rfl, hI5, (fun b9 h9 => ((hF5 b9 h9).trans ((hF4 b9 h9).trans ((hF3 b9 h9).trans ((hF2 b9 h9).trans ((hF1 b9 h9).trans rfl))))))⟩
  · have e_2 : ¬ (n + 20 ≤ 700) := fun h9 => c_1 ((nI_leI (a := n + 20) (b := 700) (by omega) (by omega)).mpr h9)
    refine z_iconst (v := (-1)) B dX11_appendInput_16 rfl ?_
    exact z_ret_i B dX11_appendInput_17 ⟨⟨n, fB, hc0, hc1, Or.inl ⟨by omega, rfl, by omega⟩, fun _ => rfl, fun h9 => absurd h9 (by omega)⟩, rfl, hI, (fun b9 h9 => rfl)⟩

theorem fq_1331 : ∀ j9 : Nat, (74 ≤ j9 ∧ j9 < 80) → ((74 ≤ j9 ∧ j9 < 80) ∨ j9 = 81) := by
  intro j9 h
  omega

set_option maxHeartbeats 4000000 in
set_option maxRecDepth 100000 in
theorem s_X11_restartExporterC (G : EnvG) (l : Launch) (Φ : Hm) (sz x ca : Nat)  (hx : G.2.2.2 ≤ x) (hI : In G x ca Φ)  : Ct G l yX11_restartExporter wsX11_restartExporter ({ frames := 3, cells := 0, slots := 0, locals := 63 }) 0 0 [.ref x] Φ sz (fun v Φ1 sz1 => (∃ r9 : Int32, v = some (.int r9)) ∧ sz1 = sz ∧ In G x (ca) Φ1 ∧ Fr x (fun j9 => (74 ≤ j9 ∧ j9 < 80) ∨ j9 = 81) Φ Φ1) := by
  refine Ct.of (cc := cX11_restartExporter) (maxL := 2) (ret := (some .int)) (by decide) rfl (Nat.le_of_ble_eq_true rfl) ?_
  intro p9 e9 s9 m9 w9 t9 k9 B
  show Z p9 l e9 _ s9 m9 _ w9 t9 k9 _ G 2 0 [(0, .ref x)] [] Φ sz 0 0
  refine z_aload_n B dX11_restartExporter_0 rfl 0 rfl ?_
  have h_1 := in0 (k := 0) hI rfl
  have h_2 : Φ x = some (o_ 13 [.ref (x + 1), .ref (x + 3), .ref (x + 24), .ref (x + 46), .ref (x + 74), .ref (x + 80), .ref (x + 132), .ref (x + 121)]) := h_1
  refine z_get (ref := "FlowExporter") (C := RX11) (T := TX11) (N := 8) (ci := 13) (v := .ref (x + 80)) B hu_X11_restartExporter_X11 rfl 5 (Nat.le_of_ble_eq_true rfl) hv_X11_restartExporter_55 rfl h_2 rfl dX11_restartExporter_1 ?_
  obtain ⟨v_1, v_2, v_3, v_4, v_5, v_6, v_7, v_8, v_9, h_3, b_1⟩ := in16 (k := 80) hI rfl
  have h_4 : Φ (x + 80) = some (o_ 4 [.ref (x + 3), .ref (x + 74), .ref (x + 81), .ref (x + 95), .int v_1, .int v_2, .int v_3, .int v_4, .int v_5, .int v_6, .long v_7, .long v_8, .long v_9]) := h_3
  refine z_get (ref := "FlowExporter$Exporter") (C := RX2) (T := TX2) (N := 13) (ci := 4) (v := .ref (x + 81)) B hu_X11_restartExporter_X2 rfl 2 (Nat.le_of_ble_eq_true rfl) hv_X11_restartExporter_146 rfl h_4 rfl dX11_restartExporter_4 ?_
  obtain ⟨n_1, h_5, b_2⟩ := in17 (k := 81) hI rfl
  replace b_2 : n_1 ≤ 12 := b_2
  have h_6 : Φ (x + 81) = some (o_ 6 [.ref (x + 82), .int (nI n_1)]) := h_5
  refine z_get (ref := "FlowExporter$FlowTable") (C := RX4) (T := TX4) (N := 2) (ci := 6) (v := .int (nI n_1)) B hu_X11_restartExporter_X4 rfl 1 (Nat.le_of_ble_eq_true rfl) hv_X11_restartExporter_150 rfl h_6 rfl dX11_restartExporter_7 ?_
  refine z_istore_n (lv' := [(1, .int (nI n_1)), (0, .ref x)]) B dX11_restartExporter_10 rfl (Nat.le_of_ble_eq_true rfl) rfl ?_
  refine z_aload_n B dX11_restartExporter_11 rfl 1 rfl ?_
  refine z_get (ref := "FlowExporter") (C := RX11) (T := TX11) (N := 8) (ci := 13) (v := .ref (x + 80)) B hu_X11_restartExporter_X11 rfl 5 (Nat.le_of_ble_eq_true rfl) hv_X11_restartExporter_55 rfl h_2 rfl dX11_restartExporter_12 ?_
  refine z_get (ref := "FlowExporter$Exporter") (C := RX2) (T := TX2) (N := 13) (ci := 4) (v := .ref (x + 81)) B hu_X11_restartExporter_X2 rfl 2 (Nat.le_of_ble_eq_true rfl) hv_X11_restartExporter_146 rfl h_4 rfl dX11_restartExporter_15 ?_
  refine z_iconst (v := 0) B dX11_restartExporter_18 rfl ?_
  refine z_put (ref := "FlowExporter$FlowTable") (C := RX4) (T := TX4) (N := 2) (ci := 6) (v := .int 0) B hu_X11_restartExporter_X4 tyX4 tyX4_ok nmX4 rfl 1 (Nat.le_of_ble_eq_true rfl) hv_X11_restartExporter_150 rfl (Or.inl rfl) h_6 (Nat.le_trans hx (Nat.le_add_right x 81)) rfl rfl (Nat.le_of_ble_eq_true rfl) dX11_restartExporter_19 (fun Φ1 hΦ1 => ?_)
  have h_7 : Φ1 (x + 81) = some (o_ 6 [.ref (x + 82), .int 0]) := fset_at hΦ1
  have hI1 : In G x (ca) Φ1 := In.put (k := 81) hI hΦ1 (ok17 (k := 81) rfl ⟨0, rfl, (show 0 ≤ 12 by omega)⟩)
  refine z_aload_n B dX11_restartExporter_22 rfl 1 rfl ?_
  have h_8 : Φ1 x = some (o_ 13 [.ref (x + 1), .ref (x + 3), .ref (x + 24), .ref (x + 46), .ref (x + 74), .ref (x + 80), .ref (x + 132), .ref (x + 121)]) := ((fset_fr hΦ1 (ne_off (x := x) (i := 0) (j := 81) rfl)).trans h_2)
  refine z_get (ref := "FlowExporter") (C := RX11) (T := TX11) (N := 8) (ci := 13) (v := .ref (x + 74)) B hu_X11_restartExporter_X11 rfl 4 (Nat.le_of_ble_eq_true rfl) hv_X11_restartExporter_46 rfl h_8 rfl dX11_restartExporter_23 ?_
  obtain ⟨n_2, v_10, v_11, v_12, h_9, b_3⟩ := in13 (k := 74) hI1 rfl
  have h_10 : Φ1 (x + 74) = some (o_ 10 [.ref (x + 3), .ref (x + 46), .ref (x + 75), .ref (x + 77), .int (nI n_2), .ref (x + 78), .ref (x + 79), .int v_10, .long v_11, .int v_12]) := h_9
  refine z_callV (As := []) (rest := []) B (s_X8_restart G l Φ1 sz x (ca)  hx hI1 ) (cwV 0 B.1.2.2.2.2 gX11_restartExporter_X8_restart rfl rfl rfl (by decide +kernel) ⟨Nat.le_of_ble_eq_true rfl, Nat.le_of_ble_eq_true rfl⟩) h_10 rfl rfl rfl rfl (Nat.le_of_ble_eq_true rfl) dX11_restartExporter_26 ⟨Nat.le_of_ble_eq_true rfl, Nat.le_of_ble_eq_true rfl⟩ (fun r_1 Φ2 sz1 st1 hp1 hs1 => ?_)
  obtain ⟨rfl, hq1, hI2, hF1⟩ := hp1
  subst sz1
  replace hs1 : st1 = [] := hs1
  subst st1
  replace hI2 : In G x (ca) Φ2 := hI2
  refine z_iload_n B dX11_restartExporter_29 rfl 0 rfl ?_
  exact z_ret_i B dX11_restartExporter_30 ⟨⟨_, rfl⟩, rfl, hI2, (fun b9 h9 => ((hF1 b9 (fun j9 h8 h7 => h9 j9 h8 (fq_1331 j9 h7))).trans ((fset_fr hΦ1 (fun h8 => h9 (81) h8 (show (74 ≤ 81 ∧ 81 < 80) ∨ 81 = 81 by decide))).trans rfl)))⟩

set_option maxHeartbeats 4000000 in
set_option maxRecDepth 100000 in
theorem r_appendBytesB (G : EnvG) (l : Launch) (Φ : Hm) (sz x : Nat) (rd : (Nat → Int32) → Prop) (nw : (Nat → Int32) → Prop) (cr : (Nat → Int64) → Prop) (tp : (Nat → Int32) → Prop) (tt : (Nat → Int64) → Prop) (sI : (Nat → Int32) → Prop) (sT : (Nat → Int32) → Prop) (pt : (Nat → Int32) → Prop) (ql : (Nat → Int32) → Prop) (fl : Nat) (pe : Nat) (le : Nat) (nx : Nat) (il : Nat) (qu : Nat) (kn : Int32) (ec : Int32) (nu : Int32) (va : Int64) (st : Nat) (ep : Int32) (ti : Int32) (ad : Int32) (ob : Int64) (ra : Int32) (rt : Nat) (ex : Int32) (sa : Int64) (us : Int64) (tk : Nat) (th : Int32) (me : Int32) (dr : Int32) (se : Int64) (sn : Int64) (fB : Nat → Int32) (a : Int32) (hx : G.2.2.2 ≤ x) (hI : Im G x (rd, nw, cr, tp, tt, sI, sT, pt, ql, fl, pe, le, nx, il, qu, kn, ec, nu, va, st, ep, ti, ad, ob, ra, rt, ex, sa, us, tk, th, me, dr, se, sn) Φ) (hc0 : Φ (x + 25) = some (ab_ G 700 fB)) (hl : il + 4 ≤ 700) (hnw : ∀ f9 : Nat → Int32, nw f9 → NN f9) : Ct G l yX12_appendBytes wsX12_appendBytes ({ frames := 0, cells := 0, slots := 0, locals := 0 }) 0 0 [.ref x, .int a] Φ sz (fun v Φ1 sz1 => (v = none ∧ ∃ f9 : Nat → Int32, Φ1 (x + 25) = some (ab_ G 700 f9) ∧ (∀ j9, fits .byte (.int (f9 j9)) = true) ∧ PutP fB il 4 (fun t9 => bI a (3 - t9)) f9) ∧ sz1 = sz ∧ (∃ (il1 : Nat), (il1 = il + 4) ∧ Im G x (rd, nw, cr, tp, tt, sI, sT, pt, ql, fl, pe, le, nx, il1, qu, kn, ec, nu, va, st, ep, ti, ad, ob, ra, rt, ex, sa, us, tk, th, me, dr, se, sn) Φ1) ∧ Fr x (fun j9 => j9 = 0 ∨ j9 = 25) Φ Φ1) := by
  refine Ct.of (cc := cX12_appendBytes) (maxL := 3) (ret := none) (by decide) rfl (Nat.le_of_ble_eq_true rfl) ?_
  intro p9 e9 s9 m9 w9 t9 k9 B
  show Z p9 l e9 _ s9 m9 _ w9 t9 k9 _ G 3 0 [(0, .ref x), (1, .int a)] [] Φ sz 0 0
  refine z_bipush (v := 24) B dX12_appendBytes_0 rfl ?_
  refine z_istore_n (lv' := [(2, .int 24), (0, .ref x), (1, .int a)]) B dX12_appendBytes_2 rfl (Nat.le_of_ble_eq_true rfl) rfl ?_
  refine z_lv (lv' := [(2, .int (nI (8 * 4) - 8)), (0, .ref x), (1, .int a)]) [0, 1, 2] (by rw [show nI (8 * 4) - 8 = (24 : Int32) by decide]; first | done | rfl) ?_
  refine z_loop (α := Nat × Nat) (fun (a9 : Nat × Nat) Φi => Im G x (rd, nw, cr, tp, tt, sI, sT, pt, ql, fl, pe, le, nx, a9.2, qu, kn, ec, nu, va, st, ep, ti, ad, ob, ra, rt, ex, sa, us, tk, th, me, dr, se, sn) Φi ∧ Fr x (fun j9 => j9 = 0 ∨ j9 = 25) Φ Φi ∧ (a9.1 ≤ 4) ∧ (a9.2 + a9.1 = il + 4) ∧ (∃ f9 : Nat → Int32, Φi (x + 25) = some (ab_ G 700 f9) ∧ (∀ j9, fits .byte (.int (f9 j9)) = true) ∧ PutP fB il (4 - a9.1) (fun t9 => bI a (3 - t9)) f9) ∧ True) (fun a9 => [(2, .int (nI (8 * (a9.1)) - 8)), (0, .ref x), (1, .int a)]) (fun a9 => a9.1) ?_ (4, il) ⟨hI, fun _ _ => rfl, (show 4 ≤ 4 by omega), (show il + 4 = il + 4 by omega), ⟨fB, hc0, im_fit hI hc0, PutP_0 (by omega)⟩, trivial⟩
  rintro ⟨i_1, i_2⟩ Φl1 ⟨hI1, hF1, b_1, b_2, b_3, -⟩ ih1
  replace hI1 : Im G x (rd, nw, cr, tp, tt, sI, sT, pt, ql, fl, pe, le, nx, i_2, qu, kn, ec, nu, va, st, ep, ti, ad, ob, ra, rt, ex, sa, us, tk, th, me, dr, se, sn) Φl1 := hI1
  replace b_1 : i_1 ≤ 4 := b_1
  replace b_2 : i_2 + i_1 = il + 4 := b_2
  replace b_3 : ∃ f9 : Nat → Int32, Φl1 (x + 25) = some (ab_ G 700 f9) ∧ (∀ j9, fits .byte (.int (f9 j9)) = true) ∧ PutP fB il (4 - i_1) (fun t9 => bI a (3 - t9)) f9 := b_3
  show Z p9 l e9 _ s9 m9 _ w9 t9 k9 _ G 3 3 [(2, .int (nI (8 * i_1) - 8)), (0, .ref x), (1, .int a)] [] Φl1 _ _ _
  obtain ⟨f_1, h_1, r_1, hP1⟩ := b_3
  refine z_iload_n B dX12_appendBytes_3 rfl 0 rfl ?_
  refine z_if_lt (tgt := 36) B dX12_appendBytes_4 rfl (fun c_1 => ?_) (fun c_1 => ?_)
  · have e_1 : i_1 = 0 := (m8_lt (j := i_1) (by omega)).1 c_1
    exact z_ret_v B dX12_appendBytes_36 ⟨⟨rfl, f_1, h_1, r_1, PutP_c hP1 (show 4 - i_1 = 4 by omega)⟩, rfl, ⟨i_2, (show i_2 = il + 4 by omega), hI1⟩, (fun b9 h9 => ((hF1 b9 h9).trans rfl))⟩
  · have e_2 : 1 ≤ i_1 := (m8_lt (j := i_1) (by omega)).2 c_1
    refine z_aload_n B dX12_appendBytes_7 rfl 1 rfl ?_
    obtain ⟨n_1, v_1, n_2, h_2, b_16, b_4, b_5, b_6, b_7, b_8, b_9, b_10, b_11, b_12, b_13, b_14, b_15⟩ := im0 hI1
    replace b_4 : 1 ≤ rt := b_4
    replace b_5 : rt ≤ 1024 := b_5
    replace b_6 : fl ≤ 12 := b_6
    replace b_7 : pe ≤ 24 := b_7
    replace b_8 : le ≤ 700 := b_8
    replace b_9 : qu ≤ 12 := b_9
    replace b_10 : n_1 ≤ 8 := b_10
    replace b_11 : n_2 ≤ 24 := b_11
    replace b_12 : tk ≤ 24 := b_12
    replace b_13 : i_2 ≤ 700 := b_13
    replace b_14 : nx ≤ 701 := b_14
    replace b_15 : st ≤ 701 := b_15
    have h_3 : Φl1 x = some (o_ 14 [.int th, .ref (x + 1), .ref (x + 2), .int ti, .int ra, .int (nI rt), .int ex, .int ad, .ref (x + 3), .ref (x + 4), .int me, .long se, .ref (x + 5), .int (nI fl), .int dr, .long ob, .long sa, .long sn, .long us, .ref (x + 6), .ref (x + 7), .int (nI pe), .ref (x + 8), .int (nI le), .ref (x + 9), .ref (x + 10), .int (nI qu), .ref (x + 11), .ref (x + 12), .ref (x + 13), .ref (x + 14), .ref (x + 15), .ref (x + 16), .int (nI n_1), .long v_1, .ref (x + 17), .ref (x + 18), .ref (x + 19), .ref (x + 20), .ref (x + 21), .ref (x + 22), .int (nI n_2), .ref (x + 23), .ref (x + 24), .int (nI tk), .ref (x + 25), .int (nI i_2), .int (nI nx), .int ec, .int ep, .int kn, .int (nI st), .int nu, .long va]) := h_2
    refine z_get (ref := "FlowExporterModel") (C := RX12) (T := TX12) (N := 54) (ci := 14) (v := .ref (x + 25)) B hu_X12_appendBytes_X12 rfl 45 (Nat.le_of_ble_eq_true rfl) hv_X12_appendBytes_88 rfl h_3 rfl dX12_appendBytes_8 ?_
    refine z_aload_n B dX12_appendBytes_11 rfl 1 rfl ?_
    refine z_get (ref := "FlowExporterModel") (C := RX12) (T := TX12) (N := 54) (ci := 14) (v := .int (nI i_2)) B hu_X12_appendBytes_X12 rfl 46 (Nat.le_of_ble_eq_true rfl) hv_X12_appendBytes_441 rfl h_3 rfl dX12_appendBytes_12 ?_
    refine z_iload_n B dX12_appendBytes_15 rfl 2 rfl ?_
    refine z_iload_n B dX12_appendBytes_16 rfl 0 rfl ?_
    refine z_ishr B dX12_appendBytes_17 ?_
    refine z_i2b (v := (a >>> ((nI (8 * i_1) - 8) &&& 31)).toInt8.toInt32) B dX12_appendBytes_18 rfl ?_
    refine z_bast B h_1 (Nat.le_trans hx (Nat.le_add_right x 25)) (vp_in_nI (by omega) (by omega)) dX12_appendBytes_19 (fun Φ1 hΦ1 => ?_)
    have h_4 : Φ1 (x + 25) = some (ab_ G 700 (upd f_1 (nI i_2).toNatClampNeg (vp_nar .byte ((a >>> ((nI (8 * i_1) - 8) &&& 31)).toInt8.toInt32)))) := fset_at hΦ1
    have hI2 : Im G x (rd, nw, cr, tp, tt, sI, sT, pt, ql, fl, pe, le, nx, i_2, qu, kn, ec, nu, va, st, ep, ti, ad, ob, ra, rt, ex, sa, us, tk, th, me, dr, se, sn) Φ1 := Im.put (k := 25) hI1 hΦ1 ⟨_, rfl, upd_fit r_1⟩
    have r_2 : ∀ j9, fits .byte (.int ((upd f_1 (nI i_2).toNatClampNeg (vp_nar .byte ((a >>> ((nI (8 * i_1) - 8) &&& 31)).toInt8.toInt32))) j9)) = true := upd_fit r_1
    refine z_aload_n B dX12_appendBytes_20 rfl 1 rfl ?_
    refine z_dup B dX12_appendBytes_21 rfl ?_
    have h_5 : Φ1 x = some (o_ 14 [.int th, .ref (x + 1), .ref (x + 2), .int ti, .int ra, .int (nI rt), .int ex, .int ad, .ref (x + 3), .ref (x + 4), .int me, .long se, .ref (x + 5), .int (nI fl), .int dr, .long ob, .long sa, .long sn, .long us, .ref (x + 6), .ref (x + 7), .int (nI pe), .ref (x + 8), .int (nI le), .ref (x + 9), .ref (x + 10), .int (nI qu), .ref (x + 11), .ref (x + 12), .ref (x + 13), .ref (x + 14), .ref (x + 15), .ref (x + 16), .int (nI n_1), .long v_1, .ref (x + 17), .ref (x + 18), .ref (x + 19), .ref (x + 20), .ref (x + 21), .ref (x + 22), .int (nI n_2), .ref (x + 23), .ref (x + 24), .int (nI tk), .ref (x + 25), .int (nI i_2), .int (nI nx), .int ec, .int ep, .int kn, .int (nI st), .int nu, .long va]) := ((fset_fr hΦ1 (ne_off (x := x) (i := 0) (j := 25) rfl)).trans h_3)
    refine z_get (ref := "FlowExporterModel") (C := RX12) (T := TX12) (N := 54) (ci := 14) (v := .int (nI i_2)) B hu_X12_appendBytes_X12 rfl 46 (Nat.le_of_ble_eq_true rfl) hv_X12_appendBytes_441 rfl h_5 rfl dX12_appendBytes_22 ?_
    refine z_iconst (v := 1) B dX12_appendBytes_25 rfl ?_
    refine z_iadd B dX12_appendBytes_26 ?_
    refine z_top (st1 := [.int (nI (i_2 + 1)), .ref x]) (congrArg (fun w9 : Int32 => ([.int w9, .ref x] : List Value)) (nI_add i_2 1)) ?_
    refine z_put (ref := "FlowExporterModel") (C := RX12) (T := TX12) (N := 54) (ci := 14) (v := .int (nI (i_2 + 1))) B hu_X12_appendBytes_X12 tyX12 tyX12_ok nmX12 rfl 46 (Nat.le_of_ble_eq_true rfl) hv_X12_appendBytes_441 rfl (Or.inl rfl) h_5 hx rfl rfl (Nat.le_of_ble_eq_true rfl) dX12_appendBytes_27 (fun Φ2 hΦ2 => ?_)
    have h_6 : Φ2 x = some (o_ 14 [.int th, .ref (x + 1), .ref (x + 2), .int ti, .int ra, .int (nI rt), .int ex, .int ad, .ref (x + 3), .ref (x + 4), .int me, .long se, .ref (x + 5), .int (nI fl), .int dr, .long ob, .long sa, .long sn, .long us, .ref (x + 6), .ref (x + 7), .int (nI pe), .ref (x + 8), .int (nI le), .ref (x + 9), .ref (x + 10), .int (nI qu), .ref (x + 11), .ref (x + 12), .ref (x + 13), .ref (x + 14), .ref (x + 15), .ref (x + 16), .int (nI n_1), .long v_1, .ref (x + 17), .ref (x + 18), .ref (x + 19), .ref (x + 20), .ref (x + 21), .ref (x + 22), .int (nI n_2), .ref (x + 23), .ref (x + 24), .int (nI tk), .ref (x + 25), .int (nI (i_2 + 1)), .int (nI nx), .int ec, .int ep, .int kn, .int (nI st), .int nu, .long va]) := fset_at hΦ2
    have hI3 : Im G x (rd, nw, cr, tp, tt, sI, sT, pt, ql, fl, pe, le, nx, i_2 + 1, qu, kn, ec, nu, va, st, ep, ti, ad, ob, ra, rt, ex, sa, us, tk, th, me, dr, se, sn) Φ2 := Im.put0 hI2 hΦ2 ⟨n_1, v_1, n_2, rfl, b_16, b_4, b_5, b_6, b_7, b_8, b_9, b_10, b_11, b_12, (show (i_2 + 1) ≤ 700 by omega), b_14, b_15⟩
    refine z_iinc (k := 0) (v := nI (8 * (i_1 - 1)) - 8) (lv' := [(2, .int (nI (8 * (i_1 - 1)) - 8)), (0, .ref x), (1, .int a)]) B dX12_appendBytes_30 rfl (m8_dec (show 1 ≤ i_1 by omega)) (Nat.le_of_ble_eq_true rfl) rfl ?_
    refine z_goto (tgt := 3) B dX12_appendBytes_33 rfl ?_
    refine z_lv [0, 1, 2] rfl ?_
    have h_7 : Φ2 (x + 25) = some (ab_ G 700 (upd f_1 (nI i_2).toNatClampNeg (vp_nar .byte ((a >>> ((nI (8 * i_1) - 8) &&& 31)).toInt8.toInt32)))) := ((fset_fr hΦ2 (ne_off (x := x) (i := 25) (j := 0) rfl)).trans h_4)
    exact ih1 (i_1 - 1, i_2 + 1) Φ2 (show (i_1 - 1) < i_1 by omega) ⟨hI3, (fun b9 h9 => ((fset_fr hΦ2 (fun h8 => h9 (0) h8 (show 0 = 0 ∨ 0 = 25 by decide))).trans ((fset_fr hΦ1 (fun h8 => h9 (25) h8 (show 25 = 0 ∨ 25 = 25 by decide))).trans ((hF1 b9 h9).trans rfl)))), (show (i_1 - 1) ≤ 4 by omega), (show (i_2 + 1) + (i_1 - 1) = il + 4 by omega), ⟨_, h_7, r_2, PutP_s hP1 (show _ = _ from (nI_clamp (n := i_2) (by omega)).trans (by omega)) (by omega) ((byte2 _).trans (bI_at (by omega) (by omega)))⟩, trivial⟩

set_option maxHeartbeats 4000000 in
set_option maxRecDepth 100000 in
theorem r_appendInputB (G : EnvG) (l : Launch) (Φ : Hm) (sz x : Nat) (rd : (Nat → Int32) → Prop) (nw : (Nat → Int32) → Prop) (cr : (Nat → Int64) → Prop) (tp : (Nat → Int32) → Prop) (tt : (Nat → Int64) → Prop) (sI : (Nat → Int32) → Prop) (sT : (Nat → Int32) → Prop) (pt : (Nat → Int32) → Prop) (ql : (Nat → Int32) → Prop) (fl : Nat) (pe : Nat) (le : Nat) (nx : Nat) (il : Nat) (qu : Nat) (kn : Int32) (ec : Int32) (nu : Int32) (va : Int64) (st : Nat) (ep : Int32) (ti : Int32) (ad : Int32) (ob : Int64) (ra : Int32) (rt : Nat) (ex : Int32) (sa : Int64) (us : Int64) (tk : Nat) (th : Int32) (me : Int32) (dr : Int32) (se : Int64) (sn : Int64) (fB : Nat → Int32) (a : Int32) (b : Int32) (d : Int32) (f : Int32) (g : Int32) (hx : G.2.2.2 ≤ x) (hI : Im G x (rd, nw, cr, tp, tt, sI, sT, pt, ql, fl, pe, le, nx, il, qu, kn, ec, nu, va, st, ep, ti, ad, ob, ra, rt, ex, sa, us, tk, th, me, dr, se, sn) Φ) (hc0 : Φ (x + 25) = some (ab_ G 700 fB)) (hnw : ∀ f9 : Nat → Int32, nw f9 → NN f9) : Ct G l yX12_appendInput wsX12_appendInput ({ frames := 1, cells := 0, slots := 0, locals := 22 }) 0 0 [.ref x, .int a, .int b, .int d, .int f, .int g] Φ sz (fun v Φ1 sz1 => (∃ r9 : Int32, v = some (.int r9)) ∧ sz1 = sz ∧ (∃ (il1 : Nat) (th1 : Int32), (apV il v il1 ∧ ∃ g1 : Nat → Int32, Φ1 (x + 25) = some (ab_ G 700 g1) ∧ (il1 = il → g1 = fB) ∧ (il ≤ 680 → AppR bI fB il a b d f g g1)) ∧ Im G x (rd, nw, cr, tp, tt, sI, sT, pt, ql, fl, pe, le, nx, il1, qu, kn, ec, nu, va, st, ep, ti, ad, ob, ra, rt, ex, sa, us, tk, th1, me, dr, se, sn) Φ1) ∧ Fr x (fun j9 => j9 = 0 ∨ j9 = 25) Φ Φ1) := by
  refine Ct.of (cc := cX12_appendInput) (maxL := 6) (ret := (some .int)) (by decide) rfl (Nat.le_of_ble_eq_true rfl) ?_
  intro p9 e9 s9 m9 w9 t9 k9 B
  show Z p9 l e9 _ s9 m9 _ w9 t9 k9 _ G 6 0 [(0, .ref x), (1, .int a), (2, .int b), (3, .int d), (4, .int f), (5, .int g)] [] Φ sz 0 0
  refine z_aload_n B dX12_appendInput_0 rfl 0 rfl ?_
  refine z_iconst (v := 0) B dX12_appendInput_1 rfl ?_
  obtain ⟨n_1, v_1, n_2, h_1, b_13, b_1, b_2, b_3, b_4, b_5, b_6, b_7, b_8, b_9, b_10, b_11, b_12⟩ := im0 hI
  replace b_1 : 1 ≤ rt := b_1
  replace b_2 : rt ≤ 1024 := b_2
  replace b_3 : fl ≤ 12 := b_3
  replace b_4 : pe ≤ 24 := b_4
  replace b_5 : le ≤ 700 := b_5
  replace b_6 : qu ≤ 12 := b_6
  replace b_7 : n_1 ≤ 8 := b_7
  replace b_8 : n_2 ≤ 24 := b_8
  replace b_9 : tk ≤ 24 := b_9
  replace b_10 : il ≤ 700 := b_10
  replace b_11 : nx ≤ 701 := b_11
  replace b_12 : st ≤ 701 := b_12
  have h_2 : Φ x = some (o_ 14 [.int th, .ref (x + 1), .ref (x + 2), .int ti, .int ra, .int (nI rt), .int ex, .int ad, .ref (x + 3), .ref (x + 4), .int me, .long se, .ref (x + 5), .int (nI fl), .int dr, .long ob, .long sa, .long sn, .long us, .ref (x + 6), .ref (x + 7), .int (nI pe), .ref (x + 8), .int (nI le), .ref (x + 9), .ref (x + 10), .int (nI qu), .ref (x + 11), .ref (x + 12), .ref (x + 13), .ref (x + 14), .ref (x + 15), .ref (x + 16), .int (nI n_1), .long v_1, .ref (x + 17), .ref (x + 18), .ref (x + 19), .ref (x + 20), .ref (x + 21), .ref (x + 22), .int (nI n_2), .ref (x + 23), .ref (x + 24), .int (nI tk), .ref (x + 25), .int (nI il), .int (nI nx), .int ec, .int ep, .int kn, .int (nI st), .int nu, .long va]) := h_1
  refine z_put (ref := "FlowExporterModel") (C := RX12) (T := TX12) (N := 54) (ci := 14) (v := .int 0) B hu_X12_appendInput_X12 tyX12 tyX12_ok nmX12 rfl 0 (Nat.le_of_ble_eq_true rfl) hv_X12_appendInput_1 rfl (Or.inl rfl) h_2 hx rfl rfl (Nat.le_of_ble_eq_true rfl) dX12_appendInput_2 (fun Φ1 hΦ1 => ?_)
  have h_3 : Φ1 x = some (o_ 14 [.int 0, .ref (x + 1), .ref (x + 2), .int ti, .int ra, .int (nI rt), .int ex, .int ad, .ref (x + 3), .ref (x + 4), .int me, .long se, .ref (x + 5), .int (nI fl), .int dr, .long ob, .long sa, .long sn, .long us, .ref (x + 6), .ref (x + 7), .int (nI pe), .ref (x + 8), .int (nI le), .ref (x + 9), .ref (x + 10), .int (nI qu), .ref (x + 11), .ref (x + 12), .ref (x + 13), .ref (x + 14), .ref (x + 15), .ref (x + 16), .int (nI n_1), .long v_1, .ref (x + 17), .ref (x + 18), .ref (x + 19), .ref (x + 20), .ref (x + 21), .ref (x + 22), .int (nI n_2), .ref (x + 23), .ref (x + 24), .int (nI tk), .ref (x + 25), .int (nI il), .int (nI nx), .int ec, .int ep, .int kn, .int (nI st), .int nu, .long va]) := fset_at hΦ1
  have hI1 : Im G x (rd, nw, cr, tp, tt, sI, sT, pt, ql, fl, pe, le, nx, il, qu, kn, ec, nu, va, st, ep, ti, ad, ob, ra, rt, ex, sa, us, tk, 0, me, dr, se, sn) Φ1 := Im.put0 hI hΦ1 ⟨n_1, v_1, n_2, rfl, b_13, b_1, b_2, b_3, b_4, b_5, b_6, b_7, b_8, b_9, b_10, b_11, b_12⟩
  refine z_aload_n B dX12_appendInput_5 rfl 0 rfl ?_
  refine z_get (ref := "FlowExporterModel") (C := RX12) (T := TX12) (N := 54) (ci := 14) (v := .int (nI il)) B hu_X12_appendInput_X12 rfl 46 (Nat.le_of_ble_eq_true rfl) hv_X12_appendInput_441 rfl h_3 rfl dX12_appendInput_6 ?_
  refine z_bipush (v := 20) B dX12_appendInput_9 rfl ?_
  refine z_iadd B dX12_appendInput_11 ?_
  refine z_top (st1 := [.int (nI (il + 20))]) (congrArg (fun w9 : Int32 => ([.int w9] : List Value)) (nI_add il 20)) ?_
  refine z_sipush (v := 700) B dX12_appendInput_12 rfl ?_
  refine z_icmp_le (tgt := 20) B dX12_appendInput_15 rfl (fun c_1 => ?_) (fun c_1 => ?_)
  · have e_1 : il + 20 ≤ 700 := (nI_leI (a := il + 20) (b := 700) (by omega) (by omega)).mp c_1
    refine z_aload_n B dX12_appendInput_20 rfl 0 rfl ?_
    refine z_iload_n B dX12_appendInput_21 rfl 1 rfl ?_
    have h_4 : Φ1 (x + 25) = some (ab_ G 700 fB) := ((fset_fr hΦ1 (ne_off (x := x) (i := 25) (j := 0) rfl)).trans hc0)
    refine z_callV (As := [.int a]) (rest := []) B (r_appendBytesB G l Φ1 sz x rd nw cr tp tt sI sT pt ql fl pe le nx il qu kn ec nu va st ep ti ad ob ra rt ex sa us tk 0 me dr se sn fB a hx hI1 h_4 (show il + 4 ≤ 700 by omega) hnw) (cwV 1 B.1.2.2.2.2 gX12_appendInput_X12_appendBytes rfl rfl rfl (by decide +kernel) ⟨Nat.le_of_ble_eq_true rfl, Nat.le_of_ble_eq_true rfl⟩) h_3 rfl rfl rfl rfl (Nat.le_of_ble_eq_true rfl) dX12_appendInput_22 ⟨Nat.le_of_ble_eq_true rfl, Nat.le_of_ble_eq_true rfl⟩ (fun r_1 Φ2 sz1 st1 hp1 hs1 => ?_)
    obtain ⟨⟨rfl, f_1, h_5, r_2, hP1⟩, hq1, ⟨n_3, b_14, hI2⟩, hF1⟩ := hp1
    subst sz1
    replace hs1 : st1 = [] := hs1
    subst st1
    replace hI2 : Im G x (rd, nw, cr, tp, tt, sI, sT, pt, ql, fl, pe, le, nx, n_3, qu, kn, ec, nu, va, st, ep, ti, ad, ob, ra, rt, ex, sa, us, tk, 0, me, dr, se, sn) Φ2 := hI2
    replace b_14 : n_3 = il + 4 := b_14
    refine z_aload_n B dX12_appendInput_25 rfl 0 rfl ?_
    refine z_iload_n B dX12_appendInput_26 rfl 2 rfl ?_
    obtain ⟨n_4, v_2, n_5, h_6, b_27, b_15, b_16, b_17, b_18, b_19, b_20, b_21, b_22, b_23, b_24, b_25, b_26⟩ := im0 hI2
    replace b_15 : 1 ≤ rt := b_15
    replace b_16 : rt ≤ 1024 := b_16
    replace b_17 : fl ≤ 12 := b_17
    replace b_18 : pe ≤ 24 := b_18
    replace b_19 : le ≤ 700 := b_19
    replace b_20 : qu ≤ 12 := b_20
    replace b_21 : n_4 ≤ 8 := b_21
    replace b_22 : n_5 ≤ 24 := b_22
    replace b_23 : tk ≤ 24 := b_23
    replace b_24 : n_3 ≤ 700 := b_24
    replace b_25 : nx ≤ 701 := b_25
    replace b_26 : st ≤ 701 := b_26
    have h_7 : Φ2 x = some (o_ 14 [.int 0, .ref (x + 1), .ref (x + 2), .int ti, .int ra, .int (nI rt), .int ex, .int ad, .ref (x + 3), .ref (x + 4), .int me, .long se, .ref (x + 5), .int (nI fl), .int dr, .long ob, .long sa, .long sn, .long us, .ref (x + 6), .ref (x + 7), .int (nI pe), .ref (x + 8), .int (nI le), .ref (x + 9), .ref (x + 10), .int (nI qu), .ref (x + 11), .ref (x + 12), .ref (x + 13), .ref (x + 14), .ref (x + 15), .ref (x + 16), .int (nI n_4), .long v_2, .ref (x + 17), .ref (x + 18), .ref (x + 19), .ref (x + 20), .ref (x + 21), .ref (x + 22), .int (nI n_5), .ref (x + 23), .ref (x + 24), .int (nI tk), .ref (x + 25), .int (nI n_3), .int (nI nx), .int ec, .int ep, .int kn, .int (nI st), .int nu, .long va]) := h_6
    refine z_callV (As := [.int b]) (rest := []) B (r_appendBytesB G l Φ2 sz x rd nw cr tp tt sI sT pt ql fl pe le nx n_3 qu kn ec nu va st ep ti ad ob ra rt ex sa us tk 0 me dr se sn f_1 b hx hI2 h_5 (show n_3 + 4 ≤ 700 by omega) hnw) (cwV 1 B.1.2.2.2.2 gX12_appendInput_X12_appendBytes rfl rfl rfl (by decide +kernel) ⟨Nat.le_of_ble_eq_true rfl, Nat.le_of_ble_eq_true rfl⟩) h_7 rfl rfl rfl rfl (Nat.le_of_ble_eq_true rfl) dX12_appendInput_27 ⟨Nat.le_of_ble_eq_true rfl, Nat.le_of_ble_eq_true rfl⟩ (fun r_3 Φ3 sz2 st2 hp2 hs2 => ?_)
    obtain ⟨⟨rfl, f_2, h_8, r_4, hP2⟩, hq2, ⟨n_6, b_28, hI3⟩, hF2⟩ := hp2
    subst sz2
    replace hs2 : st2 = [] := hs2
    subst st2
    replace hI3 : Im G x (rd, nw, cr, tp, tt, sI, sT, pt, ql, fl, pe, le, nx, n_6, qu, kn, ec, nu, va, st, ep, ti, ad, ob, ra, rt, ex, sa, us, tk, 0, me, dr, se, sn) Φ3 := hI3
    replace b_28 : n_6 = n_3 + 4 := b_28
    refine z_aload_n B dX12_appendInput_30 rfl 0 rfl ?_
    refine z_iload_n B dX12_appendInput_31 rfl 3 rfl ?_
    obtain ⟨n_7, v_3, n_8, h_9, b_41, b_29, b_30, b_31, b_32, b_33, b_34, b_35, b_36, b_37, b_38, b_39, b_40⟩ := im0 hI3
    replace b_29 : 1 ≤ rt := b_29
    replace b_30 : rt ≤ 1024 := b_30
    replace b_31 : fl ≤ 12 := b_31
    replace b_32 : pe ≤ 24 := b_32
    replace b_33 : le ≤ 700 := b_33
    replace b_34 : qu ≤ 12 := b_34
    replace b_35 : n_7 ≤ 8 := b_35
    replace b_36 : n_8 ≤ 24 := b_36
    replace b_37 : tk ≤ 24 := b_37
    replace b_38 : n_6 ≤ 700 := b_38
    replace b_39 : nx ≤ 701 := b_39
    replace b_40 : st ≤ 701 := b_40
    have h_10 : Φ3 x = some (o_ 14 [.int 0, .ref (x + 1), .ref (x + 2), .int ti, .int ra, .int (nI rt), .int ex, .int ad, .ref (x + 3), .ref (x + 4), .int me, .long se, .ref (x + 5), .int (nI fl), .int dr, .long ob, .long sa, .long sn, .long us, .ref (x + 6), .ref (x + 7), .int (nI pe), .ref (x + 8), .int (nI le), .ref (x + 9), .ref (x + 10), .int (nI qu), .ref (x + 11), .ref (x + 12), .ref (x + 13), .ref (x + 14), .ref (x + 15), .ref (x + 16), .int (nI n_7), .long v_3, .ref (x + 17), .ref (x + 18), .ref (x + 19), .ref (x + 20), .ref (x + 21), .ref (x + 22), .int (nI n_8), .ref (x + 23), .ref (x + 24), .int (nI tk), .ref (x + 25), .int (nI n_6), .int (nI nx), .int ec, .int ep, .int kn, .int (nI st), .int nu, .long va]) := h_9
    refine z_callV (As := [.int d]) (rest := []) B (r_appendBytesB G l Φ3 sz x rd nw cr tp tt sI sT pt ql fl pe le nx n_6 qu kn ec nu va st ep ti ad ob ra rt ex sa us tk 0 me dr se sn f_2 d hx hI3 h_8 (show n_6 + 4 ≤ 700 by omega) hnw) (cwV 1 B.1.2.2.2.2 gX12_appendInput_X12_appendBytes rfl rfl rfl (by decide +kernel) ⟨Nat.le_of_ble_eq_true rfl, Nat.le_of_ble_eq_true rfl⟩) h_10 rfl rfl rfl rfl (Nat.le_of_ble_eq_true rfl) dX12_appendInput_32 ⟨Nat.le_of_ble_eq_true rfl, Nat.le_of_ble_eq_true rfl⟩ (fun r_5 Φ4 sz3 st3 hp3 hs3 => ?_)
    obtain ⟨⟨rfl, f_3, h_11, r_6, hP3⟩, hq3, ⟨n_9, b_42, hI4⟩, hF3⟩ := hp3
    subst sz3
    replace hs3 : st3 = [] := hs3
    subst st3
    replace hI4 : Im G x (rd, nw, cr, tp, tt, sI, sT, pt, ql, fl, pe, le, nx, n_9, qu, kn, ec, nu, va, st, ep, ti, ad, ob, ra, rt, ex, sa, us, tk, 0, me, dr, se, sn) Φ4 := hI4
    replace b_42 : n_9 = n_6 + 4 := b_42
    refine z_aload_n B dX12_appendInput_35 rfl 0 rfl ?_
    refine z_iload B dX12_appendInput_36 4 rfl ?_
    obtain ⟨n_10, v_4, n_11, h_12, b_55, b_43, b_44, b_45, b_46, b_47, b_48, b_49, b_50, b_51, b_52, b_53, b_54⟩ := im0 hI4
    replace b_43 : 1 ≤ rt := b_43
    replace b_44 : rt ≤ 1024 := b_44
    replace b_45 : fl ≤ 12 := b_45
    replace b_46 : pe ≤ 24 := b_46
    replace b_47 : le ≤ 700 := b_47
    replace b_48 : qu ≤ 12 := b_48
    replace b_49 : n_10 ≤ 8 := b_49
    replace b_50 : n_11 ≤ 24 := b_50
    replace b_51 : tk ≤ 24 := b_51
    replace b_52 : n_9 ≤ 700 := b_52
    replace b_53 : nx ≤ 701 := b_53
    replace b_54 : st ≤ 701 := b_54
    have h_13 : Φ4 x = some (o_ 14 [.int 0, .ref (x + 1), .ref (x + 2), .int ti, .int ra, .int (nI rt), .int ex, .int ad, .ref (x + 3), .ref (x + 4), .int me, .long se, .ref (x + 5), .int (nI fl), .int dr, .long ob, .long sa, .long sn, .long us, .ref (x + 6), .ref (x + 7), .int (nI pe), .ref (x + 8), .int (nI le), .ref (x + 9), .ref (x + 10), .int (nI qu), .ref (x + 11), .ref (x + 12), .ref (x + 13), .ref (x + 14), .ref (x + 15), .ref (x + 16), .int (nI n_10), .long v_4, .ref (x + 17), .ref (x + 18), .ref (x + 19), .ref (x + 20), .ref (x + 21), .ref (x + 22), .int (nI n_11), .ref (x + 23), .ref (x + 24), .int (nI tk), .ref (x + 25), .int (nI n_9), .int (nI nx), .int ec, .int ep, .int kn, .int (nI st), .int nu, .long va]) := h_12
    refine z_callV (As := [.int f]) (rest := []) B (r_appendBytesB G l Φ4 sz x rd nw cr tp tt sI sT pt ql fl pe le nx n_9 qu kn ec nu va st ep ti ad ob ra rt ex sa us tk 0 me dr se sn f_3 f hx hI4 h_11 (show n_9 + 4 ≤ 700 by omega) hnw) (cwV 1 B.1.2.2.2.2 gX12_appendInput_X12_appendBytes rfl rfl rfl (by decide +kernel) ⟨Nat.le_of_ble_eq_true rfl, Nat.le_of_ble_eq_true rfl⟩) h_13 rfl rfl rfl rfl (Nat.le_of_ble_eq_true rfl) dX12_appendInput_38 ⟨Nat.le_of_ble_eq_true rfl, Nat.le_of_ble_eq_true rfl⟩ (fun r_7 Φ5 sz4 st4 hp4 hs4 => ?_)
    obtain ⟨⟨rfl, f_4, h_14, r_8, hP4⟩, hq4, ⟨n_12, b_56, hI5⟩, hF4⟩ := hp4
    subst sz4
    replace hs4 : st4 = [] := hs4
    subst st4
    replace hI5 : Im G x (rd, nw, cr, tp, tt, sI, sT, pt, ql, fl, pe, le, nx, n_12, qu, kn, ec, nu, va, st, ep, ti, ad, ob, ra, rt, ex, sa, us, tk, 0, me, dr, se, sn) Φ5 := hI5
    replace b_56 : n_12 = n_9 + 4 := b_56
    refine z_aload_n B dX12_appendInput_41 rfl 0 rfl ?_
    refine z_iload B dX12_appendInput_42 5 rfl ?_
    obtain ⟨n_13, v_5, n_14, h_15, b_69, b_57, b_58, b_59, b_60, b_61, b_62, b_63, b_64, b_65, b_66, b_67, b_68⟩ := im0 hI5
    replace b_57 : 1 ≤ rt := b_57
    replace b_58 : rt ≤ 1024 := b_58
    replace b_59 : fl ≤ 12 := b_59
    replace b_60 : pe ≤ 24 := b_60
    replace b_61 : le ≤ 700 := b_61
    replace b_62 : qu ≤ 12 := b_62
    replace b_63 : n_13 ≤ 8 := b_63
    replace b_64 : n_14 ≤ 24 := b_64
    replace b_65 : tk ≤ 24 := b_65
    replace b_66 : n_12 ≤ 700 := b_66
    replace b_67 : nx ≤ 701 := b_67
    replace b_68 : st ≤ 701 := b_68
    have h_16 : Φ5 x = some (o_ 14 [.int 0, .ref (x + 1), .ref (x + 2), .int ti, .int ra, .int (nI rt), .int ex, .int ad, .ref (x + 3), .ref (x + 4), .int me, .long se, .ref (x + 5), .int (nI fl), .int dr, .long ob, .long sa, .long sn, .long us, .ref (x + 6), .ref (x + 7), .int (nI pe), .ref (x + 8), .int (nI le), .ref (x + 9), .ref (x + 10), .int (nI qu), .ref (x + 11), .ref (x + 12), .ref (x + 13), .ref (x + 14), .ref (x + 15), .ref (x + 16), .int (nI n_13), .long v_5, .ref (x + 17), .ref (x + 18), .ref (x + 19), .ref (x + 20), .ref (x + 21), .ref (x + 22), .int (nI n_14), .ref (x + 23), .ref (x + 24), .int (nI tk), .ref (x + 25), .int (nI n_12), .int (nI nx), .int ec, .int ep, .int kn, .int (nI st), .int nu, .long va]) := h_15
    refine z_callV (As := [.int g]) (rest := []) B (r_appendBytesB G l Φ5 sz x rd nw cr tp tt sI sT pt ql fl pe le nx n_12 qu kn ec nu va st ep ti ad ob ra rt ex sa us tk 0 me dr se sn f_4 g hx hI5 h_14 (show n_12 + 4 ≤ 700 by omega) hnw) (cwV 1 B.1.2.2.2.2 gX12_appendInput_X12_appendBytes rfl rfl rfl (by decide +kernel) ⟨Nat.le_of_ble_eq_true rfl, Nat.le_of_ble_eq_true rfl⟩) h_16 rfl rfl rfl rfl (Nat.le_of_ble_eq_true rfl) dX12_appendInput_44 ⟨Nat.le_of_ble_eq_true rfl, Nat.le_of_ble_eq_true rfl⟩ (fun r_9 Φ6 sz5 st5 hp5 hs5 => ?_)
    obtain ⟨⟨rfl, f_5, h_17, r_10, hP5⟩, hq5, ⟨n_15, b_70, hI6⟩, hF5⟩ := hp5
    subst sz5
    replace hs5 : st5 = [] := hs5
    subst st5
    replace hI6 : Im G x (rd, nw, cr, tp, tt, sI, sT, pt, ql, fl, pe, le, nx, n_15, qu, kn, ec, nu, va, st, ep, ti, ad, ob, ra, rt, ex, sa, us, tk, 0, me, dr, se, sn) Φ6 := hI6
    replace b_70 : n_15 = n_12 + 4 := b_70
    refine z_aload_n B dX12_appendInput_47 rfl 0 rfl ?_
    obtain ⟨n_16, v_6, n_17, h_18, b_83, b_71, b_72, b_73, b_74, b_75, b_76, b_77, b_78, b_79, b_80, b_81, b_82⟩ := im0 hI6
    replace b_71 : 1 ≤ rt := b_71
    replace b_72 : rt ≤ 1024 := b_72
    replace b_73 : fl ≤ 12 := b_73
    replace b_74 : pe ≤ 24 := b_74
    replace b_75 : le ≤ 700 := b_75
    replace b_76 : qu ≤ 12 := b_76
    replace b_77 : n_16 ≤ 8 := b_77
    replace b_78 : n_17 ≤ 24 := b_78
    replace b_79 : tk ≤ 24 := b_79
    replace b_80 : n_15 ≤ 700 := b_80
    replace b_81 : nx ≤ 701 := b_81
    replace b_82 : st ≤ 701 := b_82
    have h_19 : Φ6 x = some (o_ 14 [.int 0, .ref (x + 1), .ref (x + 2), .int ti, .int ra, .int (nI rt), .int ex, .int ad, .ref (x + 3), .ref (x + 4), .int me, .long se, .ref (x + 5), .int (nI fl), .int dr, .long ob, .long sa, .long sn, .long us, .ref (x + 6), .ref (x + 7), .int (nI pe), .ref (x + 8), .int (nI le), .ref (x + 9), .ref (x + 10), .int (nI qu), .ref (x + 11), .ref (x + 12), .ref (x + 13), .ref (x + 14), .ref (x + 15), .ref (x + 16), .int (nI n_16), .long v_6, .ref (x + 17), .ref (x + 18), .ref (x + 19), .ref (x + 20), .ref (x + 21), .ref (x + 22), .int (nI n_17), .ref (x + 23), .ref (x + 24), .int (nI tk), .ref (x + 25), .int (nI n_15), .int (nI nx), .int ec, .int ep, .int kn, .int (nI st), .int nu, .long va]) := h_18
    refine z_get (ref := "FlowExporterModel") (C := RX12) (T := TX12) (N := 54) (ci := 14) (v := .int (nI n_15)) B hu_X12_appendInput_X12 rfl 46 (Nat.le_of_ble_eq_true rfl) hv_X12_appendInput_441 rfl h_19 rfl dX12_appendInput_48 ?_
    exact z_ret_i B dX12_appendInput_51 ⟨⟨_, rfl⟩, rfl, ⟨n_15, 0, ⟨Or.inr ⟨by omega, congrArg (fun w9 : Nat => some (Value.int (nI w9))) (show n_15 = il + 20 by omega), by omega⟩, f_5, h_17, fun h9 => absurd h9 (by omega), fun _ => AppI_of (by omega) (by omega) (by omega) (by omega) hP1 hP2 hP3 hP4 hP5⟩, hI6⟩, (fun b9 h9 => ((hF5 b9 h9).trans ((hF4 b9 h9).trans ((hF3 b9 h9).trans ((hF2 b9 h9).trans ((hF1 b9 h9).trans ((fset_fr hΦ1 (fun h8 => h9 (0) h8 (show 0 = 0 ∨ 0 = 25 by decide))).trans rfl)))))))⟩
  · have e_2 : ¬ (il + 20 ≤ 700) := fun h9 => c_1 ((nI_leI (a := il + 20) (b := 700) (by omega) (by omega)).mpr h9)
    refine z_iconst (v := (-1)) B dX12_appendInput_18 rfl ?_
    have h_20 : Φ1 (x + 25) = some (ab_ G 700 fB) := ((fset_fr hΦ1 (ne_off (x := x) (i := 25) (j := 0) rfl)).trans hc0)
    exact z_ret_i B dX12_appendInput_19 ⟨⟨_, rfl⟩, rfl, ⟨il, 0, ⟨Or.inl ⟨by omega, rfl, by omega⟩, fB, h_20, fun _ => rfl, fun h9 => absurd h9 (by omega)⟩, hI1⟩, (fun b9 h9 => ((fset_fr hΦ1 (fun h8 => h9 (0) h8 (show 0 = 0 ∨ 0 = 25 by decide))).trans rfl))⟩

set_option maxHeartbeats 4000000 in
set_option maxRecDepth 100000 in
theorem r_errorCodeB (G : EnvG) (l : Launch) (Φ : Hm) (sz x : Nat) (rd : (Nat → Int32) → Prop) (nw : (Nat → Int32) → Prop) (cr : (Nat → Int64) → Prop) (tp : (Nat → Int32) → Prop) (tt : (Nat → Int64) → Prop) (sI : (Nat → Int32) → Prop) (sT : (Nat → Int32) → Prop) (pt : (Nat → Int32) → Prop) (ql : (Nat → Int32) → Prop) (fl : Nat) (pe : Nat) (le : Nat) (nx : Nat) (il : Nat) (qu : Nat) (kn : Int32) (ec : Int32) (nu : Int32) (va : Int64) (st : Nat) (ep : Int32) (ti : Int32) (ad : Int32) (ob : Int64) (ra : Int32) (rt : Nat) (ex : Int32) (sa : Int64) (us : Int64) (tk : Nat) (th : Int32) (me : Int32) (dr : Int32) (se : Int64) (sn : Int64)  (hx : G.2.2.2 ≤ x) (hI : Im G x (rd, nw, cr, tp, tt, sI, sT, pt, ql, fl, pe, le, nx, il, qu, kn, ec, nu, va, st, ep, ti, ad, ob, ra, rt, ex, sa, us, tk, th, me, dr, se, sn) Φ) (hnw : ∀ f9 : Nat → Int32, nw f9 → NN f9) : Ct G l yX12_errorCode wsX12_errorCode ({ frames := 0, cells := 0, slots := 0, locals := 0 }) 0 0 [.ref x] Φ sz (fun v Φ1 sz1 => (v = some (.int ec)) ∧ sz1 = sz ∧ (∃ (th1 : Int32), Im G x (rd, nw, cr, tp, tt, sI, sT, pt, ql, fl, pe, le, nx, il, qu, kn, ec, nu, va, st, ep, ti, ad, ob, ra, rt, ex, sa, us, tk, th1, me, dr, se, sn) Φ1) ∧ Fr x (fun j9 => j9 = 0) Φ Φ1) := by
  refine Ct.of (cc := cX12_errorCode) (maxL := 1) (ret := (some .int)) (by decide) rfl (Nat.le_of_ble_eq_true rfl) ?_
  intro p9 e9 s9 m9 w9 t9 k9 B
  show Z p9 l e9 _ s9 m9 _ w9 t9 k9 _ G 1 0 [(0, .ref x)] [] Φ sz 0 0
  refine z_aload_n B dX12_errorCode_0 rfl 0 rfl ?_
  refine z_iconst (v := 0) B dX12_errorCode_1 rfl ?_
  obtain ⟨n_1, v_1, n_2, h_1, b_13, b_1, b_2, b_3, b_4, b_5, b_6, b_7, b_8, b_9, b_10, b_11, b_12⟩ := im0 hI
  replace b_1 : 1 ≤ rt := b_1
  replace b_2 : rt ≤ 1024 := b_2
  replace b_3 : fl ≤ 12 := b_3
  replace b_4 : pe ≤ 24 := b_4
  replace b_5 : le ≤ 700 := b_5
  replace b_6 : qu ≤ 12 := b_6
  replace b_7 : n_1 ≤ 8 := b_7
  replace b_8 : n_2 ≤ 24 := b_8
  replace b_9 : tk ≤ 24 := b_9
  replace b_10 : il ≤ 700 := b_10
  replace b_11 : nx ≤ 701 := b_11
  replace b_12 : st ≤ 701 := b_12
  have h_2 : Φ x = some (o_ 14 [.int th, .ref (x + 1), .ref (x + 2), .int ti, .int ra, .int (nI rt), .int ex, .int ad, .ref (x + 3), .ref (x + 4), .int me, .long se, .ref (x + 5), .int (nI fl), .int dr, .long ob, .long sa, .long sn, .long us, .ref (x + 6), .ref (x + 7), .int (nI pe), .ref (x + 8), .int (nI le), .ref (x + 9), .ref (x + 10), .int (nI qu), .ref (x + 11), .ref (x + 12), .ref (x + 13), .ref (x + 14), .ref (x + 15), .ref (x + 16), .int (nI n_1), .long v_1, .ref (x + 17), .ref (x + 18), .ref (x + 19), .ref (x + 20), .ref (x + 21), .ref (x + 22), .int (nI n_2), .ref (x + 23), .ref (x + 24), .int (nI tk), .ref (x + 25), .int (nI il), .int (nI nx), .int ec, .int ep, .int kn, .int (nI st), .int nu, .long va]) := h_1
  refine z_put (ref := "FlowExporterModel") (C := RX12) (T := TX12) (N := 54) (ci := 14) (v := .int 0) B hu_X12_errorCode_X12 tyX12 tyX12_ok nmX12 rfl 0 (Nat.le_of_ble_eq_true rfl) hv_X12_errorCode_1 rfl (Or.inl rfl) h_2 hx rfl rfl (Nat.le_of_ble_eq_true rfl) dX12_errorCode_2 (fun Φ1 hΦ1 => ?_)
  have h_3 : Φ1 x = some (o_ 14 [.int 0, .ref (x + 1), .ref (x + 2), .int ti, .int ra, .int (nI rt), .int ex, .int ad, .ref (x + 3), .ref (x + 4), .int me, .long se, .ref (x + 5), .int (nI fl), .int dr, .long ob, .long sa, .long sn, .long us, .ref (x + 6), .ref (x + 7), .int (nI pe), .ref (x + 8), .int (nI le), .ref (x + 9), .ref (x + 10), .int (nI qu), .ref (x + 11), .ref (x + 12), .ref (x + 13), .ref (x + 14), .ref (x + 15), .ref (x + 16), .int (nI n_1), .long v_1, .ref (x + 17), .ref (x + 18), .ref (x + 19), .ref (x + 20), .ref (x + 21), .ref (x + 22), .int (nI n_2), .ref (x + 23), .ref (x + 24), .int (nI tk), .ref (x + 25), .int (nI il), .int (nI nx), .int ec, .int ep, .int kn, .int (nI st), .int nu, .long va]) := fset_at hΦ1
  have hI1 : Im G x (rd, nw, cr, tp, tt, sI, sT, pt, ql, fl, pe, le, nx, il, qu, kn, ec, nu, va, st, ep, ti, ad, ob, ra, rt, ex, sa, us, tk, 0, me, dr, se, sn) Φ1 := Im.put0 hI hΦ1 ⟨n_1, v_1, n_2, rfl, b_13, b_1, b_2, b_3, b_4, b_5, b_6, b_7, b_8, b_9, b_10, b_11, b_12⟩
  refine z_aload_n B dX12_errorCode_5 rfl 0 rfl ?_
  refine z_get (ref := "FlowExporterModel") (C := RX12) (T := TX12) (N := 54) (ci := 14) (v := .int ec) B hu_X12_errorCode_X12 rfl 48 (Nat.le_of_ble_eq_true rfl) hv_X12_errorCode_447 rfl h_3 rfl dX12_errorCode_6 ?_
  exact z_ret_i B dX12_errorCode_9 ⟨rfl, rfl, ⟨0, hI1⟩, (fun b9 h9 => ((fset_fr hΦ1 (fun h8 => h9 (0) h8 (show 0 = 0 by decide))).trans rfl))⟩

set_option maxHeartbeats 4000000 in
set_option maxRecDepth 100000 in
theorem r_errorPositionB (G : EnvG) (l : Launch) (Φ : Hm) (sz x : Nat) (rd : (Nat → Int32) → Prop) (nw : (Nat → Int32) → Prop) (cr : (Nat → Int64) → Prop) (tp : (Nat → Int32) → Prop) (tt : (Nat → Int64) → Prop) (sI : (Nat → Int32) → Prop) (sT : (Nat → Int32) → Prop) (pt : (Nat → Int32) → Prop) (ql : (Nat → Int32) → Prop) (fl : Nat) (pe : Nat) (le : Nat) (nx : Nat) (il : Nat) (qu : Nat) (kn : Int32) (ec : Int32) (nu : Int32) (va : Int64) (st : Nat) (ep : Int32) (ti : Int32) (ad : Int32) (ob : Int64) (ra : Int32) (rt : Nat) (ex : Int32) (sa : Int64) (us : Int64) (tk : Nat) (th : Int32) (me : Int32) (dr : Int32) (se : Int64) (sn : Int64)  (hx : G.2.2.2 ≤ x) (hI : Im G x (rd, nw, cr, tp, tt, sI, sT, pt, ql, fl, pe, le, nx, il, qu, kn, ec, nu, va, st, ep, ti, ad, ob, ra, rt, ex, sa, us, tk, th, me, dr, se, sn) Φ) (hnw : ∀ f9 : Nat → Int32, nw f9 → NN f9) : Ct G l yX12_errorPosition wsX12_errorPosition ({ frames := 0, cells := 0, slots := 0, locals := 0 }) 0 0 [.ref x] Φ sz (fun v Φ1 sz1 => (v = some (.int ep)) ∧ sz1 = sz ∧ (∃ (th1 : Int32), Im G x (rd, nw, cr, tp, tt, sI, sT, pt, ql, fl, pe, le, nx, il, qu, kn, ec, nu, va, st, ep, ti, ad, ob, ra, rt, ex, sa, us, tk, th1, me, dr, se, sn) Φ1) ∧ Fr x (fun j9 => j9 = 0) Φ Φ1) := by
  refine Ct.of (cc := cX12_errorPosition) (maxL := 1) (ret := (some .int)) (by decide) rfl (Nat.le_of_ble_eq_true rfl) ?_
  intro p9 e9 s9 m9 w9 t9 k9 B
  show Z p9 l e9 _ s9 m9 _ w9 t9 k9 _ G 1 0 [(0, .ref x)] [] Φ sz 0 0
  refine z_aload_n B dX12_errorPosition_0 rfl 0 rfl ?_
  refine z_iconst (v := 0) B dX12_errorPosition_1 rfl ?_
  obtain ⟨n_1, v_1, n_2, h_1, b_13, b_1, b_2, b_3, b_4, b_5, b_6, b_7, b_8, b_9, b_10, b_11, b_12⟩ := im0 hI
  replace b_1 : 1 ≤ rt := b_1
  replace b_2 : rt ≤ 1024 := b_2
  replace b_3 : fl ≤ 12 := b_3
  replace b_4 : pe ≤ 24 := b_4
  replace b_5 : le ≤ 700 := b_5
  replace b_6 : qu ≤ 12 := b_6
  replace b_7 : n_1 ≤ 8 := b_7
  replace b_8 : n_2 ≤ 24 := b_8
  replace b_9 : tk ≤ 24 := b_9
  replace b_10 : il ≤ 700 := b_10
  replace b_11 : nx ≤ 701 := b_11
  replace b_12 : st ≤ 701 := b_12
  have h_2 : Φ x = some (o_ 14 [.int th, .ref (x + 1), .ref (x + 2), .int ti, .int ra, .int (nI rt), .int ex, .int ad, .ref (x + 3), .ref (x + 4), .int me, .long se, .ref (x + 5), .int (nI fl), .int dr, .long ob, .long sa, .long sn, .long us, .ref (x + 6), .ref (x + 7), .int (nI pe), .ref (x + 8), .int (nI le), .ref (x + 9), .ref (x + 10), .int (nI qu), .ref (x + 11), .ref (x + 12), .ref (x + 13), .ref (x + 14), .ref (x + 15), .ref (x + 16), .int (nI n_1), .long v_1, .ref (x + 17), .ref (x + 18), .ref (x + 19), .ref (x + 20), .ref (x + 21), .ref (x + 22), .int (nI n_2), .ref (x + 23), .ref (x + 24), .int (nI tk), .ref (x + 25), .int (nI il), .int (nI nx), .int ec, .int ep, .int kn, .int (nI st), .int nu, .long va]) := h_1
  refine z_put (ref := "FlowExporterModel") (C := RX12) (T := TX12) (N := 54) (ci := 14) (v := .int 0) B hu_X12_errorPosition_X12 tyX12 tyX12_ok nmX12 rfl 0 (Nat.le_of_ble_eq_true rfl) hv_X12_errorPosition_1 rfl (Or.inl rfl) h_2 hx rfl rfl (Nat.le_of_ble_eq_true rfl) dX12_errorPosition_2 (fun Φ1 hΦ1 => ?_)
  have h_3 : Φ1 x = some (o_ 14 [.int 0, .ref (x + 1), .ref (x + 2), .int ti, .int ra, .int (nI rt), .int ex, .int ad, .ref (x + 3), .ref (x + 4), .int me, .long se, .ref (x + 5), .int (nI fl), .int dr, .long ob, .long sa, .long sn, .long us, .ref (x + 6), .ref (x + 7), .int (nI pe), .ref (x + 8), .int (nI le), .ref (x + 9), .ref (x + 10), .int (nI qu), .ref (x + 11), .ref (x + 12), .ref (x + 13), .ref (x + 14), .ref (x + 15), .ref (x + 16), .int (nI n_1), .long v_1, .ref (x + 17), .ref (x + 18), .ref (x + 19), .ref (x + 20), .ref (x + 21), .ref (x + 22), .int (nI n_2), .ref (x + 23), .ref (x + 24), .int (nI tk), .ref (x + 25), .int (nI il), .int (nI nx), .int ec, .int ep, .int kn, .int (nI st), .int nu, .long va]) := fset_at hΦ1
  have hI1 : Im G x (rd, nw, cr, tp, tt, sI, sT, pt, ql, fl, pe, le, nx, il, qu, kn, ec, nu, va, st, ep, ti, ad, ob, ra, rt, ex, sa, us, tk, 0, me, dr, se, sn) Φ1 := Im.put0 hI hΦ1 ⟨n_1, v_1, n_2, rfl, b_13, b_1, b_2, b_3, b_4, b_5, b_6, b_7, b_8, b_9, b_10, b_11, b_12⟩
  refine z_aload_n B dX12_errorPosition_5 rfl 0 rfl ?_
  refine z_get (ref := "FlowExporterModel") (C := RX12) (T := TX12) (N := 54) (ci := 14) (v := .int ep) B hu_X12_errorPosition_X12 rfl 49 (Nat.le_of_ble_eq_true rfl) hv_X12_errorPosition_92 rfl h_3 rfl dX12_errorPosition_6 ?_
  exact z_ret_i B dX12_errorPosition_9 ⟨rfl, rfl, ⟨0, hI1⟩, (fun b9 h9 => ((fset_fr hΦ1 (fun h8 => h9 (0) h8 (show 0 = 0 by decide))).trans rfl))⟩

set_option maxHeartbeats 4000000 in
set_option maxRecDepth 100000 in
theorem f_X11_observe (G : EnvG) (l : Launch) (Φ : Hm) (sz : Nat) (x : Nat) (a : Int32) (b : Int32) (c : Int32) (d : Int32) (f : Int32) (hc0_ : Φ x = some (o_ 13 [.ref (x + 1), .ref (x + 3), .ref (x + 24), .ref (x + 46), .ref (x + 74), .ref (x + 80), .ref (x + 132), .ref (x + 121)])) (hc74_ : Φ (x + 74) = some (o_ 10 [.ref (x + 3), .ref (x + 46), .ref (x + 75), .ref (x + 77), .int 0, .ref (x + 78), .ref (x + 79), .int 0, .long 0, .int 0])) (hc80_ : Φ (x + 80) = some (o_ 4 [.ref (x + 3), .ref (x + 74), .ref (x + 81), .ref (x + 95), .int 0, .int 1, .int 1, .int 0, .int 0, .int 0, .long 0, .long 0, .long 0])) (hc81_ : Φ (x + 81) = some (o_ 6 [.ref (x + 82), .int 0])) (hc82_ : Φ (x + 82) = some (aq_ G 5 12 (va_up (va_up (va_up (va_up (va_up (va_up (va_up (va_up (va_up (va_up (va_up (va_up (fun _ => none) (0 : Int32).toNatClampNeg (some (x + 83))) (1 : Int32).toNatClampNeg (some (x + 84))) (2 : Int32).toNatClampNeg (some (x + 85))) (3 : Int32).toNatClampNeg (some (x + 86))) (4 : Int32).toNatClampNeg (some (x + 87))) (5 : Int32).toNatClampNeg (some (x + 88))) (6 : Int32).toNatClampNeg (some (x + 89))) (7 : Int32).toNatClampNeg (some (x + 90))) (8 : Int32).toNatClampNeg (some (x + 91))) (9 : Int32).toNatClampNeg (some (x + 92))) (10 : Int32).toNatClampNeg (some (x + 93))) (11 : Int32).toNatClampNeg (some (x + 94))))) (hc83_ : Φ (x + 83) = some (o_ 5 [.long 0, .long 0, .long 0, .int 0, .int 0])) (hc95_ : Φ (x + 95) = some (o_ 6 [.ref (x + 96), .int 0])) (hc96_ : Φ (x + 96) = some (aq_ G 5 24 (va_up (va_up (va_up (va_up (va_up (va_up (va_up (va_up (va_up (va_up (va_up (va_up (va_up (va_up (va_up (va_up (va_up (va_up (va_up (va_up (va_up (va_up (va_up (va_up (fun _ => none) (0 : Int32).toNatClampNeg (some (x + 97))) (1 : Int32).toNatClampNeg (some (x + 98))) (2 : Int32).toNatClampNeg (some (x + 99))) (3 : Int32).toNatClampNeg (some (x + 100))) (4 : Int32).toNatClampNeg (some (x + 101))) (5 : Int32).toNatClampNeg (some (x + 102))) (6 : Int32).toNatClampNeg (some (x + 103))) (7 : Int32).toNatClampNeg (some (x + 104))) (8 : Int32).toNatClampNeg (some (x + 105))) (9 : Int32).toNatClampNeg (some (x + 106))) (10 : Int32).toNatClampNeg (some (x + 107))) (11 : Int32).toNatClampNeg (some (x + 108))) (12 : Int32).toNatClampNeg (some (x + 109))) (13 : Int32).toNatClampNeg (some (x + 110))) (14 : Int32).toNatClampNeg (some (x + 111))) (15 : Int32).toNatClampNeg (some (x + 112))) (16 : Int32).toNatClampNeg (some (x + 113))) (17 : Int32).toNatClampNeg (some (x + 114))) (18 : Int32).toNatClampNeg (some (x + 115))) (19 : Int32).toNatClampNeg (some (x + 116))) (20 : Int32).toNatClampNeg (some (x + 117))) (21 : Int32).toNatClampNeg (some (x + 118))) (22 : Int32).toNatClampNeg (some (x + 119))) (23 : Int32).toNatClampNeg (some (x + 120))))) (hc97_ : Φ (x + 97) = some (o_ 5 [.long 0, .long 0, .long 0, .int 0, .int 0])) (hna : G.2.2.2 ≤ x) (hk : ¬ lg_cmp (kOf a b c d) (-1) = 0 ∧ ¬ f < 1 ∧ ¬ 65535 < f) : Ct G l yX11_observe wsX11_observe ({ frames := 4, cells := 0, slots := 0, locals := 99 }) 0 0 [.ref x, .int a, .int b, .int c, .int d, .int f] Φ sz (fun v Φ1 sz1 => v = some (.int 1) ∧ ∀ b9 : Nat, x + 149 ≤ b9 → Φ1 b9 = Φ b9) := by
  refine Ct.of (cc := cX11_observe) (maxL := 8) (ret := (some .boolean)) (by decide) rfl (Nat.le_of_ble_eq_true rfl) ?_
  intro p9 e9 s9 m9 w9 t9 k9 B
  show Z p9 l e9 _ s9 m9 _ w9 t9 k9 _ G 8 0 [(0, .ref x), (1, .int a), (2, .int b), (3, .int c), (4, .int d), (5, .int f)] [] Φ sz 0 0
  refine z_iload_n B dX11_observe_0 rfl 1 rfl ?_
  refine z_iload_n B dX11_observe_1 rfl 2 rfl ?_
  refine z_iload_n B dX11_observe_2 rfl 3 rfl ?_
  refine z_iload B dX11_observe_3 4 rfl ?_
  refine z_callS (As := [.int a, .int b, .int c, .int d]) (rest := []) B (c_X3_keyOf G l Φ sz a b c d ) (va_cwS 4 B.1.2.2.2.2 gX11_observe_X3_keyOf rfl rfl rfl (by decide +kernel) ⟨Nat.le_of_ble_eq_true rfl, Nat.le_of_ble_eq_true rfl⟩) rfl rfl (Nat.le_of_ble_eq_true rfl) dX11_observe_5 ⟨Nat.le_of_ble_eq_true rfl, Nat.le_of_ble_eq_true rfl⟩ (fun v1 Φ1 sz1 st1 hp1 hs1 => ?_)
  obtain ⟨rfl, hq1, fr1⟩ := hp1
  replace hq1 : sz1 = sz := hq1
  subst sz1
  replace hs1 : st1 = [.long (kOf a b c d)] := hs1
  subst st1
  refine z_lstore (lv' := [(6, .long (kOf a b c d)), (0, .ref x), (1, .int a), (2, .int b), (3, .int c), (4, .int d), (5, .int f)]) B dX11_observe_8 (Nat.le_of_ble_eq_true rfl) rfl ?_
  refine z_lload B dX11_observe_10 0 rfl ?_
  refine z_iload B dX11_observe_12 6 rfl ?_
  refine z_iconst (v := 1) B dX11_observe_14 rfl ?_
  refine z_callS (As := [.long (kOf a b c d), .int f, .int 1]) (rest := []) B (f_X11_requirePackets G l Φ1 sz x (kOf a b c d) f 1 ⟨hk.1, hk.2.1, hk.2.2, by decide, by decide⟩) (va_cwS 3 B.1.2.2.2.2 gX11_observe_X11_requirePackets rfl rfl rfl (by decide +kernel) ⟨Nat.le_of_ble_eq_true rfl, Nat.le_of_ble_eq_true rfl⟩) rfl rfl (Nat.le_of_ble_eq_true rfl) dX11_observe_15 ⟨Nat.le_of_ble_eq_true rfl, Nat.le_of_ble_eq_true rfl⟩ (fun v2 Φ2 sz2 st2 hp2 hs2 => ?_)
  obtain ⟨rfl, hq2, fr2⟩ := hp2
  replace hq2 : sz2 = sz := hq2
  subst sz2
  replace hs2 : st2 = [] := hs2
  subst st2
  refine z_aload_n B dX11_observe_18 rfl 1 rfl ?_
  have h_1 : Φ2 x = some (o_ 13 [.ref (x + 1), .ref (x + 3), .ref (x + 24), .ref (x + 46), .ref (x + 74), .ref (x + 80), .ref (x + 132), .ref (x + 121)]) := ((fr2 x).trans ((fr1 x).trans hc0_))
  refine z_get (ref := "FlowExporter") (C := RX11) (T := TX11) (N := 8) (ci := 13) (v := .ref (x + 80)) B (by decide +kernel) rfl 5 (by decide) (by decide +kernel) rfl h_1 rfl dX11_observe_19 ?_
  refine z_lload B dX11_observe_22 0 rfl ?_
  refine z_iload B dX11_observe_24 6 rfl ?_
  refine z_iconst (v := 1) B dX11_observe_26 rfl ?_
  have h_2 : Φ2 (x + 74) = some (o_ 10 [.ref (x + 3), .ref (x + 46), .ref (x + 75), .ref (x + 77), .int 0, .ref (x + 78), .ref (x + 79), .int 0, .long 0, .int 0]) := ((fr2 (x + 74)).trans ((fr1 (x + 74)).trans hc74_))
  have h_3 : Φ2 (x + 80) = some (o_ 4 [.ref (x + 3), .ref (x + 74), .ref (x + 81), .ref (x + 95), .int 0, .int 1, .int 1, .int 0, .int 0, .int 0, .long 0, .long 0, .long 0]) := ((fr2 (x + 80)).trans ((fr1 (x + 80)).trans hc80_))
  have h_4 : Φ2 (x + 81) = some (o_ 6 [.ref (x + 82), .int 0]) := ((fr2 (x + 81)).trans ((fr1 (x + 81)).trans hc81_))
  have h_5 : Φ2 (x + 82) = some (aq_ G 5 12 (va_up (va_up (va_up (va_up (va_up (va_up (va_up (va_up (va_up (va_up (va_up (va_up (fun _ => none) (0 : Int32).toNatClampNeg (some (x + 83))) (1 : Int32).toNatClampNeg (some (x + 84))) (2 : Int32).toNatClampNeg (some (x + 85))) (3 : Int32).toNatClampNeg (some (x + 86))) (4 : Int32).toNatClampNeg (some (x + 87))) (5 : Int32).toNatClampNeg (some (x + 88))) (6 : Int32).toNatClampNeg (some (x + 89))) (7 : Int32).toNatClampNeg (some (x + 90))) (8 : Int32).toNatClampNeg (some (x + 91))) (9 : Int32).toNatClampNeg (some (x + 92))) (10 : Int32).toNatClampNeg (some (x + 93))) (11 : Int32).toNatClampNeg (some (x + 94)))) := ((fr2 (x + 82)).trans ((fr1 (x + 82)).trans hc82_))
  have h_6 : Φ2 (x + 83) = some (o_ 5 [.long 0, .long 0, .long 0, .int 0, .int 0]) := ((fr2 (x + 83)).trans ((fr1 (x + 83)).trans hc83_))
  have h_7 : Φ2 (x + 95) = some (o_ 6 [.ref (x + 96), .int 0]) := ((fr2 (x + 95)).trans ((fr1 (x + 95)).trans hc95_))
  have h_8 : Φ2 (x + 96) = some (aq_ G 5 24 (va_up (va_up (va_up (va_up (va_up (va_up (va_up (va_up (va_up (va_up (va_up (va_up (va_up (va_up (va_up (va_up (va_up (va_up (va_up (va_up (va_up (va_up (va_up (va_up (fun _ => none) (0 : Int32).toNatClampNeg (some (x + 97))) (1 : Int32).toNatClampNeg (some (x + 98))) (2 : Int32).toNatClampNeg (some (x + 99))) (3 : Int32).toNatClampNeg (some (x + 100))) (4 : Int32).toNatClampNeg (some (x + 101))) (5 : Int32).toNatClampNeg (some (x + 102))) (6 : Int32).toNatClampNeg (some (x + 103))) (7 : Int32).toNatClampNeg (some (x + 104))) (8 : Int32).toNatClampNeg (some (x + 105))) (9 : Int32).toNatClampNeg (some (x + 106))) (10 : Int32).toNatClampNeg (some (x + 107))) (11 : Int32).toNatClampNeg (some (x + 108))) (12 : Int32).toNatClampNeg (some (x + 109))) (13 : Int32).toNatClampNeg (some (x + 110))) (14 : Int32).toNatClampNeg (some (x + 111))) (15 : Int32).toNatClampNeg (some (x + 112))) (16 : Int32).toNatClampNeg (some (x + 113))) (17 : Int32).toNatClampNeg (some (x + 114))) (18 : Int32).toNatClampNeg (some (x + 115))) (19 : Int32).toNatClampNeg (some (x + 116))) (20 : Int32).toNatClampNeg (some (x + 117))) (21 : Int32).toNatClampNeg (some (x + 118))) (22 : Int32).toNatClampNeg (some (x + 119))) (23 : Int32).toNatClampNeg (some (x + 120)))) := ((fr2 (x + 96)).trans ((fr1 (x + 96)).trans hc96_))
  have h_9 : Φ2 (x + 97) = some (o_ 5 [.long 0, .long 0, .long 0, .int 0, .int 0]) := ((fr2 (x + 97)).trans ((fr1 (x + 97)).trans hc97_))
  refine z_callV (As := [.long (kOf a b c d), .int f, .int 1]) (rest := []) B (f_X2_takePackets_1 G l Φ2 sz x (kOf a b c d) f h_2 h_3 h_4 h_5 h_6 h_7 h_8 h_9 hna) (cwV 3 B.1.2.2.2.2 gX11_observe_X2_takePackets rfl rfl rfl (by decide +kernel) ⟨Nat.le_of_ble_eq_true rfl, Nat.le_of_ble_eq_true rfl⟩) h_3 rfl rfl rfl rfl (Nat.le_of_ble_eq_true rfl) dX11_observe_27 ⟨Nat.le_of_ble_eq_true rfl, Nat.le_of_ble_eq_true rfl⟩ (fun v3 Φ3 sz3 st3 hp3 hs3 => ?_)
  obtain ⟨rfl, hq3, fr3, h_10, h_11, h_12, h_13, h_14⟩ := hp3
  replace hq3 : sz3 = sz := hq3
  subst sz3
  replace hs3 : st3 = [.int 1] := hs3
  subst st3
  have h_15 : Φ3 (x + 80) = some (o_ 4 [.ref (x + 3), .ref (x + 74), .ref (x + 81), .ref (x + 95), .int 0, .int 1, .int 1, .int 0, .int 0, .int 0, .long 1, .long 1, .long 0]) := h_10
  have h_16 : Φ3 (x + 81) = some (o_ 6 [.ref (x + 82), .int 1]) := h_11
  have h_17 : Φ3 (x + 83) = some (o_ 5 [.long (kOf a b c d), .long 1, .long (0 + f.toInt64), .int 0, .int 0]) := h_12
  have h_18 : Φ3 (x + 95) = some (o_ 6 [.ref (x + 96), .int 1]) := h_13
  have h_19 : Φ3 (x + 97) = some (o_ 5 [.long (kOf a b c d), .long 1, .long (0 + ((1 : Int32).toInt64 * f.toInt64)), .int 0, .int 0]) := h_14
  refine z_iconst (v := 1) B dX11_observe_30 rfl ?_
  refine z_icmp_ne (tgt := 38) B dX11_observe_31 rfl (fun h9 => absurd (by decide) h9) (fun c_1 => ?_)
  refine z_iconst (v := 1) B dX11_observe_34 rfl ?_
  refine z_goto (tgt := 39) B dX11_observe_35 rfl ?_
  exact z_ret_z B dX11_observe_39 (by decide) ⟨rfl, fun b9 h9 => ((fr3 b9 (Nat.ne_of_gt (Nat.lt_of_lt_of_le (lt_off (x := x) (i := 80) (j := 149) rfl) h9)) (Nat.ne_of_gt (Nat.lt_of_lt_of_le (lt_off (x := x) (i := 81) (j := 149) rfl) h9)) (Nat.ne_of_gt (Nat.lt_of_lt_of_le (lt_off (x := x) (i := 83) (j := 149) rfl) h9)) (Nat.ne_of_gt (Nat.lt_of_lt_of_le (lt_off (x := x) (i := 95) (j := 149) rfl) h9)) (Nat.ne_of_gt (Nat.lt_of_lt_of_le (lt_off (x := x) (i := 97) (j := 149) rfl) h9))).trans ((fr2 b9).trans ((fr1 b9).trans rfl)))⟩

set_option maxHeartbeats 4000000 in
set_option maxRecDepth 100000 in
theorem f_X11_observe_x (G : EnvG) (l : Launch) (hl9 : l.stackTraces = false) (Φ : Hm) (sz : Nat) (x : Nat) (a : Int32) (b : Int32) (c : Int32) (d : Int32) (f : Int32) (hk : ¬ (¬ lg_cmp (kOf a b c d) (-1) = 0 ∧ ¬ f < 1 ∧ ¬ 65535 < f)) : CtX G l yX11_observe wsX11_observe ({ frames := 7, cells := 1, slots := 6, locals := 104 }) 1 6 [.ref x, .int a, .int b, .int c, .int d, .int f] Φ sz xIA := by
  refine CtX.of (cc := cX11_observe) (maxL := 8) (ret := (some .boolean)) (by decide) rfl (Nat.le_of_ble_eq_true rfl) ?_
  intro p9 e9 s9 m9 w9 t9 k9 B htab9
  show Z p9 l e9 _ s9 m9 _ w9 t9 k9 _ G 8 0 [(0, .ref x), (1, .int a), (2, .int b), (3, .int c), (4, .int d), (5, .int f)] [] Φ sz 0 0
  refine z_iload_n B dX11_observe_0 rfl 1 rfl ?_
  refine z_iload_n B dX11_observe_1 rfl 2 rfl ?_
  refine z_iload_n B dX11_observe_2 rfl 3 rfl ?_
  refine z_iload B dX11_observe_3 4 rfl ?_
  refine z_callS (As := [.int a, .int b, .int c, .int d]) (rest := []) B (c_X3_keyOf G l Φ sz a b c d ) (va_cwS 4 B.1.2.2.2.2 gX11_observe_X3_keyOf rfl rfl rfl (by decide +kernel) ⟨Nat.le_of_ble_eq_true rfl, Nat.le_of_ble_eq_true rfl⟩) rfl rfl (Nat.le_of_ble_eq_true rfl) dX11_observe_5 ⟨Nat.le_of_ble_eq_true rfl, Nat.le_of_ble_eq_true rfl⟩ (fun v1 Φ1 sz1 st1 hp1 hs1 => ?_)
  obtain ⟨rfl, hq1, fr1⟩ := hp1
  replace hq1 : sz1 = sz := hq1
  subst sz1
  replace hs1 : st1 = [.long (kOf a b c d)] := hs1
  subst st1
  rw [show Φ1 = Φ from funext (fun b9 => fr1 b9)]
  refine z_lstore (lv' := [(6, .long (kOf a b c d)), (0, .ref x), (1, .int a), (2, .int b), (3, .int c), (4, .int d), (5, .int f)]) B dX11_observe_8 (Nat.le_of_ble_eq_true rfl) rfl ?_
  refine z_lload B dX11_observe_10 0 rfl ?_
  refine z_iload B dX11_observe_12 6 rfl ?_
  refine z_iconst (v := 1) B dX11_observe_14 rfl ?_
  exact z_callSX (As := [.long (kOf a b c d), .int f, .int 1]) (rest := []) B htab9 (f_X11_requirePackets_x G l hl9 Φ sz x (kOf a b c d) f 1 (fun h8 => hk ⟨h8.1, h8.2.1, h8.2.2.1⟩)) (va_cwS 3 B.1.2.2.2.2 gX11_observe_X11_requirePackets rfl rfl rfl (by decide +kernel) ⟨Nat.le_of_ble_eq_true rfl, Nat.le_of_ble_eq_true rfl⟩) rfl rfl (Nat.le_of_ble_eq_true rfl) dX11_observe_15 ⟨Nat.le_of_ble_eq_true rfl, Nat.le_of_ble_eq_true rfl⟩ ⟨Nat.le_of_ble_eq_true rfl, Nat.le_of_ble_eq_true rfl⟩

set_option maxHeartbeats 4000000 in
set_option maxRecDepth 100000 in
theorem f_X11_observeMany_x (G : EnvG) (l : Launch) (hl9 : l.stackTraces = false) (Φ : Hm) (sz : Nat) (x : Nat) (a : Int32) (b : Int32) (c : Int32) (d : Int32) (f : Int32) (g : Int32) (hk : ¬ (¬ lg_cmp (kOf a b c d) (-1) = 0 ∧ ¬ f < 1 ∧ ¬ 65535 < f ∧ ¬ g < 1 ∧ g ≤ 200)) : CtX G l yX11_observeMany wsX11_observeMany ({ frames := 7, cells := 1, slots := 6, locals := 104 }) 1 6 [.ref x, .int a, .int b, .int c, .int d, .int f, .int g] Φ sz xIA := by
  refine CtX.of (cc := cX11_observeMany) (maxL := 9) (ret := (some .int)) (by decide) rfl (Nat.le_of_ble_eq_true rfl) ?_
  intro p9 e9 s9 m9 w9 t9 k9 B htab9
  show Z p9 l e9 _ s9 m9 _ w9 t9 k9 _ G 9 0 [(0, .ref x), (1, .int a), (2, .int b), (3, .int c), (4, .int d), (5, .int f), (6, .int g)] [] Φ sz 0 0
  refine z_iload_n B dX11_observeMany_0 rfl 1 rfl ?_
  refine z_iload_n B dX11_observeMany_1 rfl 2 rfl ?_
  refine z_iload_n B dX11_observeMany_2 rfl 3 rfl ?_
  refine z_iload B dX11_observeMany_3 4 rfl ?_
  refine z_callS (As := [.int a, .int b, .int c, .int d]) (rest := []) B (c_X3_keyOf G l Φ sz a b c d ) (va_cwS 4 B.1.2.2.2.2 gX11_observeMany_X3_keyOf rfl rfl rfl (by decide +kernel) ⟨Nat.le_of_ble_eq_true rfl, Nat.le_of_ble_eq_true rfl⟩) rfl rfl (Nat.le_of_ble_eq_true rfl) dX11_observeMany_5 ⟨Nat.le_of_ble_eq_true rfl, Nat.le_of_ble_eq_true rfl⟩ (fun v1 Φ1 sz1 st1 hp1 hs1 => ?_)
  obtain ⟨rfl, hq1, fr1⟩ := hp1
  replace hq1 : sz1 = sz := hq1
  subst sz1
  replace hs1 : st1 = [.long (kOf a b c d)] := hs1
  subst st1
  rw [show Φ1 = Φ from funext (fun b9 => fr1 b9)]
  refine z_lstore (lv' := [(7, .long (kOf a b c d)), (0, .ref x), (1, .int a), (2, .int b), (3, .int c), (4, .int d), (5, .int f), (6, .int g)]) B dX11_observeMany_8 (Nat.le_of_ble_eq_true rfl) rfl ?_
  refine z_lload B dX11_observeMany_10 0 rfl ?_
  refine z_iload B dX11_observeMany_12 6 rfl ?_
  refine z_iload B dX11_observeMany_14 7 rfl ?_
  exact z_callSX (As := [.long (kOf a b c d), .int f, .int g]) (rest := []) B htab9 (f_X11_requirePackets_x G l hl9 Φ sz x (kOf a b c d) f g hk) (va_cwS 3 B.1.2.2.2.2 gX11_observeMany_X11_requirePackets rfl rfl rfl (by decide +kernel) ⟨Nat.le_of_ble_eq_true rfl, Nat.le_of_ble_eq_true rfl⟩) rfl rfl (Nat.le_of_ble_eq_true rfl) dX11_observeMany_16 ⟨Nat.le_of_ble_eq_true rfl, Nat.le_of_ble_eq_true rfl⟩ ⟨Nat.le_of_ble_eq_true rfl, Nat.le_of_ble_eq_true rfl⟩

set_option maxHeartbeats 4000000 in
set_option maxRecDepth 100000 in
theorem f_X4_indexOf_n (G : EnvG) (l : Launch) (Φ : Hm) (sz : Nat) (x : Nat) (k : Int64) (pk : Int64) (by_ : Int64) (hc81_ : Φ (x + 81) = some (o_ 6 [.ref (x + 82), .int 1])) (hc82_ : Φ (x + 82) = some (aq_ G 5 12 (va_up (va_up (va_up (va_up (va_up (va_up (va_up (va_up (va_up (va_up (va_up (va_up (fun _ => none) (0 : Int32).toNatClampNeg (some (x + 83))) (1 : Int32).toNatClampNeg (some (x + 84))) (2 : Int32).toNatClampNeg (some (x + 85))) (3 : Int32).toNatClampNeg (some (x + 86))) (4 : Int32).toNatClampNeg (some (x + 87))) (5 : Int32).toNatClampNeg (some (x + 88))) (6 : Int32).toNatClampNeg (some (x + 89))) (7 : Int32).toNatClampNeg (some (x + 90))) (8 : Int32).toNatClampNeg (some (x + 91))) (9 : Int32).toNatClampNeg (some (x + 92))) (10 : Int32).toNatClampNeg (some (x + 93))) (11 : Int32).toNatClampNeg (some (x + 94))))) (hc83_ : Φ (x + 83) = some (o_ 5 [.long k, .long pk, .long by_, .int 0, .int 0])) : Ct G l yX4_indexOf wsX4_indexOf ({ frames := 0, cells := 0, slots := 0, locals := 0 }) 0 0 [.ref (x + 81), .long k] Φ sz (fun v Φ1 sz1 => v = some (.int 0) ∧ sz1 = sz ∧ (∀ b9 : Nat, Φ1 b9 = Φ b9)) := by
  refine Ct.of (cc := cX4_indexOf) (maxL := 4) (ret := (some .int)) (by decide) rfl (Nat.le_of_ble_eq_true rfl) ?_
  intro p9 e9 s9 m9 w9 t9 k9 B
  show Z p9 l e9 _ s9 m9 _ w9 t9 k9 _ G 4 0 [(0, .ref (x + 81)), (1, .long k)] [] Φ sz 0 0
  refine z_iconst (v := 0) B dX4_indexOf_0 rfl ?_
  refine z_istore_n (lv' := [(3, .int 0), (0, .ref (x + 81)), (1, .long k)]) B dX4_indexOf_1 rfl (Nat.le_of_ble_eq_true rfl) rfl ?_
  refine z_iload_n B dX4_indexOf_2 rfl 0 rfl ?_
  refine z_aload_n B dX4_indexOf_3 rfl 1 rfl ?_
  refine z_get (ref := "FlowExporter$FlowTable") (C := RX4) (T := TX4) (N := 2) (ci := 6) (v := .int 1) B (by decide +kernel) rfl 1 (by decide) (by decide +kernel) rfl hc81_ rfl dX4_indexOf_4 ?_
  refine z_icmp_ge (tgt := 32) B dX4_indexOf_7 rfl (fun h9 => absurd h9 (by decide)) (fun c_1 => ?_)
  refine z_aload_n B dX4_indexOf_10 rfl 1 rfl ?_
  refine z_get (ref := "FlowExporter$FlowTable") (C := RX4) (T := TX4) (N := 2) (ci := 6) (v := .ref (x + 82)) B (by decide +kernel) rfl 0 (by decide) (by decide +kernel) rfl hc81_ rfl dX4_indexOf_11 ?_
  refine z_iload_n B dX4_indexOf_14 rfl 0 rfl ?_
  refine z_aald (b := x + 83) B rfl hc82_ (vin rfl) rfl dX4_indexOf_15 ?_
  refine z_get (ref := "FlowExporter$Flow") (C := RX3) (T := TX3) (N := 5) (ci := 5) (v := .long k) B (by decide +kernel) rfl 0 (by decide) (by decide +kernel) rfl hc83_ rfl dX4_indexOf_16 ?_
  refine z_lload_n B dX4_indexOf_19 rfl 2 rfl ?_
  refine z_lcmp B dX4_indexOf_20 ?_
  refine z_if_ne (tgt := 26) B dX4_indexOf_21 rfl (fun h9 => absurd ((lg_cmp_eq _ _).mpr rfl) h9) (fun c_2 => ?_)
  refine z_iload_n B dX4_indexOf_24 rfl 0 rfl ?_
  exact z_ret_i B dX4_indexOf_25 ⟨rfl, rfl, (fun b9 => rfl)⟩

set_option maxHeartbeats 4000000 in
set_option maxRecDepth 100000 in
theorem f_X4_flowAt_n (G : EnvG) (l : Launch) (Φ : Hm) (sz : Nat) (x : Nat) (hc81_ : Φ (x + 81) = some (o_ 6 [.ref (x + 82), .int 1])) (hc82_ : Φ (x + 82) = some (aq_ G 5 12 (va_up (va_up (va_up (va_up (va_up (va_up (va_up (va_up (va_up (va_up (va_up (va_up (fun _ => none) (0 : Int32).toNatClampNeg (some (x + 83))) (1 : Int32).toNatClampNeg (some (x + 84))) (2 : Int32).toNatClampNeg (some (x + 85))) (3 : Int32).toNatClampNeg (some (x + 86))) (4 : Int32).toNatClampNeg (some (x + 87))) (5 : Int32).toNatClampNeg (some (x + 88))) (6 : Int32).toNatClampNeg (some (x + 89))) (7 : Int32).toNatClampNeg (some (x + 90))) (8 : Int32).toNatClampNeg (some (x + 91))) (9 : Int32).toNatClampNeg (some (x + 92))) (10 : Int32).toNatClampNeg (some (x + 93))) (11 : Int32).toNatClampNeg (some (x + 94))))) : Ct G l yX4_flowAt wsX4_flowAt ({ frames := 0, cells := 0, slots := 0, locals := 0 }) 0 0 [.ref (x + 81), .int 0] Φ sz (fun v Φ1 sz1 => v = some (.ref (x + 83)) ∧ sz1 = sz ∧ (∀ b9 : Nat, Φ1 b9 = Φ b9)) := by
  refine Ct.of (cc := cX4_flowAt) (maxL := 2) (ret := (some (.object "FlowExporter$Flow"))) (by decide) rfl (Nat.le_of_ble_eq_true rfl) ?_
  intro p9 e9 s9 m9 w9 t9 k9 B
  show Z p9 l e9 _ s9 m9 _ w9 t9 k9 _ G 2 0 [(0, .ref (x + 81)), (1, .int 0)] [] Φ sz 0 0
  refine z_aload_n B dX4_flowAt_0 rfl 0 rfl ?_
  refine z_get (ref := "FlowExporter$FlowTable") (C := RX4) (T := TX4) (N := 2) (ci := 6) (v := .ref (x + 82)) B (by decide +kernel) rfl 0 (by decide) (by decide +kernel) rfl hc81_ rfl dX4_flowAt_1 ?_
  refine z_iload_n B dX4_flowAt_4 rfl 1 rfl ?_
  refine z_if_lt (tgt := 21) B dX4_flowAt_5 rfl (fun h9 => absurd h9 (by decide)) (fun c_1 => ?_)
  refine z_iload_n B dX4_flowAt_8 rfl 1 rfl ?_
  refine z_aload_n B dX4_flowAt_9 rfl 0 rfl ?_
  refine z_get (ref := "FlowExporter$FlowTable") (C := RX4) (T := TX4) (N := 2) (ci := 6) (v := .ref (x + 82)) B (by decide +kernel) rfl 0 (by decide) (by decide +kernel) rfl hc81_ rfl dX4_flowAt_10 ?_
  refine z_alen (t := 5) (v := 12) B rfl hc82_ rfl dX4_flowAt_13 ?_
  refine z_icmp_ge (tgt := 21) B dX4_flowAt_14 rfl (fun h9 => absurd h9 (by decide)) (fun c_2 => ?_)
  refine z_iload_n B dX4_flowAt_17 rfl 1 rfl ?_
  refine z_goto (tgt := 22) B dX4_flowAt_18 rfl ?_
  refine z_aald (b := x + 83) B rfl hc82_ (vin rfl) rfl dX4_flowAt_22 ?_
  exact z_ret_a B dX4_flowAt_23 ⟨rfl, rfl, (fun b9 => rfl)⟩

set_option maxHeartbeats 4000000 in
set_option maxRecDepth 100000 in
theorem f_X2_addToFlow_n (G : EnvG) (l : Launch) (Φ : Hm) (sz : Nat) (x : Nat) (ob : Int64) (k : Int64) (pk : Int64) (by_ : Int64) (b : Int32) (hc80_ : Φ (x + 80) = some (o_ 4 [.ref (x + 3), .ref (x + 74), .ref (x + 81), .ref (x + 95), .int 0, .int 1, .int 1, .int 0, .int 0, .int 0, .long ob, .long 0, .long 0])) (hc81_ : Φ (x + 81) = some (o_ 6 [.ref (x + 82), .int 1])) (hc82_ : Φ (x + 82) = some (aq_ G 5 12 (va_up (va_up (va_up (va_up (va_up (va_up (va_up (va_up (va_up (va_up (va_up (va_up (fun _ => none) (0 : Int32).toNatClampNeg (some (x + 83))) (1 : Int32).toNatClampNeg (some (x + 84))) (2 : Int32).toNatClampNeg (some (x + 85))) (3 : Int32).toNatClampNeg (some (x + 86))) (4 : Int32).toNatClampNeg (some (x + 87))) (5 : Int32).toNatClampNeg (some (x + 88))) (6 : Int32).toNatClampNeg (some (x + 89))) (7 : Int32).toNatClampNeg (some (x + 90))) (8 : Int32).toNatClampNeg (some (x + 91))) (9 : Int32).toNatClampNeg (some (x + 92))) (10 : Int32).toNatClampNeg (some (x + 93))) (11 : Int32).toNatClampNeg (some (x + 94))))) (hc83_ : Φ (x + 83) = some (o_ 5 [.long k, .long pk, .long by_, .int 0, .int 0])) (hna : G.2.2.2 ≤ x) : Ct G l yX2_addToFlow wsX2_addToFlow ({ frames := 1, cells := 0, slots := 0, locals := 23 }) 0 0 [.ref (x + 80), .long k, .int b] Φ sz (fun v Φ1 sz1 => v = none ∧ sz1 = sz ∧ (∀ b9 : Nat, b9 ≠ x + 83 → Φ1 b9 = Φ b9) ∧ Φ1 (x + 83) = some (o_ 5 [.long k, .long (pk + 1), .long (by_ + b.toInt64), .int 0, .int 0])) := by
  refine Ct.of (cc := cX2_addToFlow) (maxL := 6) (ret := none) (by decide) rfl (Nat.le_of_ble_eq_true rfl) ?_
  intro p9 e9 s9 m9 w9 t9 k9 B
  show Z p9 l e9 _ s9 m9 _ w9 t9 k9 _ G 6 0 [(0, .ref (x + 80)), (1, .long k), (3, .int b)] [] Φ sz 0 0
  refine z_aload_n B dX2_addToFlow_0 rfl 0 rfl ?_
  refine z_get (ref := "FlowExporter$Exporter") (C := RX2) (T := TX2) (N := 13) (ci := 4) (v := .ref (x + 81)) B (by decide +kernel) rfl 2 (by decide) (by decide +kernel) rfl hc80_ rfl dX2_addToFlow_1 ?_
  refine z_lload_n B dX2_addToFlow_4 rfl 1 rfl ?_
  refine z_callV (As := [.long k]) (rest := []) B (f_X4_indexOf_n G l Φ sz x k pk by_ hc81_ hc82_ hc83_) (cwV 1 B.1.2.2.2.2 gX2_addToFlow_X4_indexOf rfl rfl rfl (by decide +kernel) ⟨Nat.le_of_ble_eq_true rfl, Nat.le_of_ble_eq_true rfl⟩) hc81_ rfl rfl rfl rfl (Nat.le_of_ble_eq_true rfl) dX2_addToFlow_5 ⟨Nat.le_of_ble_eq_true rfl, Nat.le_of_ble_eq_true rfl⟩ (fun v1 Φ1 sz1 st1 hp1 hs1 => ?_)
  obtain ⟨rfl, hq1, fr1⟩ := hp1
  replace hq1 : sz1 = sz := hq1
  subst sz1
  replace hs1 : st1 = [.int 0] := hs1
  subst st1
  refine z_istore (lv' := [(4, .int 0), (0, .ref (x + 80)), (1, .long k), (3, .int b)]) B dX2_addToFlow_8 (Nat.le_of_ble_eq_true rfl) rfl ?_
  refine z_iload B dX2_addToFlow_10 0 rfl ?_
  refine z_iconst (v := (-1)) B dX2_addToFlow_12 rfl ?_
  refine z_icmp_ne (tgt := 37) B dX2_addToFlow_13 rfl (fun c_1 => ?_) (fun h9 => absurd h9 (by decide))
  refine z_iload B dX2_addToFlow_37 0 rfl ?_
  refine z_iconst (v := (-1)) B dX2_addToFlow_39 rfl ?_
  refine z_icmp_ne (tgt := 58) B dX2_addToFlow_40 rfl (fun c_2 => ?_) (fun h9 => absurd h9 (by decide))
  refine z_aload_n B dX2_addToFlow_58 rfl 1 rfl ?_
  have h_1 : Φ1 (x + 80) = some (o_ 4 [.ref (x + 3), .ref (x + 74), .ref (x + 81), .ref (x + 95), .int 0, .int 1, .int 1, .int 0, .int 0, .int 0, .long ob, .long 0, .long 0]) := ((fr1 (x + 80)).trans hc80_)
  refine z_get (ref := "FlowExporter$Exporter") (C := RX2) (T := TX2) (N := 13) (ci := 4) (v := .ref (x + 81)) B (by decide +kernel) rfl 2 (by decide) (by decide +kernel) rfl h_1 rfl dX2_addToFlow_59 ?_
  refine z_iload B dX2_addToFlow_62 0 rfl ?_
  have h_2 : Φ1 (x + 81) = some (o_ 6 [.ref (x + 82), .int 1]) := ((fr1 (x + 81)).trans hc81_)
  have h_3 : Φ1 (x + 82) = some (aq_ G 5 12 (va_up (va_up (va_up (va_up (va_up (va_up (va_up (va_up (va_up (va_up (va_up (va_up (fun _ => none) (0 : Int32).toNatClampNeg (some (x + 83))) (1 : Int32).toNatClampNeg (some (x + 84))) (2 : Int32).toNatClampNeg (some (x + 85))) (3 : Int32).toNatClampNeg (some (x + 86))) (4 : Int32).toNatClampNeg (some (x + 87))) (5 : Int32).toNatClampNeg (some (x + 88))) (6 : Int32).toNatClampNeg (some (x + 89))) (7 : Int32).toNatClampNeg (some (x + 90))) (8 : Int32).toNatClampNeg (some (x + 91))) (9 : Int32).toNatClampNeg (some (x + 92))) (10 : Int32).toNatClampNeg (some (x + 93))) (11 : Int32).toNatClampNeg (some (x + 94)))) := ((fr1 (x + 82)).trans hc82_)
  refine z_callV (As := [.int 0]) (rest := []) B (f_X4_flowAt_n G l Φ1 sz x h_2 h_3) (cwV 1 B.1.2.2.2.2 gX2_addToFlow_X4_flowAt rfl rfl rfl (by decide +kernel) ⟨Nat.le_of_ble_eq_true rfl, Nat.le_of_ble_eq_true rfl⟩) h_2 rfl rfl rfl rfl (Nat.le_of_ble_eq_true rfl) dX2_addToFlow_64 ⟨Nat.le_of_ble_eq_true rfl, Nat.le_of_ble_eq_true rfl⟩ (fun v2 Φ2 sz2 st2 hp2 hs2 => ?_)
  obtain ⟨rfl, hq2, fr2⟩ := hp2
  replace hq2 : sz2 = sz := hq2
  subst sz2
  replace hs2 : st2 = [.ref (x + 83)] := hs2
  subst st2
  refine z_astore (lv' := [(5, .ref (x + 83)), (4, .int 0), (0, .ref (x + 80)), (1, .long k), (3, .int b)]) B dX2_addToFlow_67 (Nat.le_of_ble_eq_true rfl) rfl ?_
  refine z_aload B dX2_addToFlow_69 0 rfl ?_
  refine z_dup B dX2_addToFlow_71 rfl ?_
  have h_4 : Φ2 (x + 83) = some (o_ 5 [.long k, .long pk, .long by_, .int 0, .int 0]) := ((fr2 (x + 83)).trans ((fr1 (x + 83)).trans hc83_))
  refine z_get (ref := "FlowExporter$Flow") (C := RX3) (T := TX3) (N := 5) (ci := 5) (v := .long pk) B (by decide +kernel) rfl 1 (by decide) (by decide +kernel) rfl h_4 rfl dX2_addToFlow_72 ?_
  refine z_lconst (v := 1) B dX2_addToFlow_75 rfl ?_
  refine z_ladd B dX2_addToFlow_76 ?_
  refine z_put (ref := "FlowExporter$Flow") (C := RX3) (T := TX3) (N := 5) (ci := 5) (v := .long (pk + 1)) B (by decide +kernel) tyX3 tyX3_ok nmX3 rfl 1 (by decide) (by decide +kernel) rfl (Or.inl rfl) h_4 (Nat.le_trans hna (Nat.le_add_right x 83)) rfl rfl (Nat.le_of_ble_eq_true rfl) dX2_addToFlow_77 (fun Φ3 hΦ1 => ?_)
  have h_5 : Φ3 (x + 83) = some (o_ 5 [.long k, .long (pk + 1), .long by_, .int 0, .int 0]) := fset_at hΦ1
  refine z_aload B dX2_addToFlow_80 0 rfl ?_
  refine z_dup B dX2_addToFlow_82 rfl ?_
  refine z_get (ref := "FlowExporter$Flow") (C := RX3) (T := TX3) (N := 5) (ci := 5) (v := .long by_) B (by decide +kernel) rfl 2 (by decide) (by decide +kernel) rfl h_5 rfl dX2_addToFlow_83 ?_
  refine z_iload_n B dX2_addToFlow_86 rfl 4 rfl ?_
  refine z_i2l (v := b.toInt64) B dX2_addToFlow_87 rfl ?_
  refine z_ladd B dX2_addToFlow_88 ?_
  refine z_put (ref := "FlowExporter$Flow") (C := RX3) (T := TX3) (N := 5) (ci := 5) (v := .long (by_ + b.toInt64)) B (by decide +kernel) tyX3 tyX3_ok nmX3 rfl 2 (by decide) (by decide +kernel) rfl (Or.inl rfl) h_5 (Nat.le_trans hna (Nat.le_add_right x 83)) rfl rfl (Nat.le_of_ble_eq_true rfl) dX2_addToFlow_89 (fun Φ4 hΦ2 => ?_)
  have h_6 : Φ4 (x + 83) = some (o_ 5 [.long k, .long (pk + 1), .long (by_ + b.toInt64), .int 0, .int 0]) := fset_at hΦ2
  refine z_aload B dX2_addToFlow_92 0 rfl ?_
  refine z_aload_n B dX2_addToFlow_94 rfl 2 rfl ?_
  have h_7 : Φ4 (x + 80) = some (o_ 4 [.ref (x + 3), .ref (x + 74), .ref (x + 81), .ref (x + 95), .int 0, .int 1, .int 1, .int 0, .int 0, .int 0, .long ob, .long 0, .long 0]) := ((fset_fr hΦ2 (ne_off (x := x) (i := 80) (j := 83) rfl)).trans ((fset_fr hΦ1 (ne_off (x := x) (i := 80) (j := 83) rfl)).trans ((fr2 (x + 80)).trans h_1)))
  refine z_get (ref := "FlowExporter$Exporter") (C := RX2) (T := TX2) (N := 13) (ci := 4) (v := .int 0) B (by decide +kernel) rfl 4 (by decide) (by decide +kernel) rfl h_7 rfl dX2_addToFlow_95 ?_
  refine z_put (ref := "FlowExporter$Flow") (C := RX3) (T := TX3) (N := 5) (ci := 5) (v := .int 0) B (by decide +kernel) tyX3 tyX3_ok nmX3 rfl 4 (by decide) (by decide +kernel) rfl (Or.inl rfl) h_6 (Nat.le_trans hna (Nat.le_add_right x 83)) rfl rfl (Nat.le_of_ble_eq_true rfl) dX2_addToFlow_98 (fun Φ5 hΦ3 => ?_)
  have h_8 : Φ5 (x + 83) = some (o_ 5 [.long k, .long (pk + 1), .long (by_ + b.toInt64), .int 0, .int 0]) := fset_at hΦ3
  exact z_ret_v B dX2_addToFlow_101 ⟨rfl, rfl, (fun b9 h9a => ((fset_fr hΦ3 h9a).trans ((fset_fr hΦ2 h9a).trans ((fset_fr hΦ1 h9a).trans ((fr2 b9).trans ((fr1 b9).trans rfl)))))), h_8⟩

set_option maxHeartbeats 4000000 in
set_option maxRecDepth 100000 in
theorem f_X2_takePackets_n (G : EnvG) (l : Launch) (Φ : Hm) (sz : Nat) (x : Nat) (k : Int64) (b : Int32) (n : Nat) (hc74_ : Φ (x + 74) = some (o_ 10 [.ref (x + 3), .ref (x + 46), .ref (x + 75), .ref (x + 77), .int 0, .ref (x + 78), .ref (x + 79), .int 0, .long 0, .int 0])) (hc80_ : Φ (x + 80) = some (o_ 4 [.ref (x + 3), .ref (x + 74), .ref (x + 81), .ref (x + 95), .int 0, .int 1, .int 1, .int 0, .int 0, .int 0, .long 0, .long 0, .long 0])) (hc81_ : Φ (x + 81) = some (o_ 6 [.ref (x + 82), .int 0])) (hc82_ : Φ (x + 82) = some (aq_ G 5 12 (va_up (va_up (va_up (va_up (va_up (va_up (va_up (va_up (va_up (va_up (va_up (va_up (fun _ => none) (0 : Int32).toNatClampNeg (some (x + 83))) (1 : Int32).toNatClampNeg (some (x + 84))) (2 : Int32).toNatClampNeg (some (x + 85))) (3 : Int32).toNatClampNeg (some (x + 86))) (4 : Int32).toNatClampNeg (some (x + 87))) (5 : Int32).toNatClampNeg (some (x + 88))) (6 : Int32).toNatClampNeg (some (x + 89))) (7 : Int32).toNatClampNeg (some (x + 90))) (8 : Int32).toNatClampNeg (some (x + 91))) (9 : Int32).toNatClampNeg (some (x + 92))) (10 : Int32).toNatClampNeg (some (x + 93))) (11 : Int32).toNatClampNeg (some (x + 94))))) (hc83_ : Φ (x + 83) = some (o_ 5 [.long 0, .long 0, .long 0, .int 0, .int 0])) (hc95_ : Φ (x + 95) = some (o_ 6 [.ref (x + 96), .int 0])) (hc96_ : Φ (x + 96) = some (aq_ G 5 24 (va_up (va_up (va_up (va_up (va_up (va_up (va_up (va_up (va_up (va_up (va_up (va_up (va_up (va_up (va_up (va_up (va_up (va_up (va_up (va_up (va_up (va_up (va_up (va_up (fun _ => none) (0 : Int32).toNatClampNeg (some (x + 97))) (1 : Int32).toNatClampNeg (some (x + 98))) (2 : Int32).toNatClampNeg (some (x + 99))) (3 : Int32).toNatClampNeg (some (x + 100))) (4 : Int32).toNatClampNeg (some (x + 101))) (5 : Int32).toNatClampNeg (some (x + 102))) (6 : Int32).toNatClampNeg (some (x + 103))) (7 : Int32).toNatClampNeg (some (x + 104))) (8 : Int32).toNatClampNeg (some (x + 105))) (9 : Int32).toNatClampNeg (some (x + 106))) (10 : Int32).toNatClampNeg (some (x + 107))) (11 : Int32).toNatClampNeg (some (x + 108))) (12 : Int32).toNatClampNeg (some (x + 109))) (13 : Int32).toNatClampNeg (some (x + 110))) (14 : Int32).toNatClampNeg (some (x + 111))) (15 : Int32).toNatClampNeg (some (x + 112))) (16 : Int32).toNatClampNeg (some (x + 113))) (17 : Int32).toNatClampNeg (some (x + 114))) (18 : Int32).toNatClampNeg (some (x + 115))) (19 : Int32).toNatClampNeg (some (x + 116))) (20 : Int32).toNatClampNeg (some (x + 117))) (21 : Int32).toNatClampNeg (some (x + 118))) (22 : Int32).toNatClampNeg (some (x + 119))) (23 : Int32).toNatClampNeg (some (x + 120))))) (hc97_ : Φ (x + 97) = some (o_ 5 [.long 0, .long 0, .long 0, .int 0, .int 0])) (hna : G.2.2.2 ≤ x) (hn1 : 1 ≤ n) (hn2 : n ≤ 200) : Ct G l yX2_takePackets wsX2_takePackets ({ frames := 3, cells := 0, slots := 0, locals := 73 }) 0 0 [.ref (x + 80), .long k, .int b, .int (nI n)] Φ sz (fun v Φ1 sz1 => v = some (.int (nI n)) ∧ ∀ b9 : Nat, x + 149 ≤ b9 → Φ1 b9 = Φ b9) := by
  refine Ct.of (cc := cX2_takePackets) (maxL := 7) (ret := (some .int)) (by decide) rfl (Nat.le_of_ble_eq_true rfl) ?_
  intro p9 e9 s9 m9 w9 t9 k9 B
  have loop : ∀ (kq i : Nat) (Φi : Hm) (ob : Int64) (pk : Int64) (by_ : Int64), i + kq = n → Φi (x + 80) = some (o_ 4 [.ref (x + 3), .ref (x + 74), .ref (x + 81), .ref (x + 95), .int 0, .int 1, .int 1, .int 0, .int 0, .int 0, .long ob, .long 0, .long 0]) → Φi (x + 81) = some (o_ 6 [.ref (x + 82), .int 1]) → Φi (x + 82) = some (aq_ G 5 12 (va_up (va_up (va_up (va_up (va_up (va_up (va_up (va_up (va_up (va_up (va_up (va_up (fun _ => none) (0 : Int32).toNatClampNeg (some (x + 83))) (1 : Int32).toNatClampNeg (some (x + 84))) (2 : Int32).toNatClampNeg (some (x + 85))) (3 : Int32).toNatClampNeg (some (x + 86))) (4 : Int32).toNatClampNeg (some (x + 87))) (5 : Int32).toNatClampNeg (some (x + 88))) (6 : Int32).toNatClampNeg (some (x + 89))) (7 : Int32).toNatClampNeg (some (x + 90))) (8 : Int32).toNatClampNeg (some (x + 91))) (9 : Int32).toNatClampNeg (some (x + 92))) (10 : Int32).toNatClampNeg (some (x + 93))) (11 : Int32).toNatClampNeg (some (x + 94)))) → Φi (x + 83) = some (o_ 5 [.long k, .long pk, .long by_, .int 0, .int 0]) → Φi (x + 74) = some (o_ 10 [.ref (x + 3), .ref (x + 46), .ref (x + 75), .ref (x + 77), .int 0, .ref (x + 78), .ref (x + 79), .int 0, .long 0, .int 0]) → (∀ b9 : Nat, x + 149 ≤ b9 → Φi b9 = Φ b9) → Z p9 l e9 ({ frames := 3, cells := 0, slots := 0, locals := 73 } : Room) s9 m9 (List.toArray [.ref (x + 80), .long k, .int b, .int (nI n)]) w9 t9 k9 (MQ w9 (QU G (fun v Φ1 sz1 => v = some (.int (nI n)) ∧ ∀ b9 : Nat, x + 149 ≤ b9 → Φ1 b9 = Φ b9)) (List.toArray [.ref (x + 80), .long k, .int b, .int (nI n)]) s9 0 0 (fun q => G.2.2.2 ≤ q)) G 7 26 [(6, .int (nI i)), (5, .int (nI i)), (4, .int (nI n)), (3, .int b), (1, .long k), (0, .ref (x + 80))] [] Φi sz 0 0 := by
    intro kq
    induction kq with
    | zero =>
      intro i Φi ob pk by_ hi hI0 hI1 hI2 hI3 hI4  hfr
      refine z_iload B dX2_takePackets_26 0 rfl ?_
      refine z_iload B dX2_takePackets_28 2 rfl ?_
      refine z_icmp_ge (tgt := 55) B dX2_takePackets_30 rfl (fun c_1 => ?_) (fun h9 => absurd (nI_le (by omega) (by omega)) h9)
      refine z_aload_n B dX2_takePackets_55 rfl 5 rfl ?_
      refine z_dup B dX2_takePackets_56 rfl ?_
      refine z_get (ref := "FlowExporter$Exporter") (C := RX2) (T := TX2) (N := 13) (ci := 4) (v := .long 0) B (by decide +kernel) rfl 11 (by decide) (by decide +kernel) rfl hI0 rfl dX2_takePackets_57 ?_
      refine z_iload B dX2_takePackets_60 1 rfl ?_
      refine z_i2l (v := (nI i).toInt64) B dX2_takePackets_62 rfl ?_
      refine z_ladd B dX2_takePackets_63 ?_
      refine z_put (ref := "FlowExporter$Exporter") (C := RX2) (T := TX2) (N := 13) (ci := 4) (v := .long (0 + ((nI i).toInt64))) B (by decide +kernel) tyX2 tyX2_ok nmX2 rfl 11 (by decide) (by decide +kernel) rfl (Or.inl rfl) hI0 (Nat.le_trans hna (Nat.le_add_right x 80)) rfl rfl (Nat.le_of_ble_eq_true rfl) dX2_takePackets_64 (fun Φ1 hΦ1 => ?_)
      have h_1 : Φ1 (x + 80) = some (o_ 4 [.ref (x + 3), .ref (x + 74), .ref (x + 81), .ref (x + 95), .int 0, .int 1, .int 1, .int 0, .int 0, .int 0, .long ob, .long (0 + ((nI i).toInt64)), .long 0]) := fset_at hΦ1
      refine z_aload_n B dX2_takePackets_67 rfl 5 rfl ?_
      refine z_get (ref := "FlowExporter$Exporter") (C := RX2) (T := TX2) (N := 13) (ci := 4) (v := .ref (x + 74)) B (by decide +kernel) rfl 1 (by decide) (by decide +kernel) rfl h_1 rfl dX2_takePackets_68 ?_
      refine z_aload_n B dX2_takePackets_71 rfl 5 rfl ?_
      refine z_get (ref := "FlowExporter$Exporter") (C := RX2) (T := TX2) (N := 13) (ci := 4) (v := .int 0) B (by decide +kernel) rfl 4 (by decide) (by decide +kernel) rfl h_1 rfl dX2_takePackets_72 ?_
      have h_2 : Φ1 (x + 74) = some (o_ 10 [.ref (x + 3), .ref (x + 46), .ref (x + 75), .ref (x + 77), .int 0, .ref (x + 78), .ref (x + 79), .int 0, .long 0, .int 0]) := ((fset_fr hΦ1 (ne_off (x := x) (i := 74) (j := 80) rfl)).trans hI4)
      refine z_callV (As := [.int 0]) (rest := []) B (f_X8_sendPending_b G l Φ1 sz x h_2) (cwV 1 B.1.2.2.2.2 gX2_takePackets_X8_sendPending rfl rfl rfl (by decide +kernel) ⟨Nat.le_of_ble_eq_true rfl, Nat.le_of_ble_eq_true rfl⟩) h_2 rfl rfl rfl rfl (Nat.le_of_ble_eq_true rfl) dX2_takePackets_75 ⟨Nat.le_of_ble_eq_true rfl, Nat.le_of_ble_eq_true rfl⟩ (fun v1 Φ2 sz1 st1 hp1 hs1 => ?_)
      obtain ⟨rfl, hq1, fr1⟩ := hp1
      replace hq1 : sz1 = sz := hq1
      subst sz1
      replace hs1 : st1 = [] := hs1
      subst st1
      refine z_iload B dX2_takePackets_78 1 rfl ?_
      exact z_ret_i B dX2_takePackets_80 ⟨(by rw [show i = n by omega]), fun b9 h9 => ((fr1 b9).trans ((fset_fr hΦ1 (Nat.ne_of_gt (Nat.lt_of_lt_of_le (lt_off (x := x) (i := 80) (j := 149) rfl) h9))).trans rfl)).trans (hfr b9 h9)⟩
    | succ kq ih =>
      intro i Φi ob pk by_ hi hI0 hI1 hI2 hI3 hI4  hfr
      refine z_iload B dX2_takePackets_26 0 rfl ?_
      refine z_iload B dX2_takePackets_28 2 rfl ?_
      refine z_icmp_ge (tgt := 55) B dX2_takePackets_30 rfl (fun h9 => absurd h9 (nI_ge (by omega) (by omega))) (fun c_1 => ?_)
      refine z_aload_n B dX2_takePackets_33 rfl 5 rfl ?_
      refine z_callV (As := []) (rest := []) B (f_X2_isSampled G l Φi sz x ob hI0) (cwV 0 B.1.2.2.2.2 gX2_takePackets_X2_isSampled rfl rfl rfl (by decide +kernel) ⟨Nat.le_of_ble_eq_true rfl, Nat.le_of_ble_eq_true rfl⟩) hI0 rfl rfl rfl rfl (Nat.le_of_ble_eq_true rfl) dX2_takePackets_34 ⟨Nat.le_of_ble_eq_true rfl, Nat.le_of_ble_eq_true rfl⟩ (fun v1 Φ1 sz1 st1 hp1 hs1 => ?_)
      obtain ⟨rfl, hq1, fr1⟩ := hp1
      replace hq1 : sz1 = sz := hq1
      subst sz1
      replace hs1 : st1 = [.int 1] := hs1
      subst st1
      refine z_if_eq (tgt := 49) B dX2_takePackets_37 rfl (fun h9 => absurd h9 (by decide)) (fun c_2 => ?_)
      refine z_aload_n B dX2_takePackets_40 rfl 5 rfl ?_
      refine z_lload_n B dX2_takePackets_41 rfl 4 rfl ?_
      refine z_iload_n B dX2_takePackets_42 rfl 3 rfl ?_
      have h_1 : Φ1 (x + 80) = some (o_ 4 [.ref (x + 3), .ref (x + 74), .ref (x + 81), .ref (x + 95), .int 0, .int 1, .int 1, .int 0, .int 0, .int 0, .long ob, .long 0, .long 0]) := ((fr1 (x + 80)).trans hI0)
      have h_2 : Φ1 (x + 81) = some (o_ 6 [.ref (x + 82), .int 1]) := ((fr1 (x + 81)).trans hI1)
      have h_3 : Φ1 (x + 82) = some (aq_ G 5 12 (va_up (va_up (va_up (va_up (va_up (va_up (va_up (va_up (va_up (va_up (va_up (va_up (fun _ => none) (0 : Int32).toNatClampNeg (some (x + 83))) (1 : Int32).toNatClampNeg (some (x + 84))) (2 : Int32).toNatClampNeg (some (x + 85))) (3 : Int32).toNatClampNeg (some (x + 86))) (4 : Int32).toNatClampNeg (some (x + 87))) (5 : Int32).toNatClampNeg (some (x + 88))) (6 : Int32).toNatClampNeg (some (x + 89))) (7 : Int32).toNatClampNeg (some (x + 90))) (8 : Int32).toNatClampNeg (some (x + 91))) (9 : Int32).toNatClampNeg (some (x + 92))) (10 : Int32).toNatClampNeg (some (x + 93))) (11 : Int32).toNatClampNeg (some (x + 94)))) := ((fr1 (x + 82)).trans hI2)
      have h_4 : Φ1 (x + 83) = some (o_ 5 [.long k, .long pk, .long by_, .int 0, .int 0]) := ((fr1 (x + 83)).trans hI3)
      refine z_callV (As := [.long k, .int b]) (rest := []) B (f_X2_addToFlow_n G l Φ1 sz x ob k pk by_ b h_1 h_2 h_3 h_4 hna) (cwV 2 B.1.2.2.2.2 gX2_takePackets_X2_addToFlow rfl rfl rfl (by decide +kernel) ⟨Nat.le_of_ble_eq_true rfl, Nat.le_of_ble_eq_true rfl⟩) h_1 rfl rfl rfl rfl (Nat.le_of_ble_eq_true rfl) dX2_takePackets_43 ⟨Nat.le_of_ble_eq_true rfl, Nat.le_of_ble_eq_true rfl⟩ (fun v2 Φ2 sz2 st2 hp2 hs2 => ?_)
      obtain ⟨rfl, hq2, fr2, h_5⟩ := hp2
      replace hq2 : sz2 = sz := hq2
      subst sz2
      replace hs2 : st2 = [] := hs2
      subst st2
      have h_6 : Φ2 (x + 83) = some (o_ 5 [.long k, .long (pk + 1), .long (by_ + b.toInt64), .int 0, .int 0]) := h_5
      refine z_iinc (k := 1) (v := nI (i + 1)) (lv' := [(5, .int (nI (i + 1))), (6, .int (nI i)), (4, .int (nI n)), (3, .int b), (1, .long k), (0, .ref (x + 80))]) B dX2_takePackets_46 rfl (nI_1 i) (Nat.le_of_ble_eq_true rfl) rfl ?_
      refine z_iinc (k := 1) (v := nI (i + 1)) (lv' := [(6, .int (nI (i + 1))), (5, .int (nI (i + 1))), (4, .int (nI n)), (3, .int b), (1, .long k), (0, .ref (x + 80))]) B dX2_takePackets_49 rfl (nI_1 i) (Nat.le_of_ble_eq_true rfl) rfl ?_
      refine z_goto (tgt := 26) B dX2_takePackets_52 rfl ?_
      have h_7 : Φ2 (x + 80) = some (o_ 4 [.ref (x + 3), .ref (x + 74), .ref (x + 81), .ref (x + 95), .int 0, .int 1, .int 1, .int 0, .int 0, .int 0, .long ob, .long 0, .long 0]) := ((fr2 (x + 80) (ne_off (x := x) (i := 80) (j := 83) rfl)).trans h_1)
      have h_8 : Φ2 (x + 81) = some (o_ 6 [.ref (x + 82), .int 1]) := ((fr2 (x + 81) (ne_off (x := x) (i := 81) (j := 83) rfl)).trans h_2)
      have h_9 : Φ2 (x + 82) = some (aq_ G 5 12 (va_up (va_up (va_up (va_up (va_up (va_up (va_up (va_up (va_up (va_up (va_up (va_up (fun _ => none) (0 : Int32).toNatClampNeg (some (x + 83))) (1 : Int32).toNatClampNeg (some (x + 84))) (2 : Int32).toNatClampNeg (some (x + 85))) (3 : Int32).toNatClampNeg (some (x + 86))) (4 : Int32).toNatClampNeg (some (x + 87))) (5 : Int32).toNatClampNeg (some (x + 88))) (6 : Int32).toNatClampNeg (some (x + 89))) (7 : Int32).toNatClampNeg (some (x + 90))) (8 : Int32).toNatClampNeg (some (x + 91))) (9 : Int32).toNatClampNeg (some (x + 92))) (10 : Int32).toNatClampNeg (some (x + 93))) (11 : Int32).toNatClampNeg (some (x + 94)))) := ((fr2 (x + 82) (ne_off (x := x) (i := 82) (j := 83) rfl)).trans h_3)
      have h_10 : Φ2 (x + 74) = some (o_ 10 [.ref (x + 3), .ref (x + 46), .ref (x + 75), .ref (x + 77), .int 0, .ref (x + 78), .ref (x + 79), .int 0, .long 0, .int 0]) := ((fr2 (x + 74) (ne_off (x := x) (i := 74) (j := 83) rfl)).trans ((fr1 (x + 74)).trans hI4))
      refine z_lv [0, 1, 2, 3, 4, 5] rfl ?_
      refine ih (i + 1) Φ2 ob (pk + 1) (by_ + b.toInt64) (by omega) h_7 h_8 h_9 (by first | exact h_6 | (rw [← nI_1]; exact h_6)) h_10  (fun b9 h9 => ((fr2 b9 (Nat.ne_of_gt (Nat.lt_of_lt_of_le (lt_off (x := x) (i := 83) (j := 149) rfl) h9))).trans ((fr1 b9).trans rfl)).trans (hfr b9 h9))
  show Z p9 l e9 _ s9 m9 _ w9 t9 k9 _ G 7 0 [(0, .ref (x + 80)), (1, .long k), (3, .int b), (4, .int (nI n))] [] Φ sz 0 0
  refine z_aload_n B dX2_takePackets_0 rfl 0 rfl ?_
  refine z_dup B dX2_takePackets_1 rfl ?_
  refine z_get (ref := "FlowExporter$Exporter") (C := RX2) (T := TX2) (N := 13) (ci := 4) (v := .long 0) B (by decide +kernel) rfl 10 (by decide) (by decide +kernel) rfl hc80_ rfl dX2_takePackets_2 ?_
  refine z_iload B dX2_takePackets_5 3 rfl ?_
  refine z_i2l (v := (nI n).toInt64) B dX2_takePackets_7 rfl ?_
  refine z_ladd B dX2_takePackets_8 ?_
  refine z_put (ref := "FlowExporter$Exporter") (C := RX2) (T := TX2) (N := 13) (ci := 4) (v := .long (0 + ((nI n).toInt64))) B (by decide +kernel) tyX2 tyX2_ok nmX2 rfl 10 (by decide) (by decide +kernel) rfl (Or.inl rfl) hc80_ (Nat.le_trans hna (Nat.le_add_right x 80)) rfl rfl (Nat.le_of_ble_eq_true rfl) dX2_takePackets_9 (fun Φ1 hΦ1 => ?_)
  have h_1 : Φ1 (x + 80) = some (o_ 4 [.ref (x + 3), .ref (x + 74), .ref (x + 81), .ref (x + 95), .int 0, .int 1, .int 1, .int 0, .int 0, .int 0, .long (0 + ((nI n).toInt64)), .long 0, .long 0]) := fset_at hΦ1
  refine z_aload_n B dX2_takePackets_12 rfl 0 rfl ?_
  refine z_lload_n B dX2_takePackets_13 rfl 1 rfl ?_
  refine z_iload_n B dX2_takePackets_14 rfl 2 rfl ?_
  refine z_iload B dX2_takePackets_15 3 rfl ?_
  have h_2 : Φ1 (x + 95) = some (o_ 6 [.ref (x + 96), .int 0]) := ((fset_fr hΦ1 (ne_off (x := x) (i := 95) (j := 80) rfl)).trans hc95_)
  have h_3 : Φ1 (x + 96) = some (aq_ G 5 24 (va_up (va_up (va_up (va_up (va_up (va_up (va_up (va_up (va_up (va_up (va_up (va_up (va_up (va_up (va_up (va_up (va_up (va_up (va_up (va_up (va_up (va_up (va_up (va_up (fun _ => none) (0 : Int32).toNatClampNeg (some (x + 97))) (1 : Int32).toNatClampNeg (some (x + 98))) (2 : Int32).toNatClampNeg (some (x + 99))) (3 : Int32).toNatClampNeg (some (x + 100))) (4 : Int32).toNatClampNeg (some (x + 101))) (5 : Int32).toNatClampNeg (some (x + 102))) (6 : Int32).toNatClampNeg (some (x + 103))) (7 : Int32).toNatClampNeg (some (x + 104))) (8 : Int32).toNatClampNeg (some (x + 105))) (9 : Int32).toNatClampNeg (some (x + 106))) (10 : Int32).toNatClampNeg (some (x + 107))) (11 : Int32).toNatClampNeg (some (x + 108))) (12 : Int32).toNatClampNeg (some (x + 109))) (13 : Int32).toNatClampNeg (some (x + 110))) (14 : Int32).toNatClampNeg (some (x + 111))) (15 : Int32).toNatClampNeg (some (x + 112))) (16 : Int32).toNatClampNeg (some (x + 113))) (17 : Int32).toNatClampNeg (some (x + 114))) (18 : Int32).toNatClampNeg (some (x + 115))) (19 : Int32).toNatClampNeg (some (x + 116))) (20 : Int32).toNatClampNeg (some (x + 117))) (21 : Int32).toNatClampNeg (some (x + 118))) (22 : Int32).toNatClampNeg (some (x + 119))) (23 : Int32).toNatClampNeg (some (x + 120)))) := ((fset_fr hΦ1 (ne_off (x := x) (i := 96) (j := 80) rfl)).trans hc96_)
  have h_4 : Φ1 (x + 97) = some (o_ 5 [.long 0, .long 0, .long 0, .int 0, .int 0]) := ((fset_fr hΦ1 (ne_off (x := x) (i := 97) (j := 80) rfl)).trans hc97_)
  refine z_callV (As := [.long k, .int b, .int (nI n)]) (rest := []) B (f_X2_remember G l Φ1 sz x (0 + ((nI n).toInt64)) k b (nI n) h_1 h_2 h_3 h_4 hna) (cwV 3 B.1.2.2.2.2 gX2_takePackets_X2_remember rfl rfl rfl (by decide +kernel) ⟨Nat.le_of_ble_eq_true rfl, Nat.le_of_ble_eq_true rfl⟩) h_1 rfl rfl rfl rfl (Nat.le_of_ble_eq_true rfl) dX2_takePackets_17 ⟨Nat.le_of_ble_eq_true rfl, Nat.le_of_ble_eq_true rfl⟩ (fun v1 Φ2 sz1 st1 hp1 hs1 => ?_)
  obtain ⟨rfl, hq1, fr1, h_5, h_6⟩ := hp1
  replace hq1 : sz1 = sz := hq1
  subst sz1
  replace hs1 : st1 = [] := hs1
  subst st1
  have h_7 : Φ2 (x + 95) = some (o_ 6 [.ref (x + 96), .int 1]) := h_5
  have h_8 : Φ2 (x + 97) = some (o_ 5 [.long k, .long (0 + (nI n).toInt64), .long (0 + ((nI n).toInt64 * b.toInt64)), .int 0, .int 0]) := h_6
  refine z_iconst (v := 0) B dX2_takePackets_20 rfl ?_
  refine z_istore (lv' := [(5, .int 0), (0, .ref (x + 80)), (1, .long k), (3, .int b), (4, .int (nI n))]) B dX2_takePackets_21 (Nat.le_of_ble_eq_true rfl) rfl ?_
  refine z_iconst (v := 0) B dX2_takePackets_23 rfl ?_
  refine z_istore (lv' := [(6, .int 0), (5, .int 0), (0, .ref (x + 80)), (1, .long k), (3, .int b), (4, .int (nI n))]) B dX2_takePackets_24 (Nat.le_of_ble_eq_true rfl) rfl ?_
  refine z_iload B dX2_takePackets_26 0 rfl ?_
  refine z_iload B dX2_takePackets_28 5 rfl ?_
  refine z_icmp_ge (tgt := 55) B dX2_takePackets_30 rfl (fun h9 => absurd h9 (nI_ge (a := 0) (by omega) (by omega))) (fun c_1 => ?_)
  refine z_aload_n B dX2_takePackets_33 rfl 2 rfl ?_
  have h_9 : Φ2 (x + 80) = some (o_ 4 [.ref (x + 3), .ref (x + 74), .ref (x + 81), .ref (x + 95), .int 0, .int 1, .int 1, .int 0, .int 0, .int 0, .long (0 + ((nI n).toInt64)), .long 0, .long 0]) := ((fr1 (x + 80) (ne_off (x := x) (i := 80) (j := 95) rfl) (ne_off (x := x) (i := 80) (j := 97) rfl)).trans h_1)
  refine z_callV (As := []) (rest := []) B (f_X2_isSampled G l Φ2 sz x (0 + ((nI n).toInt64)) h_9) (cwV 0 B.1.2.2.2.2 gX2_takePackets_X2_isSampled rfl rfl rfl (by decide +kernel) ⟨Nat.le_of_ble_eq_true rfl, Nat.le_of_ble_eq_true rfl⟩) h_9 rfl rfl rfl rfl (Nat.le_of_ble_eq_true rfl) dX2_takePackets_34 ⟨Nat.le_of_ble_eq_true rfl, Nat.le_of_ble_eq_true rfl⟩ (fun v2 Φ3 sz2 st2 hp2 hs2 => ?_)
  obtain ⟨rfl, hq2, fr2⟩ := hp2
  replace hq2 : sz2 = sz := hq2
  subst sz2
  replace hs2 : st2 = [.int 1] := hs2
  subst st2
  refine z_if_eq (tgt := 49) B dX2_takePackets_37 rfl (fun h9 => absurd h9 (by decide)) (fun c_2 => ?_)
  refine z_aload_n B dX2_takePackets_40 rfl 2 rfl ?_
  refine z_lload_n B dX2_takePackets_41 rfl 3 rfl ?_
  refine z_iload_n B dX2_takePackets_42 rfl 4 rfl ?_
  have h_10 : Φ3 (x + 80) = some (o_ 4 [.ref (x + 3), .ref (x + 74), .ref (x + 81), .ref (x + 95), .int 0, .int 1, .int 1, .int 0, .int 0, .int 0, .long (0 + ((nI n).toInt64)), .long 0, .long 0]) := ((fr2 (x + 80)).trans h_9)
  have h_11 : Φ3 (x + 81) = some (o_ 6 [.ref (x + 82), .int 0]) := ((fr2 (x + 81)).trans ((fr1 (x + 81) (ne_off (x := x) (i := 81) (j := 95) rfl) (ne_off (x := x) (i := 81) (j := 97) rfl)).trans ((fset_fr hΦ1 (ne_off (x := x) (i := 81) (j := 80) rfl)).trans hc81_)))
  have h_12 : Φ3 (x + 82) = some (aq_ G 5 12 (va_up (va_up (va_up (va_up (va_up (va_up (va_up (va_up (va_up (va_up (va_up (va_up (fun _ => none) (0 : Int32).toNatClampNeg (some (x + 83))) (1 : Int32).toNatClampNeg (some (x + 84))) (2 : Int32).toNatClampNeg (some (x + 85))) (3 : Int32).toNatClampNeg (some (x + 86))) (4 : Int32).toNatClampNeg (some (x + 87))) (5 : Int32).toNatClampNeg (some (x + 88))) (6 : Int32).toNatClampNeg (some (x + 89))) (7 : Int32).toNatClampNeg (some (x + 90))) (8 : Int32).toNatClampNeg (some (x + 91))) (9 : Int32).toNatClampNeg (some (x + 92))) (10 : Int32).toNatClampNeg (some (x + 93))) (11 : Int32).toNatClampNeg (some (x + 94)))) := ((fr2 (x + 82)).trans ((fr1 (x + 82) (ne_off (x := x) (i := 82) (j := 95) rfl) (ne_off (x := x) (i := 82) (j := 97) rfl)).trans ((fset_fr hΦ1 (ne_off (x := x) (i := 82) (j := 80) rfl)).trans hc82_)))
  have h_13 : Φ3 (x + 83) = some (o_ 5 [.long 0, .long 0, .long 0, .int 0, .int 0]) := ((fr2 (x + 83)).trans ((fr1 (x + 83) (ne_off (x := x) (i := 83) (j := 95) rfl) (ne_off (x := x) (i := 83) (j := 97) rfl)).trans ((fset_fr hΦ1 (ne_off (x := x) (i := 83) (j := 80) rfl)).trans hc83_)))
  refine z_callV (As := [.long k, .int b]) (rest := []) B (f_X2_addToFlow_1 G l Φ3 sz x (0 + ((nI n).toInt64)) k b h_10 h_11 h_12 h_13 hna) (cwV 2 B.1.2.2.2.2 gX2_takePackets_X2_addToFlow rfl rfl rfl (by decide +kernel) ⟨Nat.le_of_ble_eq_true rfl, Nat.le_of_ble_eq_true rfl⟩) h_10 rfl rfl rfl rfl (Nat.le_of_ble_eq_true rfl) dX2_takePackets_43 ⟨Nat.le_of_ble_eq_true rfl, Nat.le_of_ble_eq_true rfl⟩ (fun v3 Φ4 sz3 st3 hp3 hs3 => ?_)
  obtain ⟨rfl, hq3, fr3, h_14, h_15⟩ := hp3
  replace hq3 : sz3 = sz := hq3
  subst sz3
  replace hs3 : st3 = [] := hs3
  subst st3
  have h_16 : Φ4 (x + 81) = some (o_ 6 [.ref (x + 82), .int 1]) := h_14
  have h_17 : Φ4 (x + 83) = some (o_ 5 [.long k, .long 1, .long (0 + b.toInt64), .int 0, .int 0]) := h_15
  refine z_iinc (k := 1) (v := 1) (lv' := [(5, .int 1), (6, .int 0), (0, .ref (x + 80)), (1, .long k), (3, .int b), (4, .int (nI n))]) B dX2_takePackets_46 rfl rfl (Nat.le_of_ble_eq_true rfl) rfl ?_
  refine z_iinc (k := 1) (v := 1) (lv' := [(6, .int 1), (5, .int 1), (0, .ref (x + 80)), (1, .long k), (3, .int b), (4, .int (nI n))]) B dX2_takePackets_49 rfl rfl (Nat.le_of_ble_eq_true rfl) rfl ?_
  refine z_goto (tgt := 26) B dX2_takePackets_52 rfl ?_
  have h_18 : Φ4 (x + 80) = some (o_ 4 [.ref (x + 3), .ref (x + 74), .ref (x + 81), .ref (x + 95), .int 0, .int 1, .int 1, .int 0, .int 0, .int 0, .long (0 + ((nI n).toInt64)), .long 0, .long 0]) := ((fr3 (x + 80) (ne_off (x := x) (i := 80) (j := 81) rfl) (ne_off (x := x) (i := 80) (j := 83) rfl)).trans h_10)
  have h_19 : Φ4 (x + 82) = some (aq_ G 5 12 (va_up (va_up (va_up (va_up (va_up (va_up (va_up (va_up (va_up (va_up (va_up (va_up (fun _ => none) (0 : Int32).toNatClampNeg (some (x + 83))) (1 : Int32).toNatClampNeg (some (x + 84))) (2 : Int32).toNatClampNeg (some (x + 85))) (3 : Int32).toNatClampNeg (some (x + 86))) (4 : Int32).toNatClampNeg (some (x + 87))) (5 : Int32).toNatClampNeg (some (x + 88))) (6 : Int32).toNatClampNeg (some (x + 89))) (7 : Int32).toNatClampNeg (some (x + 90))) (8 : Int32).toNatClampNeg (some (x + 91))) (9 : Int32).toNatClampNeg (some (x + 92))) (10 : Int32).toNatClampNeg (some (x + 93))) (11 : Int32).toNatClampNeg (some (x + 94)))) := ((fr3 (x + 82) (ne_off (x := x) (i := 82) (j := 81) rfl) (ne_off (x := x) (i := 82) (j := 83) rfl)).trans h_12)
  have h_20 : Φ4 (x + 74) = some (o_ 10 [.ref (x + 3), .ref (x + 46), .ref (x + 75), .ref (x + 77), .int 0, .ref (x + 78), .ref (x + 79), .int 0, .long 0, .int 0]) := ((fr3 (x + 74) (ne_off (x := x) (i := 74) (j := 81) rfl) (ne_off (x := x) (i := 74) (j := 83) rfl)).trans ((fr2 (x + 74)).trans ((fr1 (x + 74) (ne_off (x := x) (i := 74) (j := 95) rfl) (ne_off (x := x) (i := 74) (j := 97) rfl)).trans ((fset_fr hΦ1 (ne_off (x := x) (i := 74) (j := 80) rfl)).trans hc74_))))
  refine z_lv [0, 1, 5, 4, 3, 2] rfl ?_
  exact loop (n - 1) 1 Φ4 (0 + ((nI n).toInt64)) 1 (0 + b.toInt64) (by omega) h_18 h_16 h_19 h_17 h_20  (fun b9 h9 => ((fr3 b9 (Nat.ne_of_gt (Nat.lt_of_lt_of_le (lt_off (x := x) (i := 81) (j := 149) rfl) h9)) (Nat.ne_of_gt (Nat.lt_of_lt_of_le (lt_off (x := x) (i := 83) (j := 149) rfl) h9))).trans ((fr2 b9).trans ((fr1 b9 (Nat.ne_of_gt (Nat.lt_of_lt_of_le (lt_off (x := x) (i := 95) (j := 149) rfl) h9)) (Nat.ne_of_gt (Nat.lt_of_lt_of_le (lt_off (x := x) (i := 97) (j := 149) rfl) h9))).trans ((fset_fr hΦ1 (Nat.ne_of_gt (Nat.lt_of_lt_of_le (lt_off (x := x) (i := 80) (j := 149) rfl) h9))).trans rfl)))))

set_option maxHeartbeats 4000000 in
set_option maxRecDepth 100000 in
theorem f_X11_observeMany (G : EnvG) (l : Launch) (Φ : Hm) (sz : Nat) (x : Nat) (a : Int32) (b : Int32) (c : Int32) (d : Int32) (f : Int32) (n : Nat) (hc0_ : Φ x = some (o_ 13 [.ref (x + 1), .ref (x + 3), .ref (x + 24), .ref (x + 46), .ref (x + 74), .ref (x + 80), .ref (x + 132), .ref (x + 121)])) (hc74_ : Φ (x + 74) = some (o_ 10 [.ref (x + 3), .ref (x + 46), .ref (x + 75), .ref (x + 77), .int 0, .ref (x + 78), .ref (x + 79), .int 0, .long 0, .int 0])) (hc80_ : Φ (x + 80) = some (o_ 4 [.ref (x + 3), .ref (x + 74), .ref (x + 81), .ref (x + 95), .int 0, .int 1, .int 1, .int 0, .int 0, .int 0, .long 0, .long 0, .long 0])) (hc81_ : Φ (x + 81) = some (o_ 6 [.ref (x + 82), .int 0])) (hc82_ : Φ (x + 82) = some (aq_ G 5 12 (va_up (va_up (va_up (va_up (va_up (va_up (va_up (va_up (va_up (va_up (va_up (va_up (fun _ => none) (0 : Int32).toNatClampNeg (some (x + 83))) (1 : Int32).toNatClampNeg (some (x + 84))) (2 : Int32).toNatClampNeg (some (x + 85))) (3 : Int32).toNatClampNeg (some (x + 86))) (4 : Int32).toNatClampNeg (some (x + 87))) (5 : Int32).toNatClampNeg (some (x + 88))) (6 : Int32).toNatClampNeg (some (x + 89))) (7 : Int32).toNatClampNeg (some (x + 90))) (8 : Int32).toNatClampNeg (some (x + 91))) (9 : Int32).toNatClampNeg (some (x + 92))) (10 : Int32).toNatClampNeg (some (x + 93))) (11 : Int32).toNatClampNeg (some (x + 94))))) (hc83_ : Φ (x + 83) = some (o_ 5 [.long 0, .long 0, .long 0, .int 0, .int 0])) (hc95_ : Φ (x + 95) = some (o_ 6 [.ref (x + 96), .int 0])) (hc96_ : Φ (x + 96) = some (aq_ G 5 24 (va_up (va_up (va_up (va_up (va_up (va_up (va_up (va_up (va_up (va_up (va_up (va_up (va_up (va_up (va_up (va_up (va_up (va_up (va_up (va_up (va_up (va_up (va_up (va_up (fun _ => none) (0 : Int32).toNatClampNeg (some (x + 97))) (1 : Int32).toNatClampNeg (some (x + 98))) (2 : Int32).toNatClampNeg (some (x + 99))) (3 : Int32).toNatClampNeg (some (x + 100))) (4 : Int32).toNatClampNeg (some (x + 101))) (5 : Int32).toNatClampNeg (some (x + 102))) (6 : Int32).toNatClampNeg (some (x + 103))) (7 : Int32).toNatClampNeg (some (x + 104))) (8 : Int32).toNatClampNeg (some (x + 105))) (9 : Int32).toNatClampNeg (some (x + 106))) (10 : Int32).toNatClampNeg (some (x + 107))) (11 : Int32).toNatClampNeg (some (x + 108))) (12 : Int32).toNatClampNeg (some (x + 109))) (13 : Int32).toNatClampNeg (some (x + 110))) (14 : Int32).toNatClampNeg (some (x + 111))) (15 : Int32).toNatClampNeg (some (x + 112))) (16 : Int32).toNatClampNeg (some (x + 113))) (17 : Int32).toNatClampNeg (some (x + 114))) (18 : Int32).toNatClampNeg (some (x + 115))) (19 : Int32).toNatClampNeg (some (x + 116))) (20 : Int32).toNatClampNeg (some (x + 117))) (21 : Int32).toNatClampNeg (some (x + 118))) (22 : Int32).toNatClampNeg (some (x + 119))) (23 : Int32).toNatClampNeg (some (x + 120))))) (hc97_ : Φ (x + 97) = some (o_ 5 [.long 0, .long 0, .long 0, .int 0, .int 0])) (hna : G.2.2.2 ≤ x) (hk : ¬ lg_cmp (kOf a b c d) (-1) = 0 ∧ ¬ f < 1 ∧ ¬ 65535 < f ∧ ¬ nI n < 1 ∧ nI n ≤ 200) (hn1 : 1 ≤ n) (hn2 : n ≤ 200) : Ct G l yX11_observeMany wsX11_observeMany ({ frames := 4, cells := 0, slots := 0, locals := 99 }) 0 0 [.ref x, .int a, .int b, .int c, .int d, .int f, .int (nI n)] Φ sz (fun v Φ1 sz1 => v = some (.int (nI n)) ∧ ∀ b9 : Nat, x + 149 ≤ b9 → Φ1 b9 = Φ b9) := by
  refine Ct.of (cc := cX11_observeMany) (maxL := 9) (ret := (some .int)) (by decide) rfl (Nat.le_of_ble_eq_true rfl) ?_
  intro p9 e9 s9 m9 w9 t9 k9 B
  show Z p9 l e9 _ s9 m9 _ w9 t9 k9 _ G 9 0 [(0, .ref x), (1, .int a), (2, .int b), (3, .int c), (4, .int d), (5, .int f), (6, .int (nI n))] [] Φ sz 0 0
  refine z_iload_n B dX11_observeMany_0 rfl 1 rfl ?_
  refine z_iload_n B dX11_observeMany_1 rfl 2 rfl ?_
  refine z_iload_n B dX11_observeMany_2 rfl 3 rfl ?_
  refine z_iload B dX11_observeMany_3 4 rfl ?_
  refine z_callS (As := [.int a, .int b, .int c, .int d]) (rest := []) B (c_X3_keyOf G l Φ sz a b c d ) (va_cwS 4 B.1.2.2.2.2 gX11_observeMany_X3_keyOf rfl rfl rfl (by decide +kernel) ⟨Nat.le_of_ble_eq_true rfl, Nat.le_of_ble_eq_true rfl⟩) rfl rfl (Nat.le_of_ble_eq_true rfl) dX11_observeMany_5 ⟨Nat.le_of_ble_eq_true rfl, Nat.le_of_ble_eq_true rfl⟩ (fun v1 Φ1 sz1 st1 hp1 hs1 => ?_)
  obtain ⟨rfl, hq1, fr1⟩ := hp1
  replace hq1 : sz1 = sz := hq1
  subst sz1
  replace hs1 : st1 = [.long (kOf a b c d)] := hs1
  subst st1
  refine z_lstore (lv' := [(7, .long (kOf a b c d)), (0, .ref x), (1, .int a), (2, .int b), (3, .int c), (4, .int d), (5, .int f), (6, .int (nI n))]) B dX11_observeMany_8 (Nat.le_of_ble_eq_true rfl) rfl ?_
  refine z_lload B dX11_observeMany_10 0 rfl ?_
  refine z_iload B dX11_observeMany_12 6 rfl ?_
  refine z_iload B dX11_observeMany_14 7 rfl ?_
  refine z_callS (As := [.long (kOf a b c d), .int f, .int (nI n)]) (rest := []) B (f_X11_requirePackets G l Φ1 sz x (kOf a b c d) f (nI n) hk) (va_cwS 3 B.1.2.2.2.2 gX11_observeMany_X11_requirePackets rfl rfl rfl (by decide +kernel) ⟨Nat.le_of_ble_eq_true rfl, Nat.le_of_ble_eq_true rfl⟩) rfl rfl (Nat.le_of_ble_eq_true rfl) dX11_observeMany_16 ⟨Nat.le_of_ble_eq_true rfl, Nat.le_of_ble_eq_true rfl⟩ (fun v2 Φ2 sz2 st2 hp2 hs2 => ?_)
  obtain ⟨rfl, hq2, fr2⟩ := hp2
  replace hq2 : sz2 = sz := hq2
  subst sz2
  replace hs2 : st2 = [] := hs2
  subst st2
  refine z_aload_n B dX11_observeMany_19 rfl 1 rfl ?_
  have h_1 : Φ2 x = some (o_ 13 [.ref (x + 1), .ref (x + 3), .ref (x + 24), .ref (x + 46), .ref (x + 74), .ref (x + 80), .ref (x + 132), .ref (x + 121)]) := ((fr2 x).trans ((fr1 x).trans hc0_))
  refine z_get (ref := "FlowExporter") (C := RX11) (T := TX11) (N := 8) (ci := 13) (v := .ref (x + 80)) B (by decide +kernel) rfl 5 (by decide) (by decide +kernel) rfl h_1 rfl dX11_observeMany_20 ?_
  refine z_lload B dX11_observeMany_23 0 rfl ?_
  refine z_iload B dX11_observeMany_25 6 rfl ?_
  refine z_iload B dX11_observeMany_27 7 rfl ?_
  have h_2 : Φ2 (x + 74) = some (o_ 10 [.ref (x + 3), .ref (x + 46), .ref (x + 75), .ref (x + 77), .int 0, .ref (x + 78), .ref (x + 79), .int 0, .long 0, .int 0]) := ((fr2 (x + 74)).trans ((fr1 (x + 74)).trans hc74_))
  have h_3 : Φ2 (x + 80) = some (o_ 4 [.ref (x + 3), .ref (x + 74), .ref (x + 81), .ref (x + 95), .int 0, .int 1, .int 1, .int 0, .int 0, .int 0, .long 0, .long 0, .long 0]) := ((fr2 (x + 80)).trans ((fr1 (x + 80)).trans hc80_))
  have h_4 : Φ2 (x + 81) = some (o_ 6 [.ref (x + 82), .int 0]) := ((fr2 (x + 81)).trans ((fr1 (x + 81)).trans hc81_))
  have h_5 : Φ2 (x + 82) = some (aq_ G 5 12 (va_up (va_up (va_up (va_up (va_up (va_up (va_up (va_up (va_up (va_up (va_up (va_up (fun _ => none) (0 : Int32).toNatClampNeg (some (x + 83))) (1 : Int32).toNatClampNeg (some (x + 84))) (2 : Int32).toNatClampNeg (some (x + 85))) (3 : Int32).toNatClampNeg (some (x + 86))) (4 : Int32).toNatClampNeg (some (x + 87))) (5 : Int32).toNatClampNeg (some (x + 88))) (6 : Int32).toNatClampNeg (some (x + 89))) (7 : Int32).toNatClampNeg (some (x + 90))) (8 : Int32).toNatClampNeg (some (x + 91))) (9 : Int32).toNatClampNeg (some (x + 92))) (10 : Int32).toNatClampNeg (some (x + 93))) (11 : Int32).toNatClampNeg (some (x + 94)))) := ((fr2 (x + 82)).trans ((fr1 (x + 82)).trans hc82_))
  have h_6 : Φ2 (x + 83) = some (o_ 5 [.long 0, .long 0, .long 0, .int 0, .int 0]) := ((fr2 (x + 83)).trans ((fr1 (x + 83)).trans hc83_))
  have h_7 : Φ2 (x + 95) = some (o_ 6 [.ref (x + 96), .int 0]) := ((fr2 (x + 95)).trans ((fr1 (x + 95)).trans hc95_))
  have h_8 : Φ2 (x + 96) = some (aq_ G 5 24 (va_up (va_up (va_up (va_up (va_up (va_up (va_up (va_up (va_up (va_up (va_up (va_up (va_up (va_up (va_up (va_up (va_up (va_up (va_up (va_up (va_up (va_up (va_up (va_up (fun _ => none) (0 : Int32).toNatClampNeg (some (x + 97))) (1 : Int32).toNatClampNeg (some (x + 98))) (2 : Int32).toNatClampNeg (some (x + 99))) (3 : Int32).toNatClampNeg (some (x + 100))) (4 : Int32).toNatClampNeg (some (x + 101))) (5 : Int32).toNatClampNeg (some (x + 102))) (6 : Int32).toNatClampNeg (some (x + 103))) (7 : Int32).toNatClampNeg (some (x + 104))) (8 : Int32).toNatClampNeg (some (x + 105))) (9 : Int32).toNatClampNeg (some (x + 106))) (10 : Int32).toNatClampNeg (some (x + 107))) (11 : Int32).toNatClampNeg (some (x + 108))) (12 : Int32).toNatClampNeg (some (x + 109))) (13 : Int32).toNatClampNeg (some (x + 110))) (14 : Int32).toNatClampNeg (some (x + 111))) (15 : Int32).toNatClampNeg (some (x + 112))) (16 : Int32).toNatClampNeg (some (x + 113))) (17 : Int32).toNatClampNeg (some (x + 114))) (18 : Int32).toNatClampNeg (some (x + 115))) (19 : Int32).toNatClampNeg (some (x + 116))) (20 : Int32).toNatClampNeg (some (x + 117))) (21 : Int32).toNatClampNeg (some (x + 118))) (22 : Int32).toNatClampNeg (some (x + 119))) (23 : Int32).toNatClampNeg (some (x + 120)))) := ((fr2 (x + 96)).trans ((fr1 (x + 96)).trans hc96_))
  have h_9 : Φ2 (x + 97) = some (o_ 5 [.long 0, .long 0, .long 0, .int 0, .int 0]) := ((fr2 (x + 97)).trans ((fr1 (x + 97)).trans hc97_))
  refine z_callV (As := [.long (kOf a b c d), .int f, .int (nI n)]) (rest := []) B (f_X2_takePackets_n G l Φ2 sz x (kOf a b c d) f n h_2 h_3 h_4 h_5 h_6 h_7 h_8 h_9 hna hn1 hn2) (cwV 3 B.1.2.2.2.2 gX11_observeMany_X2_takePackets rfl rfl rfl (by decide +kernel) ⟨Nat.le_of_ble_eq_true rfl, Nat.le_of_ble_eq_true rfl⟩) h_3 rfl rfl rfl rfl (Nat.le_of_ble_eq_true rfl) dX11_observeMany_29 ⟨Nat.le_of_ble_eq_true rfl, Nat.le_of_ble_eq_true rfl⟩ (fun v3 Φ3 sz3 st3 hp3 hs3 => ?_)
  obtain ⟨rfl, fr3⟩ := hp3
  replace hs3 : st3 = [.int (nI n)] := hs3
  subst st3
  exact z_ret_i B dX11_observeMany_32 ⟨rfl, fun b9 h9 => ((fr3 b9 h9).trans ((fr2 b9).trans ((fr1 b9).trans rfl)))⟩

set_option maxHeartbeats 4000000 in
set_option maxRecDepth 100000 in
theorem f_X1_get_1 (G : EnvG) (l : Launch) (Φ : Hm) (sz : Nat) (x : Nat) (hc3_ : Φ (x + 3) = some (o_ 3 [.ref (x + 4), .ref (x + 5), .ref (x + 6), .ref (x + 7), .int 1, .int 511])) (hc4_ : Φ (x + 4) = some (ai_ G 9 usT)) : Ct G l yX1_get wsX1_get ({ frames := 0, cells := 0, slots := 0, locals := 0 }) 0 0 [.ref (x + 3), .int 1] Φ sz (fun v Φ1 sz1 => v = some (.int 100) ∧ sz1 = sz ∧ (∀ b9 : Nat, Φ1 b9 = Φ b9)) := by
  refine Ct.of (cc := cX1_get) (maxL := 2) (ret := (some .int)) (by decide) rfl (Nat.le_of_ble_eq_true rfl) ?_
  intro p9 e9 s9 m9 w9 t9 k9 B
  show Z p9 l e9 _ s9 m9 _ w9 t9 k9 _ G 2 0 [(0, .ref (x + 3)), (1, .int 1)] [] Φ sz 0 0
  refine z_iload_n B dX1_get_0 rfl 1 rfl ?_
  refine z_if_lt (tgt := 19) B dX1_get_1 rfl (fun h9 => absurd h9 (by decide)) (fun c_1 => ?_)
  refine z_iload_n B dX1_get_4 rfl 1 rfl ?_
  refine z_bipush (v := 9) B dX1_get_5 rfl ?_
  refine z_icmp_ge (tgt := 19) B dX1_get_7 rfl (fun h9 => absurd h9 (by decide)) (fun c_2 => ?_)
  refine z_aload_n B dX1_get_10 rfl 0 rfl ?_
  refine z_get (ref := "FlowExporter$Config") (C := RX1) (T := TX1) (N := 6) (ci := 3) (v := .ref (x + 4)) B (by decide +kernel) rfl 0 (by decide) (by decide +kernel) rfl hc3_ rfl dX1_get_11 ?_
  refine z_iload_n B dX1_get_14 rfl 1 rfl ?_
  refine z_iald B hc4_ (vin rfl) dX1_get_15 ?_
  refine z_top (st1 := [.int 100]) (by rfl) ?_
  refine z_goto (tgt := 20) B dX1_get_16 rfl ?_
  exact z_ret_i B dX1_get_20 ⟨rfl, rfl, (fun b9 => rfl)⟩

set_option maxHeartbeats 4000000 in
set_option maxRecDepth 100000 in
theorem f_X1_get_2 (G : EnvG) (l : Launch) (Φ : Hm) (sz : Nat) (x : Nat) (hc3_ : Φ (x + 3) = some (o_ 3 [.ref (x + 4), .ref (x + 5), .ref (x + 6), .ref (x + 7), .int 1, .int 511])) (hc4_ : Φ (x + 4) = some (ai_ G 9 usT)) : Ct G l yX1_get wsX1_get ({ frames := 0, cells := 0, slots := 0, locals := 0 }) 0 0 [.ref (x + 3), .int 2] Φ sz (fun v Φ1 sz1 => v = some (.int 1000) ∧ sz1 = sz ∧ (∀ b9 : Nat, Φ1 b9 = Φ b9)) := by
  refine Ct.of (cc := cX1_get) (maxL := 2) (ret := (some .int)) (by decide) rfl (Nat.le_of_ble_eq_true rfl) ?_
  intro p9 e9 s9 m9 w9 t9 k9 B
  show Z p9 l e9 _ s9 m9 _ w9 t9 k9 _ G 2 0 [(0, .ref (x + 3)), (1, .int 2)] [] Φ sz 0 0
  refine z_iload_n B dX1_get_0 rfl 1 rfl ?_
  refine z_if_lt (tgt := 19) B dX1_get_1 rfl (fun h9 => absurd h9 (by decide)) (fun c_1 => ?_)
  refine z_iload_n B dX1_get_4 rfl 1 rfl ?_
  refine z_bipush (v := 9) B dX1_get_5 rfl ?_
  refine z_icmp_ge (tgt := 19) B dX1_get_7 rfl (fun h9 => absurd h9 (by decide)) (fun c_2 => ?_)
  refine z_aload_n B dX1_get_10 rfl 0 rfl ?_
  refine z_get (ref := "FlowExporter$Config") (C := RX1) (T := TX1) (N := 6) (ci := 3) (v := .ref (x + 4)) B (by decide +kernel) rfl 0 (by decide) (by decide +kernel) rfl hc3_ rfl dX1_get_11 ?_
  refine z_iload_n B dX1_get_14 rfl 1 rfl ?_
  refine z_iald B hc4_ (vin rfl) dX1_get_15 ?_
  refine z_top (st1 := [.int 1000]) (by rfl) ?_
  refine z_goto (tgt := 20) B dX1_get_16 rfl ?_
  exact z_ret_i B dX1_get_20 ⟨rfl, rfl, (fun b9 => rfl)⟩

set_option maxHeartbeats 4000000 in
set_option maxRecDepth 100000 in
theorem f_X1_get_3 (G : EnvG) (l : Launch) (Φ : Hm) (sz : Nat) (x : Nat) (hc3_ : Φ (x + 3) = some (o_ 3 [.ref (x + 4), .ref (x + 5), .ref (x + 6), .ref (x + 7), .int 1, .int 511])) (hc4_ : Φ (x + 4) = some (ai_ G 9 usT)) : Ct G l yX1_get wsX1_get ({ frames := 0, cells := 0, slots := 0, locals := 0 }) 0 0 [.ref (x + 3), .int 3] Φ sz (fun v Φ1 sz1 => v = some (.int 100) ∧ sz1 = sz ∧ (∀ b9 : Nat, Φ1 b9 = Φ b9)) := by
  refine Ct.of (cc := cX1_get) (maxL := 2) (ret := (some .int)) (by decide) rfl (Nat.le_of_ble_eq_true rfl) ?_
  intro p9 e9 s9 m9 w9 t9 k9 B
  show Z p9 l e9 _ s9 m9 _ w9 t9 k9 _ G 2 0 [(0, .ref (x + 3)), (1, .int 3)] [] Φ sz 0 0
  refine z_iload_n B dX1_get_0 rfl 1 rfl ?_
  refine z_if_lt (tgt := 19) B dX1_get_1 rfl (fun h9 => absurd h9 (by decide)) (fun c_1 => ?_)
  refine z_iload_n B dX1_get_4 rfl 1 rfl ?_
  refine z_bipush (v := 9) B dX1_get_5 rfl ?_
  refine z_icmp_ge (tgt := 19) B dX1_get_7 rfl (fun h9 => absurd h9 (by decide)) (fun c_2 => ?_)
  refine z_aload_n B dX1_get_10 rfl 0 rfl ?_
  refine z_get (ref := "FlowExporter$Config") (C := RX1) (T := TX1) (N := 6) (ci := 3) (v := .ref (x + 4)) B (by decide +kernel) rfl 0 (by decide) (by decide +kernel) rfl hc3_ rfl dX1_get_11 ?_
  refine z_iload_n B dX1_get_14 rfl 1 rfl ?_
  refine z_iald B hc4_ (vin rfl) dX1_get_15 ?_
  refine z_top (st1 := [.int 100]) (by rfl) ?_
  refine z_goto (tgt := 20) B dX1_get_16 rfl ?_
  exact z_ret_i B dX1_get_20 ⟨rfl, rfl, (fun b9 => rfl)⟩

set_option maxHeartbeats 4000000 in
set_option maxRecDepth 100000 in
theorem f_X2_exportOld_t (G : EnvG) (l : Launch) (Φ : Hm) (sz : Nat) (x : Nat) (tm : Int32) (hc3_ : Φ (x + 3) = some (o_ 3 [.ref (x + 4), .ref (x + 5), .ref (x + 6), .ref (x + 7), .int 1, .int 511])) (hc4_ : Φ (x + 4) = some (ai_ G 9 usT)) (hc80_ : Φ (x + 80) = some (o_ 4 [.ref (x + 3), .ref (x + 74), .ref (x + 81), .ref (x + 95), .int tm, .int 1, .int 1, .int 0, .int 0, .int 0, .long 0, .long 0, .long 0])) (hc81_ : Φ (x + 81) = some (o_ 6 [.ref (x + 82), .int 0])) : Ct G l yX2_exportOld wsX2_exportOld ({ frames := 1, cells := 0, slots := 0, locals := 21 }) 0 0 [.ref (x + 80)] Φ sz (fun v Φ1 sz1 => v = none ∧ sz1 = sz ∧ (∀ b9 : Nat, Φ1 b9 = Φ b9)) := by
  refine Ct.of (cc := cX2_exportOld) (maxL := 6) (ret := none) (by decide) rfl (Nat.le_of_ble_eq_true rfl) ?_
  intro p9 e9 s9 m9 w9 t9 k9 B
  show Z p9 l e9 _ s9 m9 _ w9 t9 k9 _ G 6 0 [(0, .ref (x + 80))] [] Φ sz 0 0
  refine z_aload_n B dX2_exportOld_0 rfl 0 rfl ?_
  refine z_get (ref := "FlowExporter$Exporter") (C := RX2) (T := TX2) (N := 13) (ci := 4) (v := .ref (x + 3)) B (by decide +kernel) rfl 0 (by decide) (by decide +kernel) rfl hc80_ rfl dX2_exportOld_1 ?_
  refine z_iconst (v := 2) B dX2_exportOld_4 rfl ?_
  refine z_callV (As := [.int 2]) (rest := []) B (f_X1_get_2 G l Φ sz x hc3_ hc4_) (cwV 1 B.1.2.2.2.2 gX2_exportOld_X1_get rfl rfl rfl (by decide +kernel) ⟨Nat.le_of_ble_eq_true rfl, Nat.le_of_ble_eq_true rfl⟩) hc3_ rfl rfl rfl rfl (Nat.le_of_ble_eq_true rfl) dX2_exportOld_5 ⟨Nat.le_of_ble_eq_true rfl, Nat.le_of_ble_eq_true rfl⟩ (fun v1 Φ1 sz1 st1 hp1 hs1 => ?_)
  obtain ⟨rfl, hq1, fr1⟩ := hp1
  replace hq1 : sz1 = sz := hq1
  subst sz1
  replace hs1 : st1 = [.int 1000] := hs1
  subst st1
  refine z_istore_n (lv' := [(1, .int 1000), (0, .ref (x + 80))]) B dX2_exportOld_8 rfl (Nat.le_of_ble_eq_true rfl) rfl ?_
  refine z_aload_n B dX2_exportOld_9 rfl 1 rfl ?_
  have h_1 : Φ1 (x + 80) = some (o_ 4 [.ref (x + 3), .ref (x + 74), .ref (x + 81), .ref (x + 95), .int tm, .int 1, .int 1, .int 0, .int 0, .int 0, .long 0, .long 0, .long 0]) := ((fr1 (x + 80)).trans hc80_)
  refine z_get (ref := "FlowExporter$Exporter") (C := RX2) (T := TX2) (N := 13) (ci := 4) (v := .ref (x + 3)) B (by decide +kernel) rfl 0 (by decide) (by decide +kernel) rfl h_1 rfl dX2_exportOld_10 ?_
  refine z_iconst (v := 3) B dX2_exportOld_13 rfl ?_
  have h_2 : Φ1 (x + 3) = some (o_ 3 [.ref (x + 4), .ref (x + 5), .ref (x + 6), .ref (x + 7), .int 1, .int 511]) := ((fr1 (x + 3)).trans hc3_)
  have h_3 : Φ1 (x + 4) = some (ai_ G 9 usT) := ((fr1 (x + 4)).trans hc4_)
  refine z_callV (As := [.int 3]) (rest := []) B (f_X1_get_3 G l Φ1 sz x h_2 h_3) (cwV 1 B.1.2.2.2.2 gX2_exportOld_X1_get rfl rfl rfl (by decide +kernel) ⟨Nat.le_of_ble_eq_true rfl, Nat.le_of_ble_eq_true rfl⟩) h_2 rfl rfl rfl rfl (Nat.le_of_ble_eq_true rfl) dX2_exportOld_14 ⟨Nat.le_of_ble_eq_true rfl, Nat.le_of_ble_eq_true rfl⟩ (fun v2 Φ2 sz2 st2 hp2 hs2 => ?_)
  obtain ⟨rfl, hq2, fr2⟩ := hp2
  replace hq2 : sz2 = sz := hq2
  subst sz2
  replace hs2 : st2 = [.int 100] := hs2
  subst st2
  refine z_istore_n (lv' := [(2, .int 100), (1, .int 1000), (0, .ref (x + 80))]) B dX2_exportOld_17 rfl (Nat.le_of_ble_eq_true rfl) rfl ?_
  refine z_iconst (v := 0) B dX2_exportOld_18 rfl ?_
  refine z_istore_n (lv' := [(3, .int 0), (2, .int 100), (1, .int 1000), (0, .ref (x + 80))]) B dX2_exportOld_19 rfl (Nat.le_of_ble_eq_true rfl) rfl ?_
  refine z_aload_n B dX2_exportOld_20 rfl 3 rfl ?_
  have h_4 : Φ2 (x + 80) = some (o_ 4 [.ref (x + 3), .ref (x + 74), .ref (x + 81), .ref (x + 95), .int tm, .int 1, .int 1, .int 0, .int 0, .int 0, .long 0, .long 0, .long 0]) := ((fr2 (x + 80)).trans h_1)
  refine z_get (ref := "FlowExporter$Exporter") (C := RX2) (T := TX2) (N := 13) (ci := 4) (v := .ref (x + 81)) B (by decide +kernel) rfl 2 (by decide) (by decide +kernel) rfl h_4 rfl dX2_exportOld_21 ?_
  have h_5 : Φ2 (x + 81) = some (o_ 6 [.ref (x + 82), .int 0]) := ((fr2 (x + 81)).trans ((fr1 (x + 81)).trans hc81_))
  refine z_get (ref := "FlowExporter$FlowTable") (C := RX4) (T := TX4) (N := 2) (ci := 6) (v := .int 0) B (by decide +kernel) rfl 1 (by decide) (by decide +kernel) rfl h_5 rfl dX2_exportOld_24 ?_
  refine z_istore (lv' := [(4, .int 0), (3, .int 0), (2, .int 100), (1, .int 1000), (0, .ref (x + 80))]) B dX2_exportOld_27 (Nat.le_of_ble_eq_true rfl) rfl ?_
  refine z_iload B dX2_exportOld_29 0 rfl ?_
  refine z_if_le (tgt := 89) B dX2_exportOld_31 rfl (fun c_1 => ?_) (fun h9 => absurd (by decide) h9)
  exact z_ret_v B dX2_exportOld_89 ⟨rfl, rfl, (fun b9 => ((fr2 b9).trans ((fr1 b9).trans rfl)))⟩

set_option maxHeartbeats 4000000 in
set_option maxRecDepth 100000 in
theorem f_X2_endInterval_t (G : EnvG) (l : Launch) (Φ : Hm) (sz : Nat) (x : Nat) (tm : Int32) (hc3_ : Φ (x + 3) = some (o_ 3 [.ref (x + 4), .ref (x + 5), .ref (x + 6), .ref (x + 7), .int 1, .int 511])) (hc4_ : Φ (x + 4) = some (ai_ G 9 usT)) (hc80_ : Φ (x + 80) = some (o_ 4 [.ref (x + 3), .ref (x + 74), .ref (x + 81), .ref (x + 95), .int tm, .int 1, .int 1, .int 0, .int 0, .int 0, .long 0, .long 0, .long 0])) (hna : G.2.2.2 ≤ x) : Ct G l yX2_endInterval wsX2_endInterval ({ frames := 1, cells := 0, slots := 0, locals := 21 }) 0 0 [.ref (x + 80)] Φ sz (fun v Φ1 sz1 => v = some (.int 1) ∧ sz1 = sz ∧ (∀ b9 : Nat, b9 ≠ x + 80 → Φ1 b9 = Φ b9) ∧ Φ1 (x + 80) = some (o_ 4 [.ref (x + 3), .ref (x + 74), .ref (x + 81), .ref (x + 95), .int tm, .int 1, .int 1, .int 0, .int 0, .int 0, .long 0, .long 0, .long 0])) := by
  refine Ct.of (cc := cX2_endInterval) (maxL := 3) (ret := (some .int)) (by decide) rfl (Nat.le_of_ble_eq_true rfl) ?_
  intro p9 e9 s9 m9 w9 t9 k9 B
  show Z p9 l e9 _ s9 m9 _ w9 t9 k9 _ G 3 0 [(0, .ref (x + 80))] [] Φ sz 0 0
  refine z_aload_n B dX2_endInterval_0 rfl 0 rfl ?_
  refine z_get (ref := "FlowExporter$Exporter") (C := RX2) (T := TX2) (N := 13) (ci := 4) (v := .int 0) B (by decide +kernel) rfl 8 (by decide) (by decide +kernel) rfl hc80_ rfl dX2_endInterval_1 ?_
  refine z_aload_n B dX2_endInterval_4 rfl 0 rfl ?_
  refine z_get (ref := "FlowExporter$Exporter") (C := RX2) (T := TX2) (N := 13) (ci := 4) (v := .int 0) B (by decide +kernel) rfl 9 (by decide) (by decide +kernel) rfl hc80_ rfl dX2_endInterval_5 ?_
  refine z_isub B dX2_endInterval_8 ?_
  refine z_top (st1 := [.int 0]) (congrArg (fun w9 : Int32 => ([.int w9] : List Value)) (show (0 - 0 : Int32) = 0 by decide +kernel)) ?_
  refine z_istore_n (lv' := [(1, .int 0), (0, .ref (x + 80))]) B dX2_endInterval_9 rfl (Nat.le_of_ble_eq_true rfl) rfl ?_
  refine z_aload_n B dX2_endInterval_10 rfl 1 rfl ?_
  refine z_aload_n B dX2_endInterval_11 rfl 1 rfl ?_
  refine z_get (ref := "FlowExporter$Exporter") (C := RX2) (T := TX2) (N := 13) (ci := 4) (v := .int 0) B (by decide +kernel) rfl 8 (by decide) (by decide +kernel) rfl hc80_ rfl dX2_endInterval_12 ?_
  refine z_put (ref := "FlowExporter$Exporter") (C := RX2) (T := TX2) (N := 13) (ci := 4) (v := .int 0) B (by decide +kernel) tyX2 tyX2_ok nmX2 rfl 9 (by decide) (by decide +kernel) rfl (Or.inl rfl) hc80_ (Nat.le_trans hna (Nat.le_add_right x 80)) rfl rfl (Nat.le_of_ble_eq_true rfl) dX2_endInterval_15 (fun Φ1 hΦ1 => ?_)
  have h_1 : Φ1 (x + 80) = some (o_ 4 [.ref (x + 3), .ref (x + 74), .ref (x + 81), .ref (x + 95), .int tm, .int 1, .int 1, .int 0, .int 0, .int 0, .long 0, .long 0, .long 0]) := fset_at hΦ1
  refine z_aload_n B dX2_endInterval_18 rfl 1 rfl ?_
  refine z_get (ref := "FlowExporter$Exporter") (C := RX2) (T := TX2) (N := 13) (ci := 4) (v := .ref (x + 3)) B (by decide +kernel) rfl 0 (by decide) (by decide +kernel) rfl h_1 rfl dX2_endInterval_19 ?_
  refine z_iconst (v := 1) B dX2_endInterval_22 rfl ?_
  have h_2 : Φ1 (x + 3) = some (o_ 3 [.ref (x + 4), .ref (x + 5), .ref (x + 6), .ref (x + 7), .int 1, .int 511]) := ((fset_fr hΦ1 (ne_off (x := x) (i := 3) (j := 80) rfl)).trans hc3_)
  have h_3 : Φ1 (x + 4) = some (ai_ G 9 usT) := ((fset_fr hΦ1 (ne_off (x := x) (i := 4) (j := 80) rfl)).trans hc4_)
  refine z_callV (As := [.int 1]) (rest := []) B (f_X1_get_1 G l Φ1 sz x h_2 h_3) (cwV 1 B.1.2.2.2.2 gX2_endInterval_X1_get rfl rfl rfl (by decide +kernel) ⟨Nat.le_of_ble_eq_true rfl, Nat.le_of_ble_eq_true rfl⟩) h_2 rfl rfl rfl rfl (Nat.le_of_ble_eq_true rfl) dX2_endInterval_23 ⟨Nat.le_of_ble_eq_true rfl, Nat.le_of_ble_eq_true rfl⟩ (fun v1 Φ2 sz1 st1 hp1 hs1 => ?_)
  obtain ⟨rfl, hq1, fr1⟩ := hp1
  replace hq1 : sz1 = sz := hq1
  subst sz1
  replace hs1 : st1 = [.int 100] := hs1
  subst st1
  refine z_istore_n (lv' := [(2, .int 100), (1, .int 0), (0, .ref (x + 80))]) B dX2_endInterval_26 rfl (Nat.le_of_ble_eq_true rfl) rfl ?_
  refine z_aload_n B dX2_endInterval_27 rfl 2 rfl ?_
  have h_4 : Φ2 (x + 80) = some (o_ 4 [.ref (x + 3), .ref (x + 74), .ref (x + 81), .ref (x + 95), .int tm, .int 1, .int 1, .int 0, .int 0, .int 0, .long 0, .long 0, .long 0]) := ((fr1 (x + 80)).trans h_1)
  refine z_get (ref := "FlowExporter$Exporter") (C := RX2) (T := TX2) (N := 13) (ci := 4) (v := .int 0) B (by decide +kernel) rfl 7 (by decide) (by decide +kernel) rfl h_4 rfl dX2_endInterval_28 ?_
  refine z_if_eq (tgt := 56) B dX2_endInterval_31 rfl (fun c_1 => ?_) (fun h9 => absurd (by decide) h9)
  refine z_aload_n B dX2_endInterval_56 rfl 2 rfl ?_
  refine z_get (ref := "FlowExporter$Exporter") (C := RX2) (T := TX2) (N := 13) (ci := 4) (v := .int 0) B (by decide +kernel) rfl 7 (by decide) (by decide +kernel) rfl h_4 rfl dX2_endInterval_57 ?_
  refine z_if_eq (tgt := 85) B dX2_endInterval_60 rfl (fun c_2 => ?_) (fun h9 => absurd (by decide) h9)
  refine z_aload_n B dX2_endInterval_85 rfl 2 rfl ?_
  refine z_get (ref := "FlowExporter$Exporter") (C := RX2) (T := TX2) (N := 13) (ci := 4) (v := .int 1) B (by decide +kernel) rfl 5 (by decide) (by decide +kernel) rfl h_4 rfl dX2_endInterval_86 ?_
  exact z_ret_i B dX2_endInterval_89 ⟨rfl, rfl, (fun b9 h9a => ((fr1 b9).trans ((fset_fr hΦ1 h9a).trans rfl))), h_4⟩

set_option maxHeartbeats 4000000 in
set_option maxRecDepth 100000 in
theorem f_X8_sendPending_t (G : EnvG) (l : Launch) (Φ : Hm) (sz : Nat) (x : Nat) (t : Int32) (hc74_ : Φ (x + 74) = some (o_ 10 [.ref (x + 3), .ref (x + 46), .ref (x + 75), .ref (x + 77), .int 0, .ref (x + 78), .ref (x + 79), .int 0, .long 0, .int 0])) : Ct G l yX8_sendPending wsX8_sendPending ({ frames := 0, cells := 0, slots := 0, locals := 0 }) 0 0 [.ref (x + 74), .int t] Φ sz (fun v Φ1 sz1 => v = none ∧ sz1 = sz ∧ (∀ b9 : Nat, Φ1 b9 = Φ b9)) := by
  refine Ct.of (cc := cX8_sendPending) (maxL := 11) (ret := none) (by decide) rfl (Nat.le_of_ble_eq_true rfl) ?_
  intro p9 e9 s9 m9 w9 t9 k9 B
  show Z p9 l e9 _ s9 m9 _ w9 t9 k9 _ G 11 0 [(0, .ref (x + 74)), (1, .int t)] [] Φ sz 0 0
  refine z_aload_n B dX8_sendPending_0 rfl 0 rfl ?_
  refine z_get (ref := "FlowExporter$Sender") (C := RX8) (T := TX8) (N := 10) (ci := 10) (v := .int 0) B (by decide +kernel) rfl 4 (by decide) (by decide +kernel) rfl hc74_ rfl dX8_sendPending_1 ?_
  refine z_if_ne (tgt := 8) B dX8_sendPending_4 rfl (fun h9 => absurd (by decide) h9) (fun c_1 => ?_)
  exact z_ret_v B dX8_sendPending_7 ⟨rfl, rfl, (fun b9 => rfl)⟩

set_option maxHeartbeats 4000000 in
set_option maxRecDepth 100000 in
theorem f_X2_tick (G : EnvG) (l : Launch) (Φ : Hm) (sz : Nat) (x : Nat) (tm : Int32) (hc3_ : Φ (x + 3) = some (o_ 3 [.ref (x + 4), .ref (x + 5), .ref (x + 6), .ref (x + 7), .int 1, .int 511])) (hc4_ : Φ (x + 4) = some (ai_ G 9 usT)) (hc74_ : Φ (x + 74) = some (o_ 10 [.ref (x + 3), .ref (x + 46), .ref (x + 75), .ref (x + 77), .int 0, .ref (x + 78), .ref (x + 79), .int 0, .long 0, .int 0])) (hc80_ : Φ (x + 80) = some (o_ 4 [.ref (x + 3), .ref (x + 74), .ref (x + 81), .ref (x + 95), .int tm, .int 1, .int 1, .int 0, .int 0, .int 0, .long 0, .long 0, .long 0])) (hc81_ : Φ (x + 81) = some (o_ 6 [.ref (x + 82), .int 0])) (hna : G.2.2.2 ≤ x) : Ct G l yX2_tick wsX2_tick ({ frames := 2, cells := 0, slots := 0, locals := 46 }) 0 0 [.ref (x + 80)] Φ sz (fun v Φ1 sz1 => v = none ∧ sz1 = sz ∧ (∀ b9 : Nat, b9 ≠ x + 80 → Φ1 b9 = Φ b9) ∧ Φ1 (x + 80) = some (o_ 4 [.ref (x + 3), .ref (x + 74), .ref (x + 81), .ref (x + 95), .int (tm + 1), .int 1, .int 1, .int 0, .int 0, .int 0, .long 0, .long 0, .long 0])) := by
  refine Ct.of (cc := cX2_tick) (maxL := 2) (ret := none) (by decide) rfl (Nat.le_of_ble_eq_true rfl) ?_
  intro p9 e9 s9 m9 w9 t9 k9 B
  show Z p9 l e9 _ s9 m9 _ w9 t9 k9 _ G 2 0 [(0, .ref (x + 80))] [] Φ sz 0 0
  refine z_aload_n B dX2_tick_0 rfl 0 rfl ?_
  refine z_dup B dX2_tick_1 rfl ?_
  refine z_get (ref := "FlowExporter$Exporter") (C := RX2) (T := TX2) (N := 13) (ci := 4) (v := .int tm) B (by decide +kernel) rfl 4 (by decide) (by decide +kernel) rfl hc80_ rfl dX2_tick_2 ?_
  refine z_iconst (v := 1) B dX2_tick_5 rfl ?_
  refine z_iadd B dX2_tick_6 ?_
  refine z_put (ref := "FlowExporter$Exporter") (C := RX2) (T := TX2) (N := 13) (ci := 4) (v := .int (tm + 1)) B (by decide +kernel) tyX2 tyX2_ok nmX2 rfl 4 (by decide) (by decide +kernel) rfl (Or.inl rfl) hc80_ (Nat.le_trans hna (Nat.le_add_right x 80)) rfl rfl (Nat.le_of_ble_eq_true rfl) dX2_tick_7 (fun Φ1 hΦ1 => ?_)
  have h_1 : Φ1 (x + 80) = some (o_ 4 [.ref (x + 3), .ref (x + 74), .ref (x + 81), .ref (x + 95), .int (tm + 1), .int 1, .int 1, .int 0, .int 0, .int 0, .long 0, .long 0, .long 0]) := fset_at hΦ1
  refine z_aload_n B dX2_tick_10 rfl 0 rfl ?_
  have h_2 : Φ1 (x + 3) = some (o_ 3 [.ref (x + 4), .ref (x + 5), .ref (x + 6), .ref (x + 7), .int 1, .int 511]) := ((fset_fr hΦ1 (ne_off (x := x) (i := 3) (j := 80) rfl)).trans hc3_)
  have h_3 : Φ1 (x + 4) = some (ai_ G 9 usT) := ((fset_fr hΦ1 (ne_off (x := x) (i := 4) (j := 80) rfl)).trans hc4_)
  have h_4 : Φ1 (x + 81) = some (o_ 6 [.ref (x + 82), .int 0]) := ((fset_fr hΦ1 (ne_off (x := x) (i := 81) (j := 80) rfl)).trans hc81_)
  refine z_callV (As := []) (rest := []) B (f_X2_exportOld_t G l Φ1 sz x (tm + 1) h_2 h_3 h_1 h_4) (cwV 0 B.1.2.2.2.2 gX2_tick_X2_exportOld rfl rfl rfl (by decide +kernel) ⟨Nat.le_of_ble_eq_true rfl, Nat.le_of_ble_eq_true rfl⟩) h_1 rfl rfl rfl rfl (Nat.le_of_ble_eq_true rfl) dX2_tick_11 ⟨Nat.le_of_ble_eq_true rfl, Nat.le_of_ble_eq_true rfl⟩ (fun v1 Φ2 sz1 st1 hp1 hs1 => ?_)
  obtain ⟨rfl, hq1, fr1⟩ := hp1
  replace hq1 : sz1 = sz := hq1
  subst sz1
  replace hs1 : st1 = [] := hs1
  subst st1
  refine z_aload_n B dX2_tick_14 rfl 0 rfl ?_
  have h_5 : Φ2 (x + 80) = some (o_ 4 [.ref (x + 3), .ref (x + 74), .ref (x + 81), .ref (x + 95), .int (tm + 1), .int 1, .int 1, .int 0, .int 0, .int 0, .long 0, .long 0, .long 0]) := ((fr1 (x + 80)).trans h_1)
  refine z_get (ref := "FlowExporter$Exporter") (C := RX2) (T := TX2) (N := 13) (ci := 4) (v := .int (tm + 1)) B (by decide +kernel) rfl 4 (by decide) (by decide +kernel) rfl h_5 rfl dX2_tick_15 ?_
  refine z_bipush (v := 100) B dX2_tick_18 rfl ?_
  refine z_irem B dX2_tick_20 (by decide) ?_
  refine z_if_ne (tgt := 31) B dX2_tick_21 rfl (fun c_1 => ?_) (fun c_1 => ?_)
  · refine z_aload_n B dX2_tick_31 rfl 0 rfl ?_
    refine z_get (ref := "FlowExporter$Exporter") (C := RX2) (T := TX2) (N := 13) (ci := 4) (v := .int 1) B (by decide +kernel) rfl 5 (by decide) (by decide +kernel) rfl h_5 rfl dX2_tick_32 ?_
    refine z_istore_n (lv' := [(1, .int 1), (0, .ref (x + 80))]) B dX2_tick_35 rfl (Nat.le_of_ble_eq_true rfl) rfl ?_
    refine z_iload_n B dX2_tick_36 rfl 0 rfl ?_
    refine z_aload_n B dX2_tick_37 rfl 1 rfl ?_
    refine z_get (ref := "FlowExporter$Exporter") (C := RX2) (T := TX2) (N := 13) (ci := 4) (v := .int 1) B (by decide +kernel) rfl 5 (by decide) (by decide +kernel) rfl h_5 rfl dX2_tick_38 ?_
    refine z_icmp_eq (tgt := 53) B dX2_tick_41 rfl (fun c_2 => ?_) (fun h9 => absurd (by decide) h9)
    refine z_aload_n B dX2_tick_53 rfl 1 rfl ?_
    refine z_get (ref := "FlowExporter$Exporter") (C := RX2) (T := TX2) (N := 13) (ci := 4) (v := .ref (x + 74)) B (by decide +kernel) rfl 1 (by decide) (by decide +kernel) rfl h_5 rfl dX2_tick_54 ?_
    refine z_aload_n B dX2_tick_57 rfl 1 rfl ?_
    refine z_get (ref := "FlowExporter$Exporter") (C := RX2) (T := TX2) (N := 13) (ci := 4) (v := .int (tm + 1)) B (by decide +kernel) rfl 4 (by decide) (by decide +kernel) rfl h_5 rfl dX2_tick_58 ?_
    have h_6 : Φ2 (x + 74) = some (o_ 10 [.ref (x + 3), .ref (x + 46), .ref (x + 75), .ref (x + 77), .int 0, .ref (x + 78), .ref (x + 79), .int 0, .long 0, .int 0]) := ((fr1 (x + 74)).trans ((fset_fr hΦ1 (ne_off (x := x) (i := 74) (j := 80) rfl)).trans hc74_))
    refine z_callV (As := [.int (tm + 1)]) (rest := []) B (f_X8_sendPending_t G l Φ2 sz x (tm + 1) h_6) (cwV 1 B.1.2.2.2.2 gX2_tick_X8_sendPending rfl rfl rfl (by decide +kernel) ⟨Nat.le_of_ble_eq_true rfl, Nat.le_of_ble_eq_true rfl⟩) h_6 rfl rfl rfl rfl (Nat.le_of_ble_eq_true rfl) dX2_tick_61 ⟨Nat.le_of_ble_eq_true rfl, Nat.le_of_ble_eq_true rfl⟩ (fun v2 Φ3 sz2 st2 hp2 hs2 => ?_)
    obtain ⟨rfl, hq2, fr2⟩ := hp2
    replace hq2 : sz2 = sz := hq2
    subst sz2
    replace hs2 : st2 = [] := hs2
    subst st2
    have h_7 : Φ3 (x + 80) = some (o_ 4 [.ref (x + 3), .ref (x + 74), .ref (x + 81), .ref (x + 95), .int (tm + 1), .int 1, .int 1, .int 0, .int 0, .int 0, .long 0, .long 0, .long 0]) := ((fr2 (x + 80)).trans h_5)
    exact z_ret_v B dX2_tick_64 ⟨rfl, rfl, (fun b9 h9a => ((fr2 b9).trans ((fr1 b9).trans ((fset_fr hΦ1 h9a).trans rfl)))), h_7⟩
  · refine z_aload_n B dX2_tick_24 rfl 0 rfl ?_
    have h_8 : Φ2 (x + 3) = some (o_ 3 [.ref (x + 4), .ref (x + 5), .ref (x + 6), .ref (x + 7), .int 1, .int 511]) := ((fr1 (x + 3)).trans h_2)
    have h_9 : Φ2 (x + 4) = some (ai_ G 9 usT) := ((fr1 (x + 4)).trans h_3)
    refine z_callV (As := []) (rest := []) B (f_X2_endInterval_t G l Φ2 sz x (tm + 1) h_8 h_9 h_5 hna) (cwV 0 B.1.2.2.2.2 gX2_tick_X2_endInterval rfl rfl rfl (by decide +kernel) ⟨Nat.le_of_ble_eq_true rfl, Nat.le_of_ble_eq_true rfl⟩) h_5 rfl rfl rfl rfl (Nat.le_of_ble_eq_true rfl) dX2_tick_25 ⟨Nat.le_of_ble_eq_true rfl, Nat.le_of_ble_eq_true rfl⟩ (fun v3 Φ4 sz3 st3 hp3 hs3 => ?_)
    obtain ⟨rfl, hq3, fr3, h_10⟩ := hp3
    replace hq3 : sz3 = sz := hq3
    subst sz3
    replace hs3 : st3 = [.int 1] := hs3
    subst st3
    have h_11 : Φ4 (x + 80) = some (o_ 4 [.ref (x + 3), .ref (x + 74), .ref (x + 81), .ref (x + 95), .int (tm + 1), .int 1, .int 1, .int 0, .int 0, .int 0, .long 0, .long 0, .long 0]) := h_10
    refine z_goto (tgt := 35) B dX2_tick_28 rfl ?_
    refine z_istore_n (lv' := [(1, .int 1), (0, .ref (x + 80))]) B dX2_tick_35 rfl (Nat.le_of_ble_eq_true rfl) rfl ?_
    refine z_iload_n B dX2_tick_36 rfl 0 rfl ?_
    refine z_aload_n B dX2_tick_37 rfl 1 rfl ?_
    refine z_get (ref := "FlowExporter$Exporter") (C := RX2) (T := TX2) (N := 13) (ci := 4) (v := .int 1) B (by decide +kernel) rfl 5 (by decide) (by decide +kernel) rfl h_11 rfl dX2_tick_38 ?_
    refine z_icmp_eq (tgt := 53) B dX2_tick_41 rfl (fun c_3 => ?_) (fun h9 => absurd (by decide) h9)
    refine z_aload_n B dX2_tick_53 rfl 1 rfl ?_
    refine z_get (ref := "FlowExporter$Exporter") (C := RX2) (T := TX2) (N := 13) (ci := 4) (v := .ref (x + 74)) B (by decide +kernel) rfl 1 (by decide) (by decide +kernel) rfl h_11 rfl dX2_tick_54 ?_
    refine z_aload_n B dX2_tick_57 rfl 1 rfl ?_
    refine z_get (ref := "FlowExporter$Exporter") (C := RX2) (T := TX2) (N := 13) (ci := 4) (v := .int (tm + 1)) B (by decide +kernel) rfl 4 (by decide) (by decide +kernel) rfl h_11 rfl dX2_tick_58 ?_
    have h_12 : Φ4 (x + 74) = some (o_ 10 [.ref (x + 3), .ref (x + 46), .ref (x + 75), .ref (x + 77), .int 0, .ref (x + 78), .ref (x + 79), .int 0, .long 0, .int 0]) := ((fr3 (x + 74) (ne_off (x := x) (i := 74) (j := 80) rfl)).trans ((fr1 (x + 74)).trans ((fset_fr hΦ1 (ne_off (x := x) (i := 74) (j := 80) rfl)).trans hc74_)))
    refine z_callV (As := [.int (tm + 1)]) (rest := []) B (f_X8_sendPending_t G l Φ4 sz x (tm + 1) h_12) (cwV 1 B.1.2.2.2.2 gX2_tick_X8_sendPending rfl rfl rfl (by decide +kernel) ⟨Nat.le_of_ble_eq_true rfl, Nat.le_of_ble_eq_true rfl⟩) h_12 rfl rfl rfl rfl (Nat.le_of_ble_eq_true rfl) dX2_tick_61 ⟨Nat.le_of_ble_eq_true rfl, Nat.le_of_ble_eq_true rfl⟩ (fun v4 Φ5 sz4 st4 hp4 hs4 => ?_)
    obtain ⟨rfl, hq4, fr4⟩ := hp4
    replace hq4 : sz4 = sz := hq4
    subst sz4
    replace hs4 : st4 = [] := hs4
    subst st4
    have h_13 : Φ5 (x + 80) = some (o_ 4 [.ref (x + 3), .ref (x + 74), .ref (x + 81), .ref (x + 95), .int (tm + 1), .int 1, .int 1, .int 0, .int 0, .int 0, .long 0, .long 0, .long 0]) := ((fr4 (x + 80)).trans h_11)
    exact z_ret_v B dX2_tick_64 ⟨rfl, rfl, (fun b9 h9a => ((fr4 b9).trans ((fr3 b9 h9a).trans ((fr1 b9).trans ((fset_fr hΦ1 h9a).trans rfl))))), h_13⟩

set_option maxHeartbeats 4000000 in
set_option maxRecDepth 100000 in
theorem f_X11_advance (G : EnvG) (l : Launch) (Φ : Hm) (sz : Nat) (x : Nat) (n : Nat) (hc0_ : Φ x = some (o_ 13 [.ref (x + 1), .ref (x + 3), .ref (x + 24), .ref (x + 46), .ref (x + 74), .ref (x + 80), .ref (x + 132), .ref (x + 121)])) (hc3_ : Φ (x + 3) = some (o_ 3 [.ref (x + 4), .ref (x + 5), .ref (x + 6), .ref (x + 7), .int 1, .int 511])) (hc4_ : Φ (x + 4) = some (ai_ G 9 usT)) (hc74_ : Φ (x + 74) = some (o_ 10 [.ref (x + 3), .ref (x + 46), .ref (x + 75), .ref (x + 77), .int 0, .ref (x + 78), .ref (x + 79), .int 0, .long 0, .int 0])) (hc80_ : Φ (x + 80) = some (o_ 4 [.ref (x + 3), .ref (x + 74), .ref (x + 81), .ref (x + 95), .int 0, .int 1, .int 1, .int 0, .int 0, .int 0, .long 0, .long 0, .long 0])) (hc81_ : Φ (x + 81) = some (o_ 6 [.ref (x + 82), .int 0])) (hna : G.2.2.2 ≤ x) (hn1 : ¬ nI n < 1) (hn3 : nI n ≤ 1000) (hn2 : n ≤ 1000) : Ct G l yX11_advance wsX11_advance ({ frames := 3, cells := 0, slots := 0, locals := 67 }) 0 0 [.ref x, .int (nI n)] Φ sz (fun v Φ1 sz1 => v = some (.int 0) ∧ ∀ b9 : Nat, x + 149 ≤ b9 → Φ1 b9 = Φ b9) := by
  refine Ct.of (cc := cX11_advance) (maxL := 4) (ret := (some .int)) (by decide) rfl (Nat.le_of_ble_eq_true rfl) ?_
  intro p9 e9 s9 m9 w9 t9 k9 B
  have loop : ∀ (kq i : Nat) (Φi : Hm) , i + kq = n → Φi x = some (o_ 13 [.ref (x + 1), .ref (x + 3), .ref (x + 24), .ref (x + 46), .ref (x + 74), .ref (x + 80), .ref (x + 132), .ref (x + 121)]) → Φi (x + 3) = some (o_ 3 [.ref (x + 4), .ref (x + 5), .ref (x + 6), .ref (x + 7), .int 1, .int 511]) → Φi (x + 4) = some (ai_ G 9 usT) → Φi (x + 74) = some (o_ 10 [.ref (x + 3), .ref (x + 46), .ref (x + 75), .ref (x + 77), .int 0, .ref (x + 78), .ref (x + 79), .int 0, .long 0, .int 0]) → Φi (x + 80) = some (o_ 4 [.ref (x + 3), .ref (x + 74), .ref (x + 81), .ref (x + 95), .int (nI i), .int 1, .int 1, .int 0, .int 0, .int 0, .long 0, .long 0, .long 0]) → Φi (x + 81) = some (o_ 6 [.ref (x + 82), .int 0]) → (∀ b9 : Nat, x + 149 ≤ b9 → Φi b9 = Φ b9) → Z p9 l e9 ({ frames := 3, cells := 0, slots := 0, locals := 67 } : Room) s9 m9 (List.toArray [.ref x, .int (nI n)]) w9 t9 k9 (MQ w9 (QU G (fun v Φ1 sz1 => v = some (.int 0) ∧ ∀ b9 : Nat, x + 149 ≤ b9 → Φ1 b9 = Φ b9)) (List.toArray [.ref x, .int (nI n)]) s9 0 0 (fun q => G.2.2.2 ≤ q)) G 4 52 [(3, .int (nI i)), (2, .int 0), (1, .int (nI n)), (0, .ref x)] [] Φi sz 0 0 := by
    intro kq
    induction kq with
    | zero =>
      intro i Φi  hi hI0 hI1 hI2 hI3 hI4 hI5  hfr
      refine z_iload_n B dX11_advance_52 rfl 0 rfl ?_
      refine z_iload_n B dX11_advance_53 rfl 2 rfl ?_
      refine z_icmp_ge (tgt := 70) B dX11_advance_54 rfl (fun c_1 => ?_) (fun h9 => absurd (nI_le (by omega) (by omega)) h9)
      refine z_aload_n B dX11_advance_70 rfl 3 rfl ?_
      refine z_get (ref := "FlowExporter") (C := RX11) (T := TX11) (N := 8) (ci := 13) (v := .ref (x + 80)) B (by decide +kernel) rfl 5 (by decide) (by decide +kernel) rfl hI0 rfl dX11_advance_71 ?_
      refine z_get (ref := "FlowExporter$Exporter") (C := RX2) (T := TX2) (N := 13) (ci := 4) (v := .int 0) B (by decide +kernel) rfl 8 (by decide) (by decide +kernel) rfl hI4 rfl dX11_advance_74 ?_
      refine z_iload_n B dX11_advance_77 rfl 1 rfl ?_
      refine z_isub B dX11_advance_78 ?_
      refine z_top (st1 := [.int 0]) (congrArg (fun w9 : Int32 => ([.int w9] : List Value)) (show (0 - 0 : Int32) = 0 by decide +kernel)) ?_
      exact z_ret_i B dX11_advance_79 ⟨rfl, fun b9 h9 => rfl.trans (hfr b9 h9)⟩
    | succ kq ih =>
      intro i Φi  hi hI0 hI1 hI2 hI3 hI4 hI5  hfr
      refine z_iload_n B dX11_advance_52 rfl 0 rfl ?_
      refine z_iload_n B dX11_advance_53 rfl 2 rfl ?_
      refine z_icmp_ge (tgt := 70) B dX11_advance_54 rfl (fun h9 => absurd h9 (nI_ge (by omega) (by omega))) (fun c_1 => ?_)
      refine z_aload_n B dX11_advance_57 rfl 3 rfl ?_
      refine z_get (ref := "FlowExporter") (C := RX11) (T := TX11) (N := 8) (ci := 13) (v := .ref (x + 80)) B (by decide +kernel) rfl 5 (by decide) (by decide +kernel) rfl hI0 rfl dX11_advance_58 ?_
      refine z_callV (As := []) (rest := []) B (f_X2_tick G l Φi sz x (nI i) hI1 hI2 hI3 hI4 hI5 hna) (cwV 0 B.1.2.2.2.2 gX11_advance_X2_tick rfl rfl rfl (by decide +kernel) ⟨Nat.le_of_ble_eq_true rfl, Nat.le_of_ble_eq_true rfl⟩) hI4 rfl rfl rfl rfl (Nat.le_of_ble_eq_true rfl) dX11_advance_61 ⟨Nat.le_of_ble_eq_true rfl, Nat.le_of_ble_eq_true rfl⟩ (fun v1 Φ1 sz1 st1 hp1 hs1 => ?_)
      obtain ⟨rfl, hq1, fr1, h_1⟩ := hp1
      replace hq1 : sz1 = sz := hq1
      subst sz1
      replace hs1 : st1 = [] := hs1
      subst st1
      have h_2 : Φ1 (x + 80) = some (o_ 4 [.ref (x + 3), .ref (x + 74), .ref (x + 81), .ref (x + 95), .int ((nI i) + 1), .int 1, .int 1, .int 0, .int 0, .int 0, .long 0, .long 0, .long 0]) := h_1
      refine z_iinc (k := 0) (v := nI (i + 1)) (lv' := [(3, .int (nI (i + 1))), (2, .int 0), (1, .int (nI n)), (0, .ref x)]) B dX11_advance_64 rfl (nI_1 i) (Nat.le_of_ble_eq_true rfl) rfl ?_
      refine z_goto (tgt := 52) B dX11_advance_67 rfl ?_
      have h_3 : Φ1 x = some (o_ 13 [.ref (x + 1), .ref (x + 3), .ref (x + 24), .ref (x + 46), .ref (x + 74), .ref (x + 80), .ref (x + 132), .ref (x + 121)]) := ((fr1 x (ne_off (x := x) (i := 0) (j := 80) rfl)).trans hI0)
      have h_4 : Φ1 (x + 3) = some (o_ 3 [.ref (x + 4), .ref (x + 5), .ref (x + 6), .ref (x + 7), .int 1, .int 511]) := ((fr1 (x + 3) (ne_off (x := x) (i := 3) (j := 80) rfl)).trans hI1)
      have h_5 : Φ1 (x + 4) = some (ai_ G 9 usT) := ((fr1 (x + 4) (ne_off (x := x) (i := 4) (j := 80) rfl)).trans hI2)
      have h_6 : Φ1 (x + 74) = some (o_ 10 [.ref (x + 3), .ref (x + 46), .ref (x + 75), .ref (x + 77), .int 0, .ref (x + 78), .ref (x + 79), .int 0, .long 0, .int 0]) := ((fr1 (x + 74) (ne_off (x := x) (i := 74) (j := 80) rfl)).trans hI3)
      have h_7 : Φ1 (x + 81) = some (o_ 6 [.ref (x + 82), .int 0]) := ((fr1 (x + 81) (ne_off (x := x) (i := 81) (j := 80) rfl)).trans hI5)
      refine z_lv [0, 1, 2, 3] rfl ?_
      refine ih (i + 1) Φ1  (by omega) h_3 h_4 h_5 h_6 (by first | exact h_2 | (rw [← nI_1]; exact h_2)) h_7  (fun b9 h9 => ((fr1 b9 (Nat.ne_of_gt (Nat.lt_of_lt_of_le (lt_off (x := x) (i := 80) (j := 149) rfl) h9))).trans rfl).trans (hfr b9 h9))
  show Z p9 l e9 _ s9 m9 _ w9 t9 k9 _ G 4 0 [(0, .ref x), (1, .int (nI n))] [] Φ sz 0 0
  refine z_iload_n B dX11_advance_0 rfl 1 rfl ?_
  refine z_iconst (v := 1) B dX11_advance_1 rfl ?_
  refine z_icmp_lt (tgt := 12) B dX11_advance_2 rfl (fun h9 => absurd h9 hn1) (fun c_1 => ?_)
  refine z_iload_n B dX11_advance_5 rfl 1 rfl ?_
  refine z_sipush (v := 1000) B dX11_advance_6 rfl ?_
  refine z_icmp_le (tgt := 20) B dX11_advance_9 rfl (fun c_2 => ?_) (fun h9 => absurd hn3 h9)
  refine z_aload_n B dX11_advance_20 rfl 0 rfl ?_
  refine z_get (ref := "FlowExporter") (C := RX11) (T := TX11) (N := 8) (ci := 13) (v := .ref (x + 80)) B (by decide +kernel) rfl 5 (by decide) (by decide +kernel) rfl hc0_ rfl dX11_advance_21 ?_
  refine z_get (ref := "FlowExporter$Exporter") (C := RX2) (T := TX2) (N := 13) (ci := 4) (v := .int 0) B (by decide +kernel) rfl 4 (by decide) (by decide +kernel) rfl hc80_ rfl dX11_advance_24 ?_
  refine z_iload_n B dX11_advance_27 rfl 1 rfl ?_
  refine z_iadd B dX11_advance_28 ?_
  refine z_ldc (v := 1000000) B (by decide +kernel) dX11_advance_29 ?_
  refine z_icmp_le (tgt := 42) B dX11_advance_31 rfl (fun c_3 => ?_) (fun h9 => absurd (by rw [show (0 : Int32) + nI n = nI n from Int32.zero_add _]; exact nI_le (b := 1000000) (by omega) (by decide)) h9)
  refine z_aload_n B dX11_advance_42 rfl 0 rfl ?_
  refine z_get (ref := "FlowExporter") (C := RX11) (T := TX11) (N := 8) (ci := 13) (v := .ref (x + 80)) B (by decide +kernel) rfl 5 (by decide) (by decide +kernel) rfl hc0_ rfl dX11_advance_43 ?_
  refine z_get (ref := "FlowExporter$Exporter") (C := RX2) (T := TX2) (N := 13) (ci := 4) (v := .int 0) B (by decide +kernel) rfl 8 (by decide) (by decide +kernel) rfl hc80_ rfl dX11_advance_46 ?_
  refine z_istore_n (lv' := [(2, .int 0), (0, .ref x), (1, .int (nI n))]) B dX11_advance_49 rfl (Nat.le_of_ble_eq_true rfl) rfl ?_
  refine z_iconst (v := 0) B dX11_advance_50 rfl ?_
  refine z_istore_n (lv' := [(3, .int 0), (2, .int 0), (0, .ref x), (1, .int (nI n))]) B dX11_advance_51 rfl (Nat.le_of_ble_eq_true rfl) rfl ?_
  refine z_lv [0, 1, 3, 2] rfl ?_
  exact loop n 0 Φ  (by omega) hc0_ hc3_ hc4_ hc74_ hc80_ hc81_  (fun b9 h9 => rfl)

set_option maxHeartbeats 4000000 in
set_option maxRecDepth 100000 in
theorem f_X11_advance_x (G : EnvG) (l : Launch) (hl9 : l.stackTraces = false) (Φ : Hm) (sz : Nat) (x : Nat) (a : Int32) (ha : ¬ (¬ a < 1 ∧ a ≤ 1000)) : CtX G l yX11_advance wsX11_advance ({ frames := 6, cells := 1, slots := 6, locals := 81 }) 1 6 [.ref x, .int a] Φ sz xIA := by
  refine CtX.of (cc := cX11_advance) (maxL := 4) (ret := (some .int)) (by decide) rfl (Nat.le_of_ble_eq_true rfl) ?_
  intro p9 e9 s9 m9 w9 t9 k9 B htab9
  show Z p9 l e9 _ s9 m9 _ w9 t9 k9 _ G 4 0 [(0, .ref x), (1, .int a)] [] Φ sz 0 0
  refine z_iload_n B dX11_advance_0 rfl 1 rfl ?_
  refine z_iconst (v := 1) B dX11_advance_1 rfl ?_
  refine z_icmp_lt (tgt := 12) B dX11_advance_2 rfl (fun c_1 => ?_) (fun c_1 => ?_)
  · exact z_throw (cls := xIA) (ik := 116) (ic := 118) B hl9 htab9 (by decide) (by decide +kernel) (by decide +kernel) (by decide +kernel) (by decide +kernel) (by decide +kernel) (by decide +kernel) (by decide +kernel) dX11_advance_12 dX11_advance_15 dX11_advance_16 dX11_advance_19 ⟨Nat.le_of_ble_eq_true rfl, Nat.le_of_ble_eq_true rfl, Nat.le_of_ble_eq_true rfl, Nat.le_of_ble_eq_true rfl⟩ ⟨Nat.le_of_ble_eq_true rfl, Nat.le_of_ble_eq_true rfl⟩
  · refine z_iload_n B dX11_advance_5 rfl 1 rfl ?_
    refine z_sipush (v := 1000) B dX11_advance_6 rfl ?_
    refine z_icmp_le (tgt := 20) B dX11_advance_9 rfl (fun h9 => absurd h9 (fun h8 => ha ⟨c_1, h8⟩)) (fun c_2 => ?_)
    exact z_throw (cls := xIA) (ik := 116) (ic := 118) B hl9 htab9 (by decide) (by decide +kernel) (by decide +kernel) (by decide +kernel) (by decide +kernel) (by decide +kernel) (by decide +kernel) (by decide +kernel) dX11_advance_12 dX11_advance_15 dX11_advance_16 dX11_advance_19 ⟨Nat.le_of_ble_eq_true rfl, Nat.le_of_ble_eq_true rfl, Nat.le_of_ble_eq_true rfl, Nat.le_of_ble_eq_true rfl⟩ ⟨Nat.le_of_ble_eq_true rfl, Nat.le_of_ble_eq_true rfl⟩

set_option maxHeartbeats 4000000 in
set_option maxRecDepth 100000 in
theorem f_X10_field_0 (G : EnvG) (l : Launch) (Φ : Hm) (sz : Nat) (x : Nat) (hc8_ : Φ (x + 8) = some (o_ 12 [.ref (x + 9), .int 9, .int 511, .int 29])) (hc9_ : Φ (x + 9) = some (ai_ G 9 (upd (upd (upd (upd (upd (upd (upd (upd (upd (fun _ => 0) (0 : Int32).toNatClampNeg 0) (1 : Int32).toNatClampNeg 1) (2 : Int32).toNatClampNeg 2) (3 : Int32).toNatClampNeg 3) (4 : Int32).toNatClampNeg 4) (5 : Int32).toNatClampNeg 5) (6 : Int32).toNatClampNeg 6) (7 : Int32).toNatClampNeg 7) (8 : Int32).toNatClampNeg 8))) : Ct G l yX10_field wsX10_field ({ frames := 0, cells := 0, slots := 0, locals := 0 }) 0 0 [.ref (x + 8), .int 0] Φ sz (fun v Φ1 sz1 => v = some (.int 0) ∧ sz1 = sz ∧ (∀ b9 : Nat, Φ1 b9 = Φ b9)) := by
  refine Ct.of (cc := cX10_field) (maxL := 2) (ret := (some .int)) (by decide) rfl (Nat.le_of_ble_eq_true rfl) ?_
  intro p9 e9 s9 m9 w9 t9 k9 B
  show Z p9 l e9 _ s9 m9 _ w9 t9 k9 _ G 2 0 [(0, .ref (x + 8)), (1, .int 0)] [] Φ sz 0 0
  refine z_iload_n B dX10_field_0 rfl 1 rfl ?_
  refine z_if_lt (tgt := 21) B dX10_field_1 rfl (fun h9 => absurd h9 (by decide)) (fun c_1 => ?_)
  refine z_iload_n B dX10_field_4 rfl 1 rfl ?_
  refine z_aload_n B dX10_field_5 rfl 0 rfl ?_
  refine z_get (ref := "FlowExporter$Template") (C := RX10) (T := TX10) (N := 4) (ci := 12) (v := .int 9) B (by decide +kernel) rfl 1 (by decide) (by decide +kernel) rfl hc8_ rfl dX10_field_6 ?_
  refine z_icmp_ge (tgt := 21) B dX10_field_9 rfl (fun h9 => absurd h9 (by decide)) (fun c_2 => ?_)
  refine z_aload_n B dX10_field_12 rfl 0 rfl ?_
  refine z_get (ref := "FlowExporter$Template") (C := RX10) (T := TX10) (N := 4) (ci := 12) (v := .ref (x + 9)) B (by decide +kernel) rfl 0 (by decide) (by decide +kernel) rfl hc8_ rfl dX10_field_13 ?_
  refine z_iload_n B dX10_field_16 rfl 1 rfl ?_
  refine z_iald B hc9_ (vin rfl) dX10_field_17 ?_
  refine z_top (st1 := [.int 0]) (by rfl) ?_
  refine z_goto (tgt := 22) B dX10_field_18 rfl ?_
  exact z_ret_i B dX10_field_22 ⟨rfl, rfl, (fun b9 => rfl)⟩

set_option maxHeartbeats 4000000 in
set_option maxRecDepth 100000 in
theorem f_X11_fieldAt_0 (G : EnvG) (l : Launch) (Φ : Hm) (sz : Nat) (x : Nat) (hc0_ : Φ x = some (o_ 13 [.ref (x + 1), .ref (x + 3), .ref (x + 24), .ref (x + 46), .ref (x + 74), .ref (x + 80), .ref (x + 132), .ref (x + 121)])) (hc3_ : Φ (x + 3) = some (o_ 3 [.ref (x + 4), .ref (x + 5), .ref (x + 6), .ref (x + 7), .int 1, .int 511])) (hc6_ : Φ (x + 6) = some (aq_ G 4 4 (va_up (va_up (va_up (va_up (fun _ => none) (0 : Int32).toNatClampNeg (some (x + 8))) (1 : Int32).toNatClampNeg (some (x + 12))) (2 : Int32).toNatClampNeg (some (x + 16))) (3 : Int32).toNatClampNeg (some (x + 20))))) (hc8_ : Φ (x + 8) = some (o_ 12 [.ref (x + 9), .int 9, .int 511, .int 29])) (hc9_ : Φ (x + 9) = some (ai_ G 9 (upd (upd (upd (upd (upd (upd (upd (upd (upd (fun _ => 0) (0 : Int32).toNatClampNeg 0) (1 : Int32).toNatClampNeg 1) (2 : Int32).toNatClampNeg 2) (3 : Int32).toNatClampNeg 3) (4 : Int32).toNatClampNeg 4) (5 : Int32).toNatClampNeg 5) (6 : Int32).toNatClampNeg 6) (7 : Int32).toNatClampNeg 7) (8 : Int32).toNatClampNeg 8))) : Ct G l yX11_fieldAt wsX11_fieldAt ({ frames := 1, cells := 0, slots := 0, locals := 21 }) 0 0 [.ref x, .int 0, .int 0] Φ sz (fun v Φ1 sz1 => v = some (.int 0) ∧ ∀ b9 : Nat, x + 149 ≤ b9 → Φ1 b9 = Φ b9) := by
  refine Ct.of (cc := cX11_fieldAt) (maxL := 3) (ret := (some .int)) (by decide) rfl (Nat.le_of_ble_eq_true rfl) ?_
  intro p9 e9 s9 m9 w9 t9 k9 B
  show Z p9 l e9 _ s9 m9 _ w9 t9 k9 _ G 3 0 [(0, .ref x), (1, .int 0), (2, .int 0)] [] Φ sz 0 0
  refine z_aload_n B dX11_fieldAt_0 rfl 0 rfl ?_
  refine z_iload_n B dX11_fieldAt_1 rfl 1 rfl ?_
  refine z_callV (As := [.int 0]) (rest := []) B (f_X11_requireTemplate_0 G l Φ sz x hc0_ hc3_) (cwV 1 B.1.2.2.2.2 gX11_fieldAt_X11_requireTemplate rfl rfl rfl (by decide +kernel) ⟨Nat.le_of_ble_eq_true rfl, Nat.le_of_ble_eq_true rfl⟩) hc0_ rfl rfl rfl rfl (Nat.le_of_ble_eq_true rfl) dX11_fieldAt_2 ⟨Nat.le_of_ble_eq_true rfl, Nat.le_of_ble_eq_true rfl⟩ (fun v1 Φ1 sz1 st1 hp1 hs1 => ?_)
  obtain ⟨rfl, hq1, fr1⟩ := hp1
  replace hq1 : sz1 = sz := hq1
  subst sz1
  replace hs1 : st1 = [] := hs1
  subst st1
  refine z_aload_n B dX11_fieldAt_5 rfl 0 rfl ?_
  have h_1 : Φ1 x = some (o_ 13 [.ref (x + 1), .ref (x + 3), .ref (x + 24), .ref (x + 46), .ref (x + 74), .ref (x + 80), .ref (x + 132), .ref (x + 121)]) := ((fr1 x).trans hc0_)
  refine z_get (ref := "FlowExporter") (C := RX11) (T := TX11) (N := 8) (ci := 13) (v := .ref (x + 3)) B (by decide +kernel) rfl 1 (by decide) (by decide +kernel) rfl h_1 rfl dX11_fieldAt_6 ?_
  refine z_iload_n B dX11_fieldAt_9 rfl 1 rfl ?_
  have h_2 : Φ1 (x + 3) = some (o_ 3 [.ref (x + 4), .ref (x + 5), .ref (x + 6), .ref (x + 7), .int 1, .int 511]) := ((fr1 (x + 3)).trans hc3_)
  have h_3 : Φ1 (x + 6) = some (aq_ G 4 4 (va_up (va_up (va_up (va_up (fun _ => none) (0 : Int32).toNatClampNeg (some (x + 8))) (1 : Int32).toNatClampNeg (some (x + 12))) (2 : Int32).toNatClampNeg (some (x + 16))) (3 : Int32).toNatClampNeg (some (x + 20)))) := ((fr1 (x + 6)).trans hc6_)
  refine z_callV (As := [.int 0]) (rest := []) B (f_X1_template_0 G l Φ1 sz x h_2 h_3) (cwV 1 B.1.2.2.2.2 gX11_fieldAt_X1_template rfl rfl rfl (by decide +kernel) ⟨Nat.le_of_ble_eq_true rfl, Nat.le_of_ble_eq_true rfl⟩) h_2 rfl rfl rfl rfl (Nat.le_of_ble_eq_true rfl) dX11_fieldAt_10 ⟨Nat.le_of_ble_eq_true rfl, Nat.le_of_ble_eq_true rfl⟩ (fun v2 Φ2 sz2 st2 hp2 hs2 => ?_)
  obtain ⟨rfl, hq2, fr2⟩ := hp2
  replace hq2 : sz2 = sz := hq2
  subst sz2
  replace hs2 : st2 = [.ref (x + 8)] := hs2
  subst st2
  refine z_iload_n B dX11_fieldAt_13 rfl 2 rfl ?_
  have h_4 : Φ2 (x + 8) = some (o_ 12 [.ref (x + 9), .int 9, .int 511, .int 29]) := ((fr2 (x + 8)).trans ((fr1 (x + 8)).trans hc8_))
  have h_5 : Φ2 (x + 9) = some (ai_ G 9 (upd (upd (upd (upd (upd (upd (upd (upd (upd (fun _ => 0) (0 : Int32).toNatClampNeg 0) (1 : Int32).toNatClampNeg 1) (2 : Int32).toNatClampNeg 2) (3 : Int32).toNatClampNeg 3) (4 : Int32).toNatClampNeg 4) (5 : Int32).toNatClampNeg 5) (6 : Int32).toNatClampNeg 6) (7 : Int32).toNatClampNeg 7) (8 : Int32).toNatClampNeg 8)) := ((fr2 (x + 9)).trans ((fr1 (x + 9)).trans hc9_))
  refine z_callV (As := [.int 0]) (rest := []) B (f_X10_field_0 G l Φ2 sz x h_4 h_5) (cwV 1 B.1.2.2.2.2 gX11_fieldAt_X10_field rfl rfl rfl (by decide +kernel) ⟨Nat.le_of_ble_eq_true rfl, Nat.le_of_ble_eq_true rfl⟩) h_4 rfl rfl rfl rfl (Nat.le_of_ble_eq_true rfl) dX11_fieldAt_14 ⟨Nat.le_of_ble_eq_true rfl, Nat.le_of_ble_eq_true rfl⟩ (fun v3 Φ3 sz3 st3 hp3 hs3 => ?_)
  obtain ⟨rfl, hq3, fr3⟩ := hp3
  replace hq3 : sz3 = sz := hq3
  subst sz3
  replace hs3 : st3 = [.int 0] := hs3
  subst st3
  exact z_ret_i B dX11_fieldAt_17 ⟨rfl, fun b9 h9 => ((fr3 b9).trans ((fr2 b9).trans ((fr1 b9).trans rfl)))⟩

set_option maxHeartbeats 4000000 in
set_option maxRecDepth 100000 in
theorem f_X10_field_1 (G : EnvG) (l : Launch) (Φ : Hm) (sz : Nat) (x : Nat) (hc8_ : Φ (x + 8) = some (o_ 12 [.ref (x + 9), .int 9, .int 511, .int 29])) (hc9_ : Φ (x + 9) = some (ai_ G 9 (upd (upd (upd (upd (upd (upd (upd (upd (upd (fun _ => 0) (0 : Int32).toNatClampNeg 0) (1 : Int32).toNatClampNeg 1) (2 : Int32).toNatClampNeg 2) (3 : Int32).toNatClampNeg 3) (4 : Int32).toNatClampNeg 4) (5 : Int32).toNatClampNeg 5) (6 : Int32).toNatClampNeg 6) (7 : Int32).toNatClampNeg 7) (8 : Int32).toNatClampNeg 8))) : Ct G l yX10_field wsX10_field ({ frames := 0, cells := 0, slots := 0, locals := 0 }) 0 0 [.ref (x + 8), .int 1] Φ sz (fun v Φ1 sz1 => v = some (.int 1) ∧ sz1 = sz ∧ (∀ b9 : Nat, Φ1 b9 = Φ b9)) := by
  refine Ct.of (cc := cX10_field) (maxL := 2) (ret := (some .int)) (by decide) rfl (Nat.le_of_ble_eq_true rfl) ?_
  intro p9 e9 s9 m9 w9 t9 k9 B
  show Z p9 l e9 _ s9 m9 _ w9 t9 k9 _ G 2 0 [(0, .ref (x + 8)), (1, .int 1)] [] Φ sz 0 0
  refine z_iload_n B dX10_field_0 rfl 1 rfl ?_
  refine z_if_lt (tgt := 21) B dX10_field_1 rfl (fun h9 => absurd h9 (by decide)) (fun c_1 => ?_)
  refine z_iload_n B dX10_field_4 rfl 1 rfl ?_
  refine z_aload_n B dX10_field_5 rfl 0 rfl ?_
  refine z_get (ref := "FlowExporter$Template") (C := RX10) (T := TX10) (N := 4) (ci := 12) (v := .int 9) B (by decide +kernel) rfl 1 (by decide) (by decide +kernel) rfl hc8_ rfl dX10_field_6 ?_
  refine z_icmp_ge (tgt := 21) B dX10_field_9 rfl (fun h9 => absurd h9 (by decide)) (fun c_2 => ?_)
  refine z_aload_n B dX10_field_12 rfl 0 rfl ?_
  refine z_get (ref := "FlowExporter$Template") (C := RX10) (T := TX10) (N := 4) (ci := 12) (v := .ref (x + 9)) B (by decide +kernel) rfl 0 (by decide) (by decide +kernel) rfl hc8_ rfl dX10_field_13 ?_
  refine z_iload_n B dX10_field_16 rfl 1 rfl ?_
  refine z_iald B hc9_ (vin rfl) dX10_field_17 ?_
  refine z_top (st1 := [.int 1]) (by rfl) ?_
  refine z_goto (tgt := 22) B dX10_field_18 rfl ?_
  exact z_ret_i B dX10_field_22 ⟨rfl, rfl, (fun b9 => rfl)⟩

set_option maxHeartbeats 4000000 in
set_option maxRecDepth 100000 in
theorem f_X11_fieldAt_1 (G : EnvG) (l : Launch) (Φ : Hm) (sz : Nat) (x : Nat) (hc0_ : Φ x = some (o_ 13 [.ref (x + 1), .ref (x + 3), .ref (x + 24), .ref (x + 46), .ref (x + 74), .ref (x + 80), .ref (x + 132), .ref (x + 121)])) (hc3_ : Φ (x + 3) = some (o_ 3 [.ref (x + 4), .ref (x + 5), .ref (x + 6), .ref (x + 7), .int 1, .int 511])) (hc6_ : Φ (x + 6) = some (aq_ G 4 4 (va_up (va_up (va_up (va_up (fun _ => none) (0 : Int32).toNatClampNeg (some (x + 8))) (1 : Int32).toNatClampNeg (some (x + 12))) (2 : Int32).toNatClampNeg (some (x + 16))) (3 : Int32).toNatClampNeg (some (x + 20))))) (hc8_ : Φ (x + 8) = some (o_ 12 [.ref (x + 9), .int 9, .int 511, .int 29])) (hc9_ : Φ (x + 9) = some (ai_ G 9 (upd (upd (upd (upd (upd (upd (upd (upd (upd (fun _ => 0) (0 : Int32).toNatClampNeg 0) (1 : Int32).toNatClampNeg 1) (2 : Int32).toNatClampNeg 2) (3 : Int32).toNatClampNeg 3) (4 : Int32).toNatClampNeg 4) (5 : Int32).toNatClampNeg 5) (6 : Int32).toNatClampNeg 6) (7 : Int32).toNatClampNeg 7) (8 : Int32).toNatClampNeg 8))) : Ct G l yX11_fieldAt wsX11_fieldAt ({ frames := 1, cells := 0, slots := 0, locals := 21 }) 0 0 [.ref x, .int 0, .int 1] Φ sz (fun v Φ1 sz1 => v = some (.int 1) ∧ ∀ b9 : Nat, x + 149 ≤ b9 → Φ1 b9 = Φ b9) := by
  refine Ct.of (cc := cX11_fieldAt) (maxL := 3) (ret := (some .int)) (by decide) rfl (Nat.le_of_ble_eq_true rfl) ?_
  intro p9 e9 s9 m9 w9 t9 k9 B
  show Z p9 l e9 _ s9 m9 _ w9 t9 k9 _ G 3 0 [(0, .ref x), (1, .int 0), (2, .int 1)] [] Φ sz 0 0
  refine z_aload_n B dX11_fieldAt_0 rfl 0 rfl ?_
  refine z_iload_n B dX11_fieldAt_1 rfl 1 rfl ?_
  refine z_callV (As := [.int 0]) (rest := []) B (f_X11_requireTemplate_0 G l Φ sz x hc0_ hc3_) (cwV 1 B.1.2.2.2.2 gX11_fieldAt_X11_requireTemplate rfl rfl rfl (by decide +kernel) ⟨Nat.le_of_ble_eq_true rfl, Nat.le_of_ble_eq_true rfl⟩) hc0_ rfl rfl rfl rfl (Nat.le_of_ble_eq_true rfl) dX11_fieldAt_2 ⟨Nat.le_of_ble_eq_true rfl, Nat.le_of_ble_eq_true rfl⟩ (fun v1 Φ1 sz1 st1 hp1 hs1 => ?_)
  obtain ⟨rfl, hq1, fr1⟩ := hp1
  replace hq1 : sz1 = sz := hq1
  subst sz1
  replace hs1 : st1 = [] := hs1
  subst st1
  refine z_aload_n B dX11_fieldAt_5 rfl 0 rfl ?_
  have h_1 : Φ1 x = some (o_ 13 [.ref (x + 1), .ref (x + 3), .ref (x + 24), .ref (x + 46), .ref (x + 74), .ref (x + 80), .ref (x + 132), .ref (x + 121)]) := ((fr1 x).trans hc0_)
  refine z_get (ref := "FlowExporter") (C := RX11) (T := TX11) (N := 8) (ci := 13) (v := .ref (x + 3)) B (by decide +kernel) rfl 1 (by decide) (by decide +kernel) rfl h_1 rfl dX11_fieldAt_6 ?_
  refine z_iload_n B dX11_fieldAt_9 rfl 1 rfl ?_
  have h_2 : Φ1 (x + 3) = some (o_ 3 [.ref (x + 4), .ref (x + 5), .ref (x + 6), .ref (x + 7), .int 1, .int 511]) := ((fr1 (x + 3)).trans hc3_)
  have h_3 : Φ1 (x + 6) = some (aq_ G 4 4 (va_up (va_up (va_up (va_up (fun _ => none) (0 : Int32).toNatClampNeg (some (x + 8))) (1 : Int32).toNatClampNeg (some (x + 12))) (2 : Int32).toNatClampNeg (some (x + 16))) (3 : Int32).toNatClampNeg (some (x + 20)))) := ((fr1 (x + 6)).trans hc6_)
  refine z_callV (As := [.int 0]) (rest := []) B (f_X1_template_0 G l Φ1 sz x h_2 h_3) (cwV 1 B.1.2.2.2.2 gX11_fieldAt_X1_template rfl rfl rfl (by decide +kernel) ⟨Nat.le_of_ble_eq_true rfl, Nat.le_of_ble_eq_true rfl⟩) h_2 rfl rfl rfl rfl (Nat.le_of_ble_eq_true rfl) dX11_fieldAt_10 ⟨Nat.le_of_ble_eq_true rfl, Nat.le_of_ble_eq_true rfl⟩ (fun v2 Φ2 sz2 st2 hp2 hs2 => ?_)
  obtain ⟨rfl, hq2, fr2⟩ := hp2
  replace hq2 : sz2 = sz := hq2
  subst sz2
  replace hs2 : st2 = [.ref (x + 8)] := hs2
  subst st2
  refine z_iload_n B dX11_fieldAt_13 rfl 2 rfl ?_
  have h_4 : Φ2 (x + 8) = some (o_ 12 [.ref (x + 9), .int 9, .int 511, .int 29]) := ((fr2 (x + 8)).trans ((fr1 (x + 8)).trans hc8_))
  have h_5 : Φ2 (x + 9) = some (ai_ G 9 (upd (upd (upd (upd (upd (upd (upd (upd (upd (fun _ => 0) (0 : Int32).toNatClampNeg 0) (1 : Int32).toNatClampNeg 1) (2 : Int32).toNatClampNeg 2) (3 : Int32).toNatClampNeg 3) (4 : Int32).toNatClampNeg 4) (5 : Int32).toNatClampNeg 5) (6 : Int32).toNatClampNeg 6) (7 : Int32).toNatClampNeg 7) (8 : Int32).toNatClampNeg 8)) := ((fr2 (x + 9)).trans ((fr1 (x + 9)).trans hc9_))
  refine z_callV (As := [.int 1]) (rest := []) B (f_X10_field_1 G l Φ2 sz x h_4 h_5) (cwV 1 B.1.2.2.2.2 gX11_fieldAt_X10_field rfl rfl rfl (by decide +kernel) ⟨Nat.le_of_ble_eq_true rfl, Nat.le_of_ble_eq_true rfl⟩) h_4 rfl rfl rfl rfl (Nat.le_of_ble_eq_true rfl) dX11_fieldAt_14 ⟨Nat.le_of_ble_eq_true rfl, Nat.le_of_ble_eq_true rfl⟩ (fun v3 Φ3 sz3 st3 hp3 hs3 => ?_)
  obtain ⟨rfl, hq3, fr3⟩ := hp3
  replace hq3 : sz3 = sz := hq3
  subst sz3
  replace hs3 : st3 = [.int 1] := hs3
  subst st3
  exact z_ret_i B dX11_fieldAt_17 ⟨rfl, fun b9 h9 => ((fr3 b9).trans ((fr2 b9).trans ((fr1 b9).trans rfl)))⟩

set_option maxHeartbeats 4000000 in
set_option maxRecDepth 100000 in
theorem f_X10_field_2 (G : EnvG) (l : Launch) (Φ : Hm) (sz : Nat) (x : Nat) (hc8_ : Φ (x + 8) = some (o_ 12 [.ref (x + 9), .int 9, .int 511, .int 29])) (hc9_ : Φ (x + 9) = some (ai_ G 9 (upd (upd (upd (upd (upd (upd (upd (upd (upd (fun _ => 0) (0 : Int32).toNatClampNeg 0) (1 : Int32).toNatClampNeg 1) (2 : Int32).toNatClampNeg 2) (3 : Int32).toNatClampNeg 3) (4 : Int32).toNatClampNeg 4) (5 : Int32).toNatClampNeg 5) (6 : Int32).toNatClampNeg 6) (7 : Int32).toNatClampNeg 7) (8 : Int32).toNatClampNeg 8))) : Ct G l yX10_field wsX10_field ({ frames := 0, cells := 0, slots := 0, locals := 0 }) 0 0 [.ref (x + 8), .int 2] Φ sz (fun v Φ1 sz1 => v = some (.int 2) ∧ sz1 = sz ∧ (∀ b9 : Nat, Φ1 b9 = Φ b9)) := by
  refine Ct.of (cc := cX10_field) (maxL := 2) (ret := (some .int)) (by decide) rfl (Nat.le_of_ble_eq_true rfl) ?_
  intro p9 e9 s9 m9 w9 t9 k9 B
  show Z p9 l e9 _ s9 m9 _ w9 t9 k9 _ G 2 0 [(0, .ref (x + 8)), (1, .int 2)] [] Φ sz 0 0
  refine z_iload_n B dX10_field_0 rfl 1 rfl ?_
  refine z_if_lt (tgt := 21) B dX10_field_1 rfl (fun h9 => absurd h9 (by decide)) (fun c_1 => ?_)
  refine z_iload_n B dX10_field_4 rfl 1 rfl ?_
  refine z_aload_n B dX10_field_5 rfl 0 rfl ?_
  refine z_get (ref := "FlowExporter$Template") (C := RX10) (T := TX10) (N := 4) (ci := 12) (v := .int 9) B (by decide +kernel) rfl 1 (by decide) (by decide +kernel) rfl hc8_ rfl dX10_field_6 ?_
  refine z_icmp_ge (tgt := 21) B dX10_field_9 rfl (fun h9 => absurd h9 (by decide)) (fun c_2 => ?_)
  refine z_aload_n B dX10_field_12 rfl 0 rfl ?_
  refine z_get (ref := "FlowExporter$Template") (C := RX10) (T := TX10) (N := 4) (ci := 12) (v := .ref (x + 9)) B (by decide +kernel) rfl 0 (by decide) (by decide +kernel) rfl hc8_ rfl dX10_field_13 ?_
  refine z_iload_n B dX10_field_16 rfl 1 rfl ?_
  refine z_iald B hc9_ (vin rfl) dX10_field_17 ?_
  refine z_top (st1 := [.int 2]) (by rfl) ?_
  refine z_goto (tgt := 22) B dX10_field_18 rfl ?_
  exact z_ret_i B dX10_field_22 ⟨rfl, rfl, (fun b9 => rfl)⟩

set_option maxHeartbeats 4000000 in
set_option maxRecDepth 100000 in
theorem f_X11_fieldAt_2 (G : EnvG) (l : Launch) (Φ : Hm) (sz : Nat) (x : Nat) (hc0_ : Φ x = some (o_ 13 [.ref (x + 1), .ref (x + 3), .ref (x + 24), .ref (x + 46), .ref (x + 74), .ref (x + 80), .ref (x + 132), .ref (x + 121)])) (hc3_ : Φ (x + 3) = some (o_ 3 [.ref (x + 4), .ref (x + 5), .ref (x + 6), .ref (x + 7), .int 1, .int 511])) (hc6_ : Φ (x + 6) = some (aq_ G 4 4 (va_up (va_up (va_up (va_up (fun _ => none) (0 : Int32).toNatClampNeg (some (x + 8))) (1 : Int32).toNatClampNeg (some (x + 12))) (2 : Int32).toNatClampNeg (some (x + 16))) (3 : Int32).toNatClampNeg (some (x + 20))))) (hc8_ : Φ (x + 8) = some (o_ 12 [.ref (x + 9), .int 9, .int 511, .int 29])) (hc9_ : Φ (x + 9) = some (ai_ G 9 (upd (upd (upd (upd (upd (upd (upd (upd (upd (fun _ => 0) (0 : Int32).toNatClampNeg 0) (1 : Int32).toNatClampNeg 1) (2 : Int32).toNatClampNeg 2) (3 : Int32).toNatClampNeg 3) (4 : Int32).toNatClampNeg 4) (5 : Int32).toNatClampNeg 5) (6 : Int32).toNatClampNeg 6) (7 : Int32).toNatClampNeg 7) (8 : Int32).toNatClampNeg 8))) : Ct G l yX11_fieldAt wsX11_fieldAt ({ frames := 1, cells := 0, slots := 0, locals := 21 }) 0 0 [.ref x, .int 0, .int 2] Φ sz (fun v Φ1 sz1 => v = some (.int 2) ∧ ∀ b9 : Nat, x + 149 ≤ b9 → Φ1 b9 = Φ b9) := by
  refine Ct.of (cc := cX11_fieldAt) (maxL := 3) (ret := (some .int)) (by decide) rfl (Nat.le_of_ble_eq_true rfl) ?_
  intro p9 e9 s9 m9 w9 t9 k9 B
  show Z p9 l e9 _ s9 m9 _ w9 t9 k9 _ G 3 0 [(0, .ref x), (1, .int 0), (2, .int 2)] [] Φ sz 0 0
  refine z_aload_n B dX11_fieldAt_0 rfl 0 rfl ?_
  refine z_iload_n B dX11_fieldAt_1 rfl 1 rfl ?_
  refine z_callV (As := [.int 0]) (rest := []) B (f_X11_requireTemplate_0 G l Φ sz x hc0_ hc3_) (cwV 1 B.1.2.2.2.2 gX11_fieldAt_X11_requireTemplate rfl rfl rfl (by decide +kernel) ⟨Nat.le_of_ble_eq_true rfl, Nat.le_of_ble_eq_true rfl⟩) hc0_ rfl rfl rfl rfl (Nat.le_of_ble_eq_true rfl) dX11_fieldAt_2 ⟨Nat.le_of_ble_eq_true rfl, Nat.le_of_ble_eq_true rfl⟩ (fun v1 Φ1 sz1 st1 hp1 hs1 => ?_)
  obtain ⟨rfl, hq1, fr1⟩ := hp1
  replace hq1 : sz1 = sz := hq1
  subst sz1
  replace hs1 : st1 = [] := hs1
  subst st1
  refine z_aload_n B dX11_fieldAt_5 rfl 0 rfl ?_
  have h_1 : Φ1 x = some (o_ 13 [.ref (x + 1), .ref (x + 3), .ref (x + 24), .ref (x + 46), .ref (x + 74), .ref (x + 80), .ref (x + 132), .ref (x + 121)]) := ((fr1 x).trans hc0_)
  refine z_get (ref := "FlowExporter") (C := RX11) (T := TX11) (N := 8) (ci := 13) (v := .ref (x + 3)) B (by decide +kernel) rfl 1 (by decide) (by decide +kernel) rfl h_1 rfl dX11_fieldAt_6 ?_
  refine z_iload_n B dX11_fieldAt_9 rfl 1 rfl ?_
  have h_2 : Φ1 (x + 3) = some (o_ 3 [.ref (x + 4), .ref (x + 5), .ref (x + 6), .ref (x + 7), .int 1, .int 511]) := ((fr1 (x + 3)).trans hc3_)
  have h_3 : Φ1 (x + 6) = some (aq_ G 4 4 (va_up (va_up (va_up (va_up (fun _ => none) (0 : Int32).toNatClampNeg (some (x + 8))) (1 : Int32).toNatClampNeg (some (x + 12))) (2 : Int32).toNatClampNeg (some (x + 16))) (3 : Int32).toNatClampNeg (some (x + 20)))) := ((fr1 (x + 6)).trans hc6_)
  refine z_callV (As := [.int 0]) (rest := []) B (f_X1_template_0 G l Φ1 sz x h_2 h_3) (cwV 1 B.1.2.2.2.2 gX11_fieldAt_X1_template rfl rfl rfl (by decide +kernel) ⟨Nat.le_of_ble_eq_true rfl, Nat.le_of_ble_eq_true rfl⟩) h_2 rfl rfl rfl rfl (Nat.le_of_ble_eq_true rfl) dX11_fieldAt_10 ⟨Nat.le_of_ble_eq_true rfl, Nat.le_of_ble_eq_true rfl⟩ (fun v2 Φ2 sz2 st2 hp2 hs2 => ?_)
  obtain ⟨rfl, hq2, fr2⟩ := hp2
  replace hq2 : sz2 = sz := hq2
  subst sz2
  replace hs2 : st2 = [.ref (x + 8)] := hs2
  subst st2
  refine z_iload_n B dX11_fieldAt_13 rfl 2 rfl ?_
  have h_4 : Φ2 (x + 8) = some (o_ 12 [.ref (x + 9), .int 9, .int 511, .int 29]) := ((fr2 (x + 8)).trans ((fr1 (x + 8)).trans hc8_))
  have h_5 : Φ2 (x + 9) = some (ai_ G 9 (upd (upd (upd (upd (upd (upd (upd (upd (upd (fun _ => 0) (0 : Int32).toNatClampNeg 0) (1 : Int32).toNatClampNeg 1) (2 : Int32).toNatClampNeg 2) (3 : Int32).toNatClampNeg 3) (4 : Int32).toNatClampNeg 4) (5 : Int32).toNatClampNeg 5) (6 : Int32).toNatClampNeg 6) (7 : Int32).toNatClampNeg 7) (8 : Int32).toNatClampNeg 8)) := ((fr2 (x + 9)).trans ((fr1 (x + 9)).trans hc9_))
  refine z_callV (As := [.int 2]) (rest := []) B (f_X10_field_2 G l Φ2 sz x h_4 h_5) (cwV 1 B.1.2.2.2.2 gX11_fieldAt_X10_field rfl rfl rfl (by decide +kernel) ⟨Nat.le_of_ble_eq_true rfl, Nat.le_of_ble_eq_true rfl⟩) h_4 rfl rfl rfl rfl (Nat.le_of_ble_eq_true rfl) dX11_fieldAt_14 ⟨Nat.le_of_ble_eq_true rfl, Nat.le_of_ble_eq_true rfl⟩ (fun v3 Φ3 sz3 st3 hp3 hs3 => ?_)
  obtain ⟨rfl, hq3, fr3⟩ := hp3
  replace hq3 : sz3 = sz := hq3
  subst sz3
  replace hs3 : st3 = [.int 2] := hs3
  subst st3
  exact z_ret_i B dX11_fieldAt_17 ⟨rfl, fun b9 h9 => ((fr3 b9).trans ((fr2 b9).trans ((fr1 b9).trans rfl)))⟩

set_option maxHeartbeats 4000000 in
set_option maxRecDepth 100000 in
theorem f_X10_field_3 (G : EnvG) (l : Launch) (Φ : Hm) (sz : Nat) (x : Nat) (hc8_ : Φ (x + 8) = some (o_ 12 [.ref (x + 9), .int 9, .int 511, .int 29])) (hc9_ : Φ (x + 9) = some (ai_ G 9 (upd (upd (upd (upd (upd (upd (upd (upd (upd (fun _ => 0) (0 : Int32).toNatClampNeg 0) (1 : Int32).toNatClampNeg 1) (2 : Int32).toNatClampNeg 2) (3 : Int32).toNatClampNeg 3) (4 : Int32).toNatClampNeg 4) (5 : Int32).toNatClampNeg 5) (6 : Int32).toNatClampNeg 6) (7 : Int32).toNatClampNeg 7) (8 : Int32).toNatClampNeg 8))) : Ct G l yX10_field wsX10_field ({ frames := 0, cells := 0, slots := 0, locals := 0 }) 0 0 [.ref (x + 8), .int 3] Φ sz (fun v Φ1 sz1 => v = some (.int 3) ∧ sz1 = sz ∧ (∀ b9 : Nat, Φ1 b9 = Φ b9)) := by
  refine Ct.of (cc := cX10_field) (maxL := 2) (ret := (some .int)) (by decide) rfl (Nat.le_of_ble_eq_true rfl) ?_
  intro p9 e9 s9 m9 w9 t9 k9 B
  show Z p9 l e9 _ s9 m9 _ w9 t9 k9 _ G 2 0 [(0, .ref (x + 8)), (1, .int 3)] [] Φ sz 0 0
  refine z_iload_n B dX10_field_0 rfl 1 rfl ?_
  refine z_if_lt (tgt := 21) B dX10_field_1 rfl (fun h9 => absurd h9 (by decide)) (fun c_1 => ?_)
  refine z_iload_n B dX10_field_4 rfl 1 rfl ?_
  refine z_aload_n B dX10_field_5 rfl 0 rfl ?_
  refine z_get (ref := "FlowExporter$Template") (C := RX10) (T := TX10) (N := 4) (ci := 12) (v := .int 9) B (by decide +kernel) rfl 1 (by decide) (by decide +kernel) rfl hc8_ rfl dX10_field_6 ?_
  refine z_icmp_ge (tgt := 21) B dX10_field_9 rfl (fun h9 => absurd h9 (by decide)) (fun c_2 => ?_)
  refine z_aload_n B dX10_field_12 rfl 0 rfl ?_
  refine z_get (ref := "FlowExporter$Template") (C := RX10) (T := TX10) (N := 4) (ci := 12) (v := .ref (x + 9)) B (by decide +kernel) rfl 0 (by decide) (by decide +kernel) rfl hc8_ rfl dX10_field_13 ?_
  refine z_iload_n B dX10_field_16 rfl 1 rfl ?_
  refine z_iald B hc9_ (vin rfl) dX10_field_17 ?_
  refine z_top (st1 := [.int 3]) (by rfl) ?_
  refine z_goto (tgt := 22) B dX10_field_18 rfl ?_
  exact z_ret_i B dX10_field_22 ⟨rfl, rfl, (fun b9 => rfl)⟩

set_option maxHeartbeats 4000000 in
set_option maxRecDepth 100000 in
theorem f_X11_fieldAt_3 (G : EnvG) (l : Launch) (Φ : Hm) (sz : Nat) (x : Nat) (hc0_ : Φ x = some (o_ 13 [.ref (x + 1), .ref (x + 3), .ref (x + 24), .ref (x + 46), .ref (x + 74), .ref (x + 80), .ref (x + 132), .ref (x + 121)])) (hc3_ : Φ (x + 3) = some (o_ 3 [.ref (x + 4), .ref (x + 5), .ref (x + 6), .ref (x + 7), .int 1, .int 511])) (hc6_ : Φ (x + 6) = some (aq_ G 4 4 (va_up (va_up (va_up (va_up (fun _ => none) (0 : Int32).toNatClampNeg (some (x + 8))) (1 : Int32).toNatClampNeg (some (x + 12))) (2 : Int32).toNatClampNeg (some (x + 16))) (3 : Int32).toNatClampNeg (some (x + 20))))) (hc8_ : Φ (x + 8) = some (o_ 12 [.ref (x + 9), .int 9, .int 511, .int 29])) (hc9_ : Φ (x + 9) = some (ai_ G 9 (upd (upd (upd (upd (upd (upd (upd (upd (upd (fun _ => 0) (0 : Int32).toNatClampNeg 0) (1 : Int32).toNatClampNeg 1) (2 : Int32).toNatClampNeg 2) (3 : Int32).toNatClampNeg 3) (4 : Int32).toNatClampNeg 4) (5 : Int32).toNatClampNeg 5) (6 : Int32).toNatClampNeg 6) (7 : Int32).toNatClampNeg 7) (8 : Int32).toNatClampNeg 8))) : Ct G l yX11_fieldAt wsX11_fieldAt ({ frames := 1, cells := 0, slots := 0, locals := 21 }) 0 0 [.ref x, .int 0, .int 3] Φ sz (fun v Φ1 sz1 => v = some (.int 3) ∧ ∀ b9 : Nat, x + 149 ≤ b9 → Φ1 b9 = Φ b9) := by
  refine Ct.of (cc := cX11_fieldAt) (maxL := 3) (ret := (some .int)) (by decide) rfl (Nat.le_of_ble_eq_true rfl) ?_
  intro p9 e9 s9 m9 w9 t9 k9 B
  show Z p9 l e9 _ s9 m9 _ w9 t9 k9 _ G 3 0 [(0, .ref x), (1, .int 0), (2, .int 3)] [] Φ sz 0 0
  refine z_aload_n B dX11_fieldAt_0 rfl 0 rfl ?_
  refine z_iload_n B dX11_fieldAt_1 rfl 1 rfl ?_
  refine z_callV (As := [.int 0]) (rest := []) B (f_X11_requireTemplate_0 G l Φ sz x hc0_ hc3_) (cwV 1 B.1.2.2.2.2 gX11_fieldAt_X11_requireTemplate rfl rfl rfl (by decide +kernel) ⟨Nat.le_of_ble_eq_true rfl, Nat.le_of_ble_eq_true rfl⟩) hc0_ rfl rfl rfl rfl (Nat.le_of_ble_eq_true rfl) dX11_fieldAt_2 ⟨Nat.le_of_ble_eq_true rfl, Nat.le_of_ble_eq_true rfl⟩ (fun v1 Φ1 sz1 st1 hp1 hs1 => ?_)
  obtain ⟨rfl, hq1, fr1⟩ := hp1
  replace hq1 : sz1 = sz := hq1
  subst sz1
  replace hs1 : st1 = [] := hs1
  subst st1
  refine z_aload_n B dX11_fieldAt_5 rfl 0 rfl ?_
  have h_1 : Φ1 x = some (o_ 13 [.ref (x + 1), .ref (x + 3), .ref (x + 24), .ref (x + 46), .ref (x + 74), .ref (x + 80), .ref (x + 132), .ref (x + 121)]) := ((fr1 x).trans hc0_)
  refine z_get (ref := "FlowExporter") (C := RX11) (T := TX11) (N := 8) (ci := 13) (v := .ref (x + 3)) B (by decide +kernel) rfl 1 (by decide) (by decide +kernel) rfl h_1 rfl dX11_fieldAt_6 ?_
  refine z_iload_n B dX11_fieldAt_9 rfl 1 rfl ?_
  have h_2 : Φ1 (x + 3) = some (o_ 3 [.ref (x + 4), .ref (x + 5), .ref (x + 6), .ref (x + 7), .int 1, .int 511]) := ((fr1 (x + 3)).trans hc3_)
  have h_3 : Φ1 (x + 6) = some (aq_ G 4 4 (va_up (va_up (va_up (va_up (fun _ => none) (0 : Int32).toNatClampNeg (some (x + 8))) (1 : Int32).toNatClampNeg (some (x + 12))) (2 : Int32).toNatClampNeg (some (x + 16))) (3 : Int32).toNatClampNeg (some (x + 20)))) := ((fr1 (x + 6)).trans hc6_)
  refine z_callV (As := [.int 0]) (rest := []) B (f_X1_template_0 G l Φ1 sz x h_2 h_3) (cwV 1 B.1.2.2.2.2 gX11_fieldAt_X1_template rfl rfl rfl (by decide +kernel) ⟨Nat.le_of_ble_eq_true rfl, Nat.le_of_ble_eq_true rfl⟩) h_2 rfl rfl rfl rfl (Nat.le_of_ble_eq_true rfl) dX11_fieldAt_10 ⟨Nat.le_of_ble_eq_true rfl, Nat.le_of_ble_eq_true rfl⟩ (fun v2 Φ2 sz2 st2 hp2 hs2 => ?_)
  obtain ⟨rfl, hq2, fr2⟩ := hp2
  replace hq2 : sz2 = sz := hq2
  subst sz2
  replace hs2 : st2 = [.ref (x + 8)] := hs2
  subst st2
  refine z_iload_n B dX11_fieldAt_13 rfl 2 rfl ?_
  have h_4 : Φ2 (x + 8) = some (o_ 12 [.ref (x + 9), .int 9, .int 511, .int 29]) := ((fr2 (x + 8)).trans ((fr1 (x + 8)).trans hc8_))
  have h_5 : Φ2 (x + 9) = some (ai_ G 9 (upd (upd (upd (upd (upd (upd (upd (upd (upd (fun _ => 0) (0 : Int32).toNatClampNeg 0) (1 : Int32).toNatClampNeg 1) (2 : Int32).toNatClampNeg 2) (3 : Int32).toNatClampNeg 3) (4 : Int32).toNatClampNeg 4) (5 : Int32).toNatClampNeg 5) (6 : Int32).toNatClampNeg 6) (7 : Int32).toNatClampNeg 7) (8 : Int32).toNatClampNeg 8)) := ((fr2 (x + 9)).trans ((fr1 (x + 9)).trans hc9_))
  refine z_callV (As := [.int 3]) (rest := []) B (f_X10_field_3 G l Φ2 sz x h_4 h_5) (cwV 1 B.1.2.2.2.2 gX11_fieldAt_X10_field rfl rfl rfl (by decide +kernel) ⟨Nat.le_of_ble_eq_true rfl, Nat.le_of_ble_eq_true rfl⟩) h_4 rfl rfl rfl rfl (Nat.le_of_ble_eq_true rfl) dX11_fieldAt_14 ⟨Nat.le_of_ble_eq_true rfl, Nat.le_of_ble_eq_true rfl⟩ (fun v3 Φ3 sz3 st3 hp3 hs3 => ?_)
  obtain ⟨rfl, hq3, fr3⟩ := hp3
  replace hq3 : sz3 = sz := hq3
  subst sz3
  replace hs3 : st3 = [.int 3] := hs3
  subst st3
  exact z_ret_i B dX11_fieldAt_17 ⟨rfl, fun b9 h9 => ((fr3 b9).trans ((fr2 b9).trans ((fr1 b9).trans rfl)))⟩

set_option maxHeartbeats 4000000 in
set_option maxRecDepth 100000 in
theorem f_X10_field_4 (G : EnvG) (l : Launch) (Φ : Hm) (sz : Nat) (x : Nat) (hc8_ : Φ (x + 8) = some (o_ 12 [.ref (x + 9), .int 9, .int 511, .int 29])) (hc9_ : Φ (x + 9) = some (ai_ G 9 (upd (upd (upd (upd (upd (upd (upd (upd (upd (fun _ => 0) (0 : Int32).toNatClampNeg 0) (1 : Int32).toNatClampNeg 1) (2 : Int32).toNatClampNeg 2) (3 : Int32).toNatClampNeg 3) (4 : Int32).toNatClampNeg 4) (5 : Int32).toNatClampNeg 5) (6 : Int32).toNatClampNeg 6) (7 : Int32).toNatClampNeg 7) (8 : Int32).toNatClampNeg 8))) : Ct G l yX10_field wsX10_field ({ frames := 0, cells := 0, slots := 0, locals := 0 }) 0 0 [.ref (x + 8), .int 4] Φ sz (fun v Φ1 sz1 => v = some (.int 4) ∧ sz1 = sz ∧ (∀ b9 : Nat, Φ1 b9 = Φ b9)) := by
  refine Ct.of (cc := cX10_field) (maxL := 2) (ret := (some .int)) (by decide) rfl (Nat.le_of_ble_eq_true rfl) ?_
  intro p9 e9 s9 m9 w9 t9 k9 B
  show Z p9 l e9 _ s9 m9 _ w9 t9 k9 _ G 2 0 [(0, .ref (x + 8)), (1, .int 4)] [] Φ sz 0 0
  refine z_iload_n B dX10_field_0 rfl 1 rfl ?_
  refine z_if_lt (tgt := 21) B dX10_field_1 rfl (fun h9 => absurd h9 (by decide)) (fun c_1 => ?_)
  refine z_iload_n B dX10_field_4 rfl 1 rfl ?_
  refine z_aload_n B dX10_field_5 rfl 0 rfl ?_
  refine z_get (ref := "FlowExporter$Template") (C := RX10) (T := TX10) (N := 4) (ci := 12) (v := .int 9) B (by decide +kernel) rfl 1 (by decide) (by decide +kernel) rfl hc8_ rfl dX10_field_6 ?_
  refine z_icmp_ge (tgt := 21) B dX10_field_9 rfl (fun h9 => absurd h9 (by decide)) (fun c_2 => ?_)
  refine z_aload_n B dX10_field_12 rfl 0 rfl ?_
  refine z_get (ref := "FlowExporter$Template") (C := RX10) (T := TX10) (N := 4) (ci := 12) (v := .ref (x + 9)) B (by decide +kernel) rfl 0 (by decide) (by decide +kernel) rfl hc8_ rfl dX10_field_13 ?_
  refine z_iload_n B dX10_field_16 rfl 1 rfl ?_
  refine z_iald B hc9_ (vin rfl) dX10_field_17 ?_
  refine z_top (st1 := [.int 4]) (by rfl) ?_
  refine z_goto (tgt := 22) B dX10_field_18 rfl ?_
  exact z_ret_i B dX10_field_22 ⟨rfl, rfl, (fun b9 => rfl)⟩

set_option maxHeartbeats 4000000 in
set_option maxRecDepth 100000 in
theorem f_X11_fieldAt_4 (G : EnvG) (l : Launch) (Φ : Hm) (sz : Nat) (x : Nat) (hc0_ : Φ x = some (o_ 13 [.ref (x + 1), .ref (x + 3), .ref (x + 24), .ref (x + 46), .ref (x + 74), .ref (x + 80), .ref (x + 132), .ref (x + 121)])) (hc3_ : Φ (x + 3) = some (o_ 3 [.ref (x + 4), .ref (x + 5), .ref (x + 6), .ref (x + 7), .int 1, .int 511])) (hc6_ : Φ (x + 6) = some (aq_ G 4 4 (va_up (va_up (va_up (va_up (fun _ => none) (0 : Int32).toNatClampNeg (some (x + 8))) (1 : Int32).toNatClampNeg (some (x + 12))) (2 : Int32).toNatClampNeg (some (x + 16))) (3 : Int32).toNatClampNeg (some (x + 20))))) (hc8_ : Φ (x + 8) = some (o_ 12 [.ref (x + 9), .int 9, .int 511, .int 29])) (hc9_ : Φ (x + 9) = some (ai_ G 9 (upd (upd (upd (upd (upd (upd (upd (upd (upd (fun _ => 0) (0 : Int32).toNatClampNeg 0) (1 : Int32).toNatClampNeg 1) (2 : Int32).toNatClampNeg 2) (3 : Int32).toNatClampNeg 3) (4 : Int32).toNatClampNeg 4) (5 : Int32).toNatClampNeg 5) (6 : Int32).toNatClampNeg 6) (7 : Int32).toNatClampNeg 7) (8 : Int32).toNatClampNeg 8))) : Ct G l yX11_fieldAt wsX11_fieldAt ({ frames := 1, cells := 0, slots := 0, locals := 21 }) 0 0 [.ref x, .int 0, .int 4] Φ sz (fun v Φ1 sz1 => v = some (.int 4) ∧ ∀ b9 : Nat, x + 149 ≤ b9 → Φ1 b9 = Φ b9) := by
  refine Ct.of (cc := cX11_fieldAt) (maxL := 3) (ret := (some .int)) (by decide) rfl (Nat.le_of_ble_eq_true rfl) ?_
  intro p9 e9 s9 m9 w9 t9 k9 B
  show Z p9 l e9 _ s9 m9 _ w9 t9 k9 _ G 3 0 [(0, .ref x), (1, .int 0), (2, .int 4)] [] Φ sz 0 0
  refine z_aload_n B dX11_fieldAt_0 rfl 0 rfl ?_
  refine z_iload_n B dX11_fieldAt_1 rfl 1 rfl ?_
  refine z_callV (As := [.int 0]) (rest := []) B (f_X11_requireTemplate_0 G l Φ sz x hc0_ hc3_) (cwV 1 B.1.2.2.2.2 gX11_fieldAt_X11_requireTemplate rfl rfl rfl (by decide +kernel) ⟨Nat.le_of_ble_eq_true rfl, Nat.le_of_ble_eq_true rfl⟩) hc0_ rfl rfl rfl rfl (Nat.le_of_ble_eq_true rfl) dX11_fieldAt_2 ⟨Nat.le_of_ble_eq_true rfl, Nat.le_of_ble_eq_true rfl⟩ (fun v1 Φ1 sz1 st1 hp1 hs1 => ?_)
  obtain ⟨rfl, hq1, fr1⟩ := hp1
  replace hq1 : sz1 = sz := hq1
  subst sz1
  replace hs1 : st1 = [] := hs1
  subst st1
  refine z_aload_n B dX11_fieldAt_5 rfl 0 rfl ?_
  have h_1 : Φ1 x = some (o_ 13 [.ref (x + 1), .ref (x + 3), .ref (x + 24), .ref (x + 46), .ref (x + 74), .ref (x + 80), .ref (x + 132), .ref (x + 121)]) := ((fr1 x).trans hc0_)
  refine z_get (ref := "FlowExporter") (C := RX11) (T := TX11) (N := 8) (ci := 13) (v := .ref (x + 3)) B (by decide +kernel) rfl 1 (by decide) (by decide +kernel) rfl h_1 rfl dX11_fieldAt_6 ?_
  refine z_iload_n B dX11_fieldAt_9 rfl 1 rfl ?_
  have h_2 : Φ1 (x + 3) = some (o_ 3 [.ref (x + 4), .ref (x + 5), .ref (x + 6), .ref (x + 7), .int 1, .int 511]) := ((fr1 (x + 3)).trans hc3_)
  have h_3 : Φ1 (x + 6) = some (aq_ G 4 4 (va_up (va_up (va_up (va_up (fun _ => none) (0 : Int32).toNatClampNeg (some (x + 8))) (1 : Int32).toNatClampNeg (some (x + 12))) (2 : Int32).toNatClampNeg (some (x + 16))) (3 : Int32).toNatClampNeg (some (x + 20)))) := ((fr1 (x + 6)).trans hc6_)
  refine z_callV (As := [.int 0]) (rest := []) B (f_X1_template_0 G l Φ1 sz x h_2 h_3) (cwV 1 B.1.2.2.2.2 gX11_fieldAt_X1_template rfl rfl rfl (by decide +kernel) ⟨Nat.le_of_ble_eq_true rfl, Nat.le_of_ble_eq_true rfl⟩) h_2 rfl rfl rfl rfl (Nat.le_of_ble_eq_true rfl) dX11_fieldAt_10 ⟨Nat.le_of_ble_eq_true rfl, Nat.le_of_ble_eq_true rfl⟩ (fun v2 Φ2 sz2 st2 hp2 hs2 => ?_)
  obtain ⟨rfl, hq2, fr2⟩ := hp2
  replace hq2 : sz2 = sz := hq2
  subst sz2
  replace hs2 : st2 = [.ref (x + 8)] := hs2
  subst st2
  refine z_iload_n B dX11_fieldAt_13 rfl 2 rfl ?_
  have h_4 : Φ2 (x + 8) = some (o_ 12 [.ref (x + 9), .int 9, .int 511, .int 29]) := ((fr2 (x + 8)).trans ((fr1 (x + 8)).trans hc8_))
  have h_5 : Φ2 (x + 9) = some (ai_ G 9 (upd (upd (upd (upd (upd (upd (upd (upd (upd (fun _ => 0) (0 : Int32).toNatClampNeg 0) (1 : Int32).toNatClampNeg 1) (2 : Int32).toNatClampNeg 2) (3 : Int32).toNatClampNeg 3) (4 : Int32).toNatClampNeg 4) (5 : Int32).toNatClampNeg 5) (6 : Int32).toNatClampNeg 6) (7 : Int32).toNatClampNeg 7) (8 : Int32).toNatClampNeg 8)) := ((fr2 (x + 9)).trans ((fr1 (x + 9)).trans hc9_))
  refine z_callV (As := [.int 4]) (rest := []) B (f_X10_field_4 G l Φ2 sz x h_4 h_5) (cwV 1 B.1.2.2.2.2 gX11_fieldAt_X10_field rfl rfl rfl (by decide +kernel) ⟨Nat.le_of_ble_eq_true rfl, Nat.le_of_ble_eq_true rfl⟩) h_4 rfl rfl rfl rfl (Nat.le_of_ble_eq_true rfl) dX11_fieldAt_14 ⟨Nat.le_of_ble_eq_true rfl, Nat.le_of_ble_eq_true rfl⟩ (fun v3 Φ3 sz3 st3 hp3 hs3 => ?_)
  obtain ⟨rfl, hq3, fr3⟩ := hp3
  replace hq3 : sz3 = sz := hq3
  subst sz3
  replace hs3 : st3 = [.int 4] := hs3
  subst st3
  exact z_ret_i B dX11_fieldAt_17 ⟨rfl, fun b9 h9 => ((fr3 b9).trans ((fr2 b9).trans ((fr1 b9).trans rfl)))⟩

set_option maxHeartbeats 4000000 in
set_option maxRecDepth 100000 in
theorem f_X10_field_5 (G : EnvG) (l : Launch) (Φ : Hm) (sz : Nat) (x : Nat) (hc8_ : Φ (x + 8) = some (o_ 12 [.ref (x + 9), .int 9, .int 511, .int 29])) (hc9_ : Φ (x + 9) = some (ai_ G 9 (upd (upd (upd (upd (upd (upd (upd (upd (upd (fun _ => 0) (0 : Int32).toNatClampNeg 0) (1 : Int32).toNatClampNeg 1) (2 : Int32).toNatClampNeg 2) (3 : Int32).toNatClampNeg 3) (4 : Int32).toNatClampNeg 4) (5 : Int32).toNatClampNeg 5) (6 : Int32).toNatClampNeg 6) (7 : Int32).toNatClampNeg 7) (8 : Int32).toNatClampNeg 8))) : Ct G l yX10_field wsX10_field ({ frames := 0, cells := 0, slots := 0, locals := 0 }) 0 0 [.ref (x + 8), .int 5] Φ sz (fun v Φ1 sz1 => v = some (.int 5) ∧ sz1 = sz ∧ (∀ b9 : Nat, Φ1 b9 = Φ b9)) := by
  refine Ct.of (cc := cX10_field) (maxL := 2) (ret := (some .int)) (by decide) rfl (Nat.le_of_ble_eq_true rfl) ?_
  intro p9 e9 s9 m9 w9 t9 k9 B
  show Z p9 l e9 _ s9 m9 _ w9 t9 k9 _ G 2 0 [(0, .ref (x + 8)), (1, .int 5)] [] Φ sz 0 0
  refine z_iload_n B dX10_field_0 rfl 1 rfl ?_
  refine z_if_lt (tgt := 21) B dX10_field_1 rfl (fun h9 => absurd h9 (by decide)) (fun c_1 => ?_)
  refine z_iload_n B dX10_field_4 rfl 1 rfl ?_
  refine z_aload_n B dX10_field_5 rfl 0 rfl ?_
  refine z_get (ref := "FlowExporter$Template") (C := RX10) (T := TX10) (N := 4) (ci := 12) (v := .int 9) B (by decide +kernel) rfl 1 (by decide) (by decide +kernel) rfl hc8_ rfl dX10_field_6 ?_
  refine z_icmp_ge (tgt := 21) B dX10_field_9 rfl (fun h9 => absurd h9 (by decide)) (fun c_2 => ?_)
  refine z_aload_n B dX10_field_12 rfl 0 rfl ?_
  refine z_get (ref := "FlowExporter$Template") (C := RX10) (T := TX10) (N := 4) (ci := 12) (v := .ref (x + 9)) B (by decide +kernel) rfl 0 (by decide) (by decide +kernel) rfl hc8_ rfl dX10_field_13 ?_
  refine z_iload_n B dX10_field_16 rfl 1 rfl ?_
  refine z_iald B hc9_ (vin rfl) dX10_field_17 ?_
  refine z_top (st1 := [.int 5]) (by rfl) ?_
  refine z_goto (tgt := 22) B dX10_field_18 rfl ?_
  exact z_ret_i B dX10_field_22 ⟨rfl, rfl, (fun b9 => rfl)⟩

set_option maxHeartbeats 4000000 in
set_option maxRecDepth 100000 in
theorem f_X11_fieldAt_5 (G : EnvG) (l : Launch) (Φ : Hm) (sz : Nat) (x : Nat) (hc0_ : Φ x = some (o_ 13 [.ref (x + 1), .ref (x + 3), .ref (x + 24), .ref (x + 46), .ref (x + 74), .ref (x + 80), .ref (x + 132), .ref (x + 121)])) (hc3_ : Φ (x + 3) = some (o_ 3 [.ref (x + 4), .ref (x + 5), .ref (x + 6), .ref (x + 7), .int 1, .int 511])) (hc6_ : Φ (x + 6) = some (aq_ G 4 4 (va_up (va_up (va_up (va_up (fun _ => none) (0 : Int32).toNatClampNeg (some (x + 8))) (1 : Int32).toNatClampNeg (some (x + 12))) (2 : Int32).toNatClampNeg (some (x + 16))) (3 : Int32).toNatClampNeg (some (x + 20))))) (hc8_ : Φ (x + 8) = some (o_ 12 [.ref (x + 9), .int 9, .int 511, .int 29])) (hc9_ : Φ (x + 9) = some (ai_ G 9 (upd (upd (upd (upd (upd (upd (upd (upd (upd (fun _ => 0) (0 : Int32).toNatClampNeg 0) (1 : Int32).toNatClampNeg 1) (2 : Int32).toNatClampNeg 2) (3 : Int32).toNatClampNeg 3) (4 : Int32).toNatClampNeg 4) (5 : Int32).toNatClampNeg 5) (6 : Int32).toNatClampNeg 6) (7 : Int32).toNatClampNeg 7) (8 : Int32).toNatClampNeg 8))) : Ct G l yX11_fieldAt wsX11_fieldAt ({ frames := 1, cells := 0, slots := 0, locals := 21 }) 0 0 [.ref x, .int 0, .int 5] Φ sz (fun v Φ1 sz1 => v = some (.int 5) ∧ ∀ b9 : Nat, x + 149 ≤ b9 → Φ1 b9 = Φ b9) := by
  refine Ct.of (cc := cX11_fieldAt) (maxL := 3) (ret := (some .int)) (by decide) rfl (Nat.le_of_ble_eq_true rfl) ?_
  intro p9 e9 s9 m9 w9 t9 k9 B
  show Z p9 l e9 _ s9 m9 _ w9 t9 k9 _ G 3 0 [(0, .ref x), (1, .int 0), (2, .int 5)] [] Φ sz 0 0
  refine z_aload_n B dX11_fieldAt_0 rfl 0 rfl ?_
  refine z_iload_n B dX11_fieldAt_1 rfl 1 rfl ?_
  refine z_callV (As := [.int 0]) (rest := []) B (f_X11_requireTemplate_0 G l Φ sz x hc0_ hc3_) (cwV 1 B.1.2.2.2.2 gX11_fieldAt_X11_requireTemplate rfl rfl rfl (by decide +kernel) ⟨Nat.le_of_ble_eq_true rfl, Nat.le_of_ble_eq_true rfl⟩) hc0_ rfl rfl rfl rfl (Nat.le_of_ble_eq_true rfl) dX11_fieldAt_2 ⟨Nat.le_of_ble_eq_true rfl, Nat.le_of_ble_eq_true rfl⟩ (fun v1 Φ1 sz1 st1 hp1 hs1 => ?_)
  obtain ⟨rfl, hq1, fr1⟩ := hp1
  replace hq1 : sz1 = sz := hq1
  subst sz1
  replace hs1 : st1 = [] := hs1
  subst st1
  refine z_aload_n B dX11_fieldAt_5 rfl 0 rfl ?_
  have h_1 : Φ1 x = some (o_ 13 [.ref (x + 1), .ref (x + 3), .ref (x + 24), .ref (x + 46), .ref (x + 74), .ref (x + 80), .ref (x + 132), .ref (x + 121)]) := ((fr1 x).trans hc0_)
  refine z_get (ref := "FlowExporter") (C := RX11) (T := TX11) (N := 8) (ci := 13) (v := .ref (x + 3)) B (by decide +kernel) rfl 1 (by decide) (by decide +kernel) rfl h_1 rfl dX11_fieldAt_6 ?_
  refine z_iload_n B dX11_fieldAt_9 rfl 1 rfl ?_
  have h_2 : Φ1 (x + 3) = some (o_ 3 [.ref (x + 4), .ref (x + 5), .ref (x + 6), .ref (x + 7), .int 1, .int 511]) := ((fr1 (x + 3)).trans hc3_)
  have h_3 : Φ1 (x + 6) = some (aq_ G 4 4 (va_up (va_up (va_up (va_up (fun _ => none) (0 : Int32).toNatClampNeg (some (x + 8))) (1 : Int32).toNatClampNeg (some (x + 12))) (2 : Int32).toNatClampNeg (some (x + 16))) (3 : Int32).toNatClampNeg (some (x + 20)))) := ((fr1 (x + 6)).trans hc6_)
  refine z_callV (As := [.int 0]) (rest := []) B (f_X1_template_0 G l Φ1 sz x h_2 h_3) (cwV 1 B.1.2.2.2.2 gX11_fieldAt_X1_template rfl rfl rfl (by decide +kernel) ⟨Nat.le_of_ble_eq_true rfl, Nat.le_of_ble_eq_true rfl⟩) h_2 rfl rfl rfl rfl (Nat.le_of_ble_eq_true rfl) dX11_fieldAt_10 ⟨Nat.le_of_ble_eq_true rfl, Nat.le_of_ble_eq_true rfl⟩ (fun v2 Φ2 sz2 st2 hp2 hs2 => ?_)
  obtain ⟨rfl, hq2, fr2⟩ := hp2
  replace hq2 : sz2 = sz := hq2
  subst sz2
  replace hs2 : st2 = [.ref (x + 8)] := hs2
  subst st2
  refine z_iload_n B dX11_fieldAt_13 rfl 2 rfl ?_
  have h_4 : Φ2 (x + 8) = some (o_ 12 [.ref (x + 9), .int 9, .int 511, .int 29]) := ((fr2 (x + 8)).trans ((fr1 (x + 8)).trans hc8_))
  have h_5 : Φ2 (x + 9) = some (ai_ G 9 (upd (upd (upd (upd (upd (upd (upd (upd (upd (fun _ => 0) (0 : Int32).toNatClampNeg 0) (1 : Int32).toNatClampNeg 1) (2 : Int32).toNatClampNeg 2) (3 : Int32).toNatClampNeg 3) (4 : Int32).toNatClampNeg 4) (5 : Int32).toNatClampNeg 5) (6 : Int32).toNatClampNeg 6) (7 : Int32).toNatClampNeg 7) (8 : Int32).toNatClampNeg 8)) := ((fr2 (x + 9)).trans ((fr1 (x + 9)).trans hc9_))
  refine z_callV (As := [.int 5]) (rest := []) B (f_X10_field_5 G l Φ2 sz x h_4 h_5) (cwV 1 B.1.2.2.2.2 gX11_fieldAt_X10_field rfl rfl rfl (by decide +kernel) ⟨Nat.le_of_ble_eq_true rfl, Nat.le_of_ble_eq_true rfl⟩) h_4 rfl rfl rfl rfl (Nat.le_of_ble_eq_true rfl) dX11_fieldAt_14 ⟨Nat.le_of_ble_eq_true rfl, Nat.le_of_ble_eq_true rfl⟩ (fun v3 Φ3 sz3 st3 hp3 hs3 => ?_)
  obtain ⟨rfl, hq3, fr3⟩ := hp3
  replace hq3 : sz3 = sz := hq3
  subst sz3
  replace hs3 : st3 = [.int 5] := hs3
  subst st3
  exact z_ret_i B dX11_fieldAt_17 ⟨rfl, fun b9 h9 => ((fr3 b9).trans ((fr2 b9).trans ((fr1 b9).trans rfl)))⟩

set_option maxHeartbeats 4000000 in
set_option maxRecDepth 100000 in
theorem f_X10_field_6 (G : EnvG) (l : Launch) (Φ : Hm) (sz : Nat) (x : Nat) (hc8_ : Φ (x + 8) = some (o_ 12 [.ref (x + 9), .int 9, .int 511, .int 29])) (hc9_ : Φ (x + 9) = some (ai_ G 9 (upd (upd (upd (upd (upd (upd (upd (upd (upd (fun _ => 0) (0 : Int32).toNatClampNeg 0) (1 : Int32).toNatClampNeg 1) (2 : Int32).toNatClampNeg 2) (3 : Int32).toNatClampNeg 3) (4 : Int32).toNatClampNeg 4) (5 : Int32).toNatClampNeg 5) (6 : Int32).toNatClampNeg 6) (7 : Int32).toNatClampNeg 7) (8 : Int32).toNatClampNeg 8))) : Ct G l yX10_field wsX10_field ({ frames := 0, cells := 0, slots := 0, locals := 0 }) 0 0 [.ref (x + 8), .int 6] Φ sz (fun v Φ1 sz1 => v = some (.int 6) ∧ sz1 = sz ∧ (∀ b9 : Nat, Φ1 b9 = Φ b9)) := by
  refine Ct.of (cc := cX10_field) (maxL := 2) (ret := (some .int)) (by decide) rfl (Nat.le_of_ble_eq_true rfl) ?_
  intro p9 e9 s9 m9 w9 t9 k9 B
  show Z p9 l e9 _ s9 m9 _ w9 t9 k9 _ G 2 0 [(0, .ref (x + 8)), (1, .int 6)] [] Φ sz 0 0
  refine z_iload_n B dX10_field_0 rfl 1 rfl ?_
  refine z_if_lt (tgt := 21) B dX10_field_1 rfl (fun h9 => absurd h9 (by decide)) (fun c_1 => ?_)
  refine z_iload_n B dX10_field_4 rfl 1 rfl ?_
  refine z_aload_n B dX10_field_5 rfl 0 rfl ?_
  refine z_get (ref := "FlowExporter$Template") (C := RX10) (T := TX10) (N := 4) (ci := 12) (v := .int 9) B (by decide +kernel) rfl 1 (by decide) (by decide +kernel) rfl hc8_ rfl dX10_field_6 ?_
  refine z_icmp_ge (tgt := 21) B dX10_field_9 rfl (fun h9 => absurd h9 (by decide)) (fun c_2 => ?_)
  refine z_aload_n B dX10_field_12 rfl 0 rfl ?_
  refine z_get (ref := "FlowExporter$Template") (C := RX10) (T := TX10) (N := 4) (ci := 12) (v := .ref (x + 9)) B (by decide +kernel) rfl 0 (by decide) (by decide +kernel) rfl hc8_ rfl dX10_field_13 ?_
  refine z_iload_n B dX10_field_16 rfl 1 rfl ?_
  refine z_iald B hc9_ (vin rfl) dX10_field_17 ?_
  refine z_top (st1 := [.int 6]) (by rfl) ?_
  refine z_goto (tgt := 22) B dX10_field_18 rfl ?_
  exact z_ret_i B dX10_field_22 ⟨rfl, rfl, (fun b9 => rfl)⟩

set_option maxHeartbeats 4000000 in
set_option maxRecDepth 100000 in
theorem f_X11_fieldAt_6 (G : EnvG) (l : Launch) (Φ : Hm) (sz : Nat) (x : Nat) (hc0_ : Φ x = some (o_ 13 [.ref (x + 1), .ref (x + 3), .ref (x + 24), .ref (x + 46), .ref (x + 74), .ref (x + 80), .ref (x + 132), .ref (x + 121)])) (hc3_ : Φ (x + 3) = some (o_ 3 [.ref (x + 4), .ref (x + 5), .ref (x + 6), .ref (x + 7), .int 1, .int 511])) (hc6_ : Φ (x + 6) = some (aq_ G 4 4 (va_up (va_up (va_up (va_up (fun _ => none) (0 : Int32).toNatClampNeg (some (x + 8))) (1 : Int32).toNatClampNeg (some (x + 12))) (2 : Int32).toNatClampNeg (some (x + 16))) (3 : Int32).toNatClampNeg (some (x + 20))))) (hc8_ : Φ (x + 8) = some (o_ 12 [.ref (x + 9), .int 9, .int 511, .int 29])) (hc9_ : Φ (x + 9) = some (ai_ G 9 (upd (upd (upd (upd (upd (upd (upd (upd (upd (fun _ => 0) (0 : Int32).toNatClampNeg 0) (1 : Int32).toNatClampNeg 1) (2 : Int32).toNatClampNeg 2) (3 : Int32).toNatClampNeg 3) (4 : Int32).toNatClampNeg 4) (5 : Int32).toNatClampNeg 5) (6 : Int32).toNatClampNeg 6) (7 : Int32).toNatClampNeg 7) (8 : Int32).toNatClampNeg 8))) : Ct G l yX11_fieldAt wsX11_fieldAt ({ frames := 1, cells := 0, slots := 0, locals := 21 }) 0 0 [.ref x, .int 0, .int 6] Φ sz (fun v Φ1 sz1 => v = some (.int 6) ∧ ∀ b9 : Nat, x + 149 ≤ b9 → Φ1 b9 = Φ b9) := by
  refine Ct.of (cc := cX11_fieldAt) (maxL := 3) (ret := (some .int)) (by decide) rfl (Nat.le_of_ble_eq_true rfl) ?_
  intro p9 e9 s9 m9 w9 t9 k9 B
  show Z p9 l e9 _ s9 m9 _ w9 t9 k9 _ G 3 0 [(0, .ref x), (1, .int 0), (2, .int 6)] [] Φ sz 0 0
  refine z_aload_n B dX11_fieldAt_0 rfl 0 rfl ?_
  refine z_iload_n B dX11_fieldAt_1 rfl 1 rfl ?_
  refine z_callV (As := [.int 0]) (rest := []) B (f_X11_requireTemplate_0 G l Φ sz x hc0_ hc3_) (cwV 1 B.1.2.2.2.2 gX11_fieldAt_X11_requireTemplate rfl rfl rfl (by decide +kernel) ⟨Nat.le_of_ble_eq_true rfl, Nat.le_of_ble_eq_true rfl⟩) hc0_ rfl rfl rfl rfl (Nat.le_of_ble_eq_true rfl) dX11_fieldAt_2 ⟨Nat.le_of_ble_eq_true rfl, Nat.le_of_ble_eq_true rfl⟩ (fun v1 Φ1 sz1 st1 hp1 hs1 => ?_)
  obtain ⟨rfl, hq1, fr1⟩ := hp1
  replace hq1 : sz1 = sz := hq1
  subst sz1
  replace hs1 : st1 = [] := hs1
  subst st1
  refine z_aload_n B dX11_fieldAt_5 rfl 0 rfl ?_
  have h_1 : Φ1 x = some (o_ 13 [.ref (x + 1), .ref (x + 3), .ref (x + 24), .ref (x + 46), .ref (x + 74), .ref (x + 80), .ref (x + 132), .ref (x + 121)]) := ((fr1 x).trans hc0_)
  refine z_get (ref := "FlowExporter") (C := RX11) (T := TX11) (N := 8) (ci := 13) (v := .ref (x + 3)) B (by decide +kernel) rfl 1 (by decide) (by decide +kernel) rfl h_1 rfl dX11_fieldAt_6 ?_
  refine z_iload_n B dX11_fieldAt_9 rfl 1 rfl ?_
  have h_2 : Φ1 (x + 3) = some (o_ 3 [.ref (x + 4), .ref (x + 5), .ref (x + 6), .ref (x + 7), .int 1, .int 511]) := ((fr1 (x + 3)).trans hc3_)
  have h_3 : Φ1 (x + 6) = some (aq_ G 4 4 (va_up (va_up (va_up (va_up (fun _ => none) (0 : Int32).toNatClampNeg (some (x + 8))) (1 : Int32).toNatClampNeg (some (x + 12))) (2 : Int32).toNatClampNeg (some (x + 16))) (3 : Int32).toNatClampNeg (some (x + 20)))) := ((fr1 (x + 6)).trans hc6_)
  refine z_callV (As := [.int 0]) (rest := []) B (f_X1_template_0 G l Φ1 sz x h_2 h_3) (cwV 1 B.1.2.2.2.2 gX11_fieldAt_X1_template rfl rfl rfl (by decide +kernel) ⟨Nat.le_of_ble_eq_true rfl, Nat.le_of_ble_eq_true rfl⟩) h_2 rfl rfl rfl rfl (Nat.le_of_ble_eq_true rfl) dX11_fieldAt_10 ⟨Nat.le_of_ble_eq_true rfl, Nat.le_of_ble_eq_true rfl⟩ (fun v2 Φ2 sz2 st2 hp2 hs2 => ?_)
  obtain ⟨rfl, hq2, fr2⟩ := hp2
  replace hq2 : sz2 = sz := hq2
  subst sz2
  replace hs2 : st2 = [.ref (x + 8)] := hs2
  subst st2
  refine z_iload_n B dX11_fieldAt_13 rfl 2 rfl ?_
  have h_4 : Φ2 (x + 8) = some (o_ 12 [.ref (x + 9), .int 9, .int 511, .int 29]) := ((fr2 (x + 8)).trans ((fr1 (x + 8)).trans hc8_))
  have h_5 : Φ2 (x + 9) = some (ai_ G 9 (upd (upd (upd (upd (upd (upd (upd (upd (upd (fun _ => 0) (0 : Int32).toNatClampNeg 0) (1 : Int32).toNatClampNeg 1) (2 : Int32).toNatClampNeg 2) (3 : Int32).toNatClampNeg 3) (4 : Int32).toNatClampNeg 4) (5 : Int32).toNatClampNeg 5) (6 : Int32).toNatClampNeg 6) (7 : Int32).toNatClampNeg 7) (8 : Int32).toNatClampNeg 8)) := ((fr2 (x + 9)).trans ((fr1 (x + 9)).trans hc9_))
  refine z_callV (As := [.int 6]) (rest := []) B (f_X10_field_6 G l Φ2 sz x h_4 h_5) (cwV 1 B.1.2.2.2.2 gX11_fieldAt_X10_field rfl rfl rfl (by decide +kernel) ⟨Nat.le_of_ble_eq_true rfl, Nat.le_of_ble_eq_true rfl⟩) h_4 rfl rfl rfl rfl (Nat.le_of_ble_eq_true rfl) dX11_fieldAt_14 ⟨Nat.le_of_ble_eq_true rfl, Nat.le_of_ble_eq_true rfl⟩ (fun v3 Φ3 sz3 st3 hp3 hs3 => ?_)
  obtain ⟨rfl, hq3, fr3⟩ := hp3
  replace hq3 : sz3 = sz := hq3
  subst sz3
  replace hs3 : st3 = [.int 6] := hs3
  subst st3
  exact z_ret_i B dX11_fieldAt_17 ⟨rfl, fun b9 h9 => ((fr3 b9).trans ((fr2 b9).trans ((fr1 b9).trans rfl)))⟩

set_option maxHeartbeats 4000000 in
set_option maxRecDepth 100000 in
theorem f_X10_field_7 (G : EnvG) (l : Launch) (Φ : Hm) (sz : Nat) (x : Nat) (hc8_ : Φ (x + 8) = some (o_ 12 [.ref (x + 9), .int 9, .int 511, .int 29])) (hc9_ : Φ (x + 9) = some (ai_ G 9 (upd (upd (upd (upd (upd (upd (upd (upd (upd (fun _ => 0) (0 : Int32).toNatClampNeg 0) (1 : Int32).toNatClampNeg 1) (2 : Int32).toNatClampNeg 2) (3 : Int32).toNatClampNeg 3) (4 : Int32).toNatClampNeg 4) (5 : Int32).toNatClampNeg 5) (6 : Int32).toNatClampNeg 6) (7 : Int32).toNatClampNeg 7) (8 : Int32).toNatClampNeg 8))) : Ct G l yX10_field wsX10_field ({ frames := 0, cells := 0, slots := 0, locals := 0 }) 0 0 [.ref (x + 8), .int 7] Φ sz (fun v Φ1 sz1 => v = some (.int 7) ∧ sz1 = sz ∧ (∀ b9 : Nat, Φ1 b9 = Φ b9)) := by
  refine Ct.of (cc := cX10_field) (maxL := 2) (ret := (some .int)) (by decide) rfl (Nat.le_of_ble_eq_true rfl) ?_
  intro p9 e9 s9 m9 w9 t9 k9 B
  show Z p9 l e9 _ s9 m9 _ w9 t9 k9 _ G 2 0 [(0, .ref (x + 8)), (1, .int 7)] [] Φ sz 0 0
  refine z_iload_n B dX10_field_0 rfl 1 rfl ?_
  refine z_if_lt (tgt := 21) B dX10_field_1 rfl (fun h9 => absurd h9 (by decide)) (fun c_1 => ?_)
  refine z_iload_n B dX10_field_4 rfl 1 rfl ?_
  refine z_aload_n B dX10_field_5 rfl 0 rfl ?_
  refine z_get (ref := "FlowExporter$Template") (C := RX10) (T := TX10) (N := 4) (ci := 12) (v := .int 9) B (by decide +kernel) rfl 1 (by decide) (by decide +kernel) rfl hc8_ rfl dX10_field_6 ?_
  refine z_icmp_ge (tgt := 21) B dX10_field_9 rfl (fun h9 => absurd h9 (by decide)) (fun c_2 => ?_)
  refine z_aload_n B dX10_field_12 rfl 0 rfl ?_
  refine z_get (ref := "FlowExporter$Template") (C := RX10) (T := TX10) (N := 4) (ci := 12) (v := .ref (x + 9)) B (by decide +kernel) rfl 0 (by decide) (by decide +kernel) rfl hc8_ rfl dX10_field_13 ?_
  refine z_iload_n B dX10_field_16 rfl 1 rfl ?_
  refine z_iald B hc9_ (vin rfl) dX10_field_17 ?_
  refine z_top (st1 := [.int 7]) (by rfl) ?_
  refine z_goto (tgt := 22) B dX10_field_18 rfl ?_
  exact z_ret_i B dX10_field_22 ⟨rfl, rfl, (fun b9 => rfl)⟩

set_option maxHeartbeats 4000000 in
set_option maxRecDepth 100000 in
theorem f_X11_fieldAt_7 (G : EnvG) (l : Launch) (Φ : Hm) (sz : Nat) (x : Nat) (hc0_ : Φ x = some (o_ 13 [.ref (x + 1), .ref (x + 3), .ref (x + 24), .ref (x + 46), .ref (x + 74), .ref (x + 80), .ref (x + 132), .ref (x + 121)])) (hc3_ : Φ (x + 3) = some (o_ 3 [.ref (x + 4), .ref (x + 5), .ref (x + 6), .ref (x + 7), .int 1, .int 511])) (hc6_ : Φ (x + 6) = some (aq_ G 4 4 (va_up (va_up (va_up (va_up (fun _ => none) (0 : Int32).toNatClampNeg (some (x + 8))) (1 : Int32).toNatClampNeg (some (x + 12))) (2 : Int32).toNatClampNeg (some (x + 16))) (3 : Int32).toNatClampNeg (some (x + 20))))) (hc8_ : Φ (x + 8) = some (o_ 12 [.ref (x + 9), .int 9, .int 511, .int 29])) (hc9_ : Φ (x + 9) = some (ai_ G 9 (upd (upd (upd (upd (upd (upd (upd (upd (upd (fun _ => 0) (0 : Int32).toNatClampNeg 0) (1 : Int32).toNatClampNeg 1) (2 : Int32).toNatClampNeg 2) (3 : Int32).toNatClampNeg 3) (4 : Int32).toNatClampNeg 4) (5 : Int32).toNatClampNeg 5) (6 : Int32).toNatClampNeg 6) (7 : Int32).toNatClampNeg 7) (8 : Int32).toNatClampNeg 8))) : Ct G l yX11_fieldAt wsX11_fieldAt ({ frames := 1, cells := 0, slots := 0, locals := 21 }) 0 0 [.ref x, .int 0, .int 7] Φ sz (fun v Φ1 sz1 => v = some (.int 7) ∧ ∀ b9 : Nat, x + 149 ≤ b9 → Φ1 b9 = Φ b9) := by
  refine Ct.of (cc := cX11_fieldAt) (maxL := 3) (ret := (some .int)) (by decide) rfl (Nat.le_of_ble_eq_true rfl) ?_
  intro p9 e9 s9 m9 w9 t9 k9 B
  show Z p9 l e9 _ s9 m9 _ w9 t9 k9 _ G 3 0 [(0, .ref x), (1, .int 0), (2, .int 7)] [] Φ sz 0 0
  refine z_aload_n B dX11_fieldAt_0 rfl 0 rfl ?_
  refine z_iload_n B dX11_fieldAt_1 rfl 1 rfl ?_
  refine z_callV (As := [.int 0]) (rest := []) B (f_X11_requireTemplate_0 G l Φ sz x hc0_ hc3_) (cwV 1 B.1.2.2.2.2 gX11_fieldAt_X11_requireTemplate rfl rfl rfl (by decide +kernel) ⟨Nat.le_of_ble_eq_true rfl, Nat.le_of_ble_eq_true rfl⟩) hc0_ rfl rfl rfl rfl (Nat.le_of_ble_eq_true rfl) dX11_fieldAt_2 ⟨Nat.le_of_ble_eq_true rfl, Nat.le_of_ble_eq_true rfl⟩ (fun v1 Φ1 sz1 st1 hp1 hs1 => ?_)
  obtain ⟨rfl, hq1, fr1⟩ := hp1
  replace hq1 : sz1 = sz := hq1
  subst sz1
  replace hs1 : st1 = [] := hs1
  subst st1
  refine z_aload_n B dX11_fieldAt_5 rfl 0 rfl ?_
  have h_1 : Φ1 x = some (o_ 13 [.ref (x + 1), .ref (x + 3), .ref (x + 24), .ref (x + 46), .ref (x + 74), .ref (x + 80), .ref (x + 132), .ref (x + 121)]) := ((fr1 x).trans hc0_)
  refine z_get (ref := "FlowExporter") (C := RX11) (T := TX11) (N := 8) (ci := 13) (v := .ref (x + 3)) B (by decide +kernel) rfl 1 (by decide) (by decide +kernel) rfl h_1 rfl dX11_fieldAt_6 ?_
  refine z_iload_n B dX11_fieldAt_9 rfl 1 rfl ?_
  have h_2 : Φ1 (x + 3) = some (o_ 3 [.ref (x + 4), .ref (x + 5), .ref (x + 6), .ref (x + 7), .int 1, .int 511]) := ((fr1 (x + 3)).trans hc3_)
  have h_3 : Φ1 (x + 6) = some (aq_ G 4 4 (va_up (va_up (va_up (va_up (fun _ => none) (0 : Int32).toNatClampNeg (some (x + 8))) (1 : Int32).toNatClampNeg (some (x + 12))) (2 : Int32).toNatClampNeg (some (x + 16))) (3 : Int32).toNatClampNeg (some (x + 20)))) := ((fr1 (x + 6)).trans hc6_)
  refine z_callV (As := [.int 0]) (rest := []) B (f_X1_template_0 G l Φ1 sz x h_2 h_3) (cwV 1 B.1.2.2.2.2 gX11_fieldAt_X1_template rfl rfl rfl (by decide +kernel) ⟨Nat.le_of_ble_eq_true rfl, Nat.le_of_ble_eq_true rfl⟩) h_2 rfl rfl rfl rfl (Nat.le_of_ble_eq_true rfl) dX11_fieldAt_10 ⟨Nat.le_of_ble_eq_true rfl, Nat.le_of_ble_eq_true rfl⟩ (fun v2 Φ2 sz2 st2 hp2 hs2 => ?_)
  obtain ⟨rfl, hq2, fr2⟩ := hp2
  replace hq2 : sz2 = sz := hq2
  subst sz2
  replace hs2 : st2 = [.ref (x + 8)] := hs2
  subst st2
  refine z_iload_n B dX11_fieldAt_13 rfl 2 rfl ?_
  have h_4 : Φ2 (x + 8) = some (o_ 12 [.ref (x + 9), .int 9, .int 511, .int 29]) := ((fr2 (x + 8)).trans ((fr1 (x + 8)).trans hc8_))
  have h_5 : Φ2 (x + 9) = some (ai_ G 9 (upd (upd (upd (upd (upd (upd (upd (upd (upd (fun _ => 0) (0 : Int32).toNatClampNeg 0) (1 : Int32).toNatClampNeg 1) (2 : Int32).toNatClampNeg 2) (3 : Int32).toNatClampNeg 3) (4 : Int32).toNatClampNeg 4) (5 : Int32).toNatClampNeg 5) (6 : Int32).toNatClampNeg 6) (7 : Int32).toNatClampNeg 7) (8 : Int32).toNatClampNeg 8)) := ((fr2 (x + 9)).trans ((fr1 (x + 9)).trans hc9_))
  refine z_callV (As := [.int 7]) (rest := []) B (f_X10_field_7 G l Φ2 sz x h_4 h_5) (cwV 1 B.1.2.2.2.2 gX11_fieldAt_X10_field rfl rfl rfl (by decide +kernel) ⟨Nat.le_of_ble_eq_true rfl, Nat.le_of_ble_eq_true rfl⟩) h_4 rfl rfl rfl rfl (Nat.le_of_ble_eq_true rfl) dX11_fieldAt_14 ⟨Nat.le_of_ble_eq_true rfl, Nat.le_of_ble_eq_true rfl⟩ (fun v3 Φ3 sz3 st3 hp3 hs3 => ?_)
  obtain ⟨rfl, hq3, fr3⟩ := hp3
  replace hq3 : sz3 = sz := hq3
  subst sz3
  replace hs3 : st3 = [.int 7] := hs3
  subst st3
  exact z_ret_i B dX11_fieldAt_17 ⟨rfl, fun b9 h9 => ((fr3 b9).trans ((fr2 b9).trans ((fr1 b9).trans rfl)))⟩

set_option maxHeartbeats 4000000 in
set_option maxRecDepth 100000 in
theorem f_X10_field_8 (G : EnvG) (l : Launch) (Φ : Hm) (sz : Nat) (x : Nat) (hc8_ : Φ (x + 8) = some (o_ 12 [.ref (x + 9), .int 9, .int 511, .int 29])) (hc9_ : Φ (x + 9) = some (ai_ G 9 (upd (upd (upd (upd (upd (upd (upd (upd (upd (fun _ => 0) (0 : Int32).toNatClampNeg 0) (1 : Int32).toNatClampNeg 1) (2 : Int32).toNatClampNeg 2) (3 : Int32).toNatClampNeg 3) (4 : Int32).toNatClampNeg 4) (5 : Int32).toNatClampNeg 5) (6 : Int32).toNatClampNeg 6) (7 : Int32).toNatClampNeg 7) (8 : Int32).toNatClampNeg 8))) : Ct G l yX10_field wsX10_field ({ frames := 0, cells := 0, slots := 0, locals := 0 }) 0 0 [.ref (x + 8), .int 8] Φ sz (fun v Φ1 sz1 => v = some (.int 8) ∧ sz1 = sz ∧ (∀ b9 : Nat, Φ1 b9 = Φ b9)) := by
  refine Ct.of (cc := cX10_field) (maxL := 2) (ret := (some .int)) (by decide) rfl (Nat.le_of_ble_eq_true rfl) ?_
  intro p9 e9 s9 m9 w9 t9 k9 B
  show Z p9 l e9 _ s9 m9 _ w9 t9 k9 _ G 2 0 [(0, .ref (x + 8)), (1, .int 8)] [] Φ sz 0 0
  refine z_iload_n B dX10_field_0 rfl 1 rfl ?_
  refine z_if_lt (tgt := 21) B dX10_field_1 rfl (fun h9 => absurd h9 (by decide)) (fun c_1 => ?_)
  refine z_iload_n B dX10_field_4 rfl 1 rfl ?_
  refine z_aload_n B dX10_field_5 rfl 0 rfl ?_
  refine z_get (ref := "FlowExporter$Template") (C := RX10) (T := TX10) (N := 4) (ci := 12) (v := .int 9) B (by decide +kernel) rfl 1 (by decide) (by decide +kernel) rfl hc8_ rfl dX10_field_6 ?_
  refine z_icmp_ge (tgt := 21) B dX10_field_9 rfl (fun h9 => absurd h9 (by decide)) (fun c_2 => ?_)
  refine z_aload_n B dX10_field_12 rfl 0 rfl ?_
  refine z_get (ref := "FlowExporter$Template") (C := RX10) (T := TX10) (N := 4) (ci := 12) (v := .ref (x + 9)) B (by decide +kernel) rfl 0 (by decide) (by decide +kernel) rfl hc8_ rfl dX10_field_13 ?_
  refine z_iload_n B dX10_field_16 rfl 1 rfl ?_
  refine z_iald B hc9_ (vin rfl) dX10_field_17 ?_
  refine z_top (st1 := [.int 8]) (by rfl) ?_
  refine z_goto (tgt := 22) B dX10_field_18 rfl ?_
  exact z_ret_i B dX10_field_22 ⟨rfl, rfl, (fun b9 => rfl)⟩

set_option maxHeartbeats 4000000 in
set_option maxRecDepth 100000 in
theorem f_X11_fieldAt_8 (G : EnvG) (l : Launch) (Φ : Hm) (sz : Nat) (x : Nat) (hc0_ : Φ x = some (o_ 13 [.ref (x + 1), .ref (x + 3), .ref (x + 24), .ref (x + 46), .ref (x + 74), .ref (x + 80), .ref (x + 132), .ref (x + 121)])) (hc3_ : Φ (x + 3) = some (o_ 3 [.ref (x + 4), .ref (x + 5), .ref (x + 6), .ref (x + 7), .int 1, .int 511])) (hc6_ : Φ (x + 6) = some (aq_ G 4 4 (va_up (va_up (va_up (va_up (fun _ => none) (0 : Int32).toNatClampNeg (some (x + 8))) (1 : Int32).toNatClampNeg (some (x + 12))) (2 : Int32).toNatClampNeg (some (x + 16))) (3 : Int32).toNatClampNeg (some (x + 20))))) (hc8_ : Φ (x + 8) = some (o_ 12 [.ref (x + 9), .int 9, .int 511, .int 29])) (hc9_ : Φ (x + 9) = some (ai_ G 9 (upd (upd (upd (upd (upd (upd (upd (upd (upd (fun _ => 0) (0 : Int32).toNatClampNeg 0) (1 : Int32).toNatClampNeg 1) (2 : Int32).toNatClampNeg 2) (3 : Int32).toNatClampNeg 3) (4 : Int32).toNatClampNeg 4) (5 : Int32).toNatClampNeg 5) (6 : Int32).toNatClampNeg 6) (7 : Int32).toNatClampNeg 7) (8 : Int32).toNatClampNeg 8))) : Ct G l yX11_fieldAt wsX11_fieldAt ({ frames := 1, cells := 0, slots := 0, locals := 21 }) 0 0 [.ref x, .int 0, .int 8] Φ sz (fun v Φ1 sz1 => v = some (.int 8) ∧ ∀ b9 : Nat, x + 149 ≤ b9 → Φ1 b9 = Φ b9) := by
  refine Ct.of (cc := cX11_fieldAt) (maxL := 3) (ret := (some .int)) (by decide) rfl (Nat.le_of_ble_eq_true rfl) ?_
  intro p9 e9 s9 m9 w9 t9 k9 B
  show Z p9 l e9 _ s9 m9 _ w9 t9 k9 _ G 3 0 [(0, .ref x), (1, .int 0), (2, .int 8)] [] Φ sz 0 0
  refine z_aload_n B dX11_fieldAt_0 rfl 0 rfl ?_
  refine z_iload_n B dX11_fieldAt_1 rfl 1 rfl ?_
  refine z_callV (As := [.int 0]) (rest := []) B (f_X11_requireTemplate_0 G l Φ sz x hc0_ hc3_) (cwV 1 B.1.2.2.2.2 gX11_fieldAt_X11_requireTemplate rfl rfl rfl (by decide +kernel) ⟨Nat.le_of_ble_eq_true rfl, Nat.le_of_ble_eq_true rfl⟩) hc0_ rfl rfl rfl rfl (Nat.le_of_ble_eq_true rfl) dX11_fieldAt_2 ⟨Nat.le_of_ble_eq_true rfl, Nat.le_of_ble_eq_true rfl⟩ (fun v1 Φ1 sz1 st1 hp1 hs1 => ?_)
  obtain ⟨rfl, hq1, fr1⟩ := hp1
  replace hq1 : sz1 = sz := hq1
  subst sz1
  replace hs1 : st1 = [] := hs1
  subst st1
  refine z_aload_n B dX11_fieldAt_5 rfl 0 rfl ?_
  have h_1 : Φ1 x = some (o_ 13 [.ref (x + 1), .ref (x + 3), .ref (x + 24), .ref (x + 46), .ref (x + 74), .ref (x + 80), .ref (x + 132), .ref (x + 121)]) := ((fr1 x).trans hc0_)
  refine z_get (ref := "FlowExporter") (C := RX11) (T := TX11) (N := 8) (ci := 13) (v := .ref (x + 3)) B (by decide +kernel) rfl 1 (by decide) (by decide +kernel) rfl h_1 rfl dX11_fieldAt_6 ?_
  refine z_iload_n B dX11_fieldAt_9 rfl 1 rfl ?_
  have h_2 : Φ1 (x + 3) = some (o_ 3 [.ref (x + 4), .ref (x + 5), .ref (x + 6), .ref (x + 7), .int 1, .int 511]) := ((fr1 (x + 3)).trans hc3_)
  have h_3 : Φ1 (x + 6) = some (aq_ G 4 4 (va_up (va_up (va_up (va_up (fun _ => none) (0 : Int32).toNatClampNeg (some (x + 8))) (1 : Int32).toNatClampNeg (some (x + 12))) (2 : Int32).toNatClampNeg (some (x + 16))) (3 : Int32).toNatClampNeg (some (x + 20)))) := ((fr1 (x + 6)).trans hc6_)
  refine z_callV (As := [.int 0]) (rest := []) B (f_X1_template_0 G l Φ1 sz x h_2 h_3) (cwV 1 B.1.2.2.2.2 gX11_fieldAt_X1_template rfl rfl rfl (by decide +kernel) ⟨Nat.le_of_ble_eq_true rfl, Nat.le_of_ble_eq_true rfl⟩) h_2 rfl rfl rfl rfl (Nat.le_of_ble_eq_true rfl) dX11_fieldAt_10 ⟨Nat.le_of_ble_eq_true rfl, Nat.le_of_ble_eq_true rfl⟩ (fun v2 Φ2 sz2 st2 hp2 hs2 => ?_)
  obtain ⟨rfl, hq2, fr2⟩ := hp2
  replace hq2 : sz2 = sz := hq2
  subst sz2
  replace hs2 : st2 = [.ref (x + 8)] := hs2
  subst st2
  refine z_iload_n B dX11_fieldAt_13 rfl 2 rfl ?_
  have h_4 : Φ2 (x + 8) = some (o_ 12 [.ref (x + 9), .int 9, .int 511, .int 29]) := ((fr2 (x + 8)).trans ((fr1 (x + 8)).trans hc8_))
  have h_5 : Φ2 (x + 9) = some (ai_ G 9 (upd (upd (upd (upd (upd (upd (upd (upd (upd (fun _ => 0) (0 : Int32).toNatClampNeg 0) (1 : Int32).toNatClampNeg 1) (2 : Int32).toNatClampNeg 2) (3 : Int32).toNatClampNeg 3) (4 : Int32).toNatClampNeg 4) (5 : Int32).toNatClampNeg 5) (6 : Int32).toNatClampNeg 6) (7 : Int32).toNatClampNeg 7) (8 : Int32).toNatClampNeg 8)) := ((fr2 (x + 9)).trans ((fr1 (x + 9)).trans hc9_))
  refine z_callV (As := [.int 8]) (rest := []) B (f_X10_field_8 G l Φ2 sz x h_4 h_5) (cwV 1 B.1.2.2.2.2 gX11_fieldAt_X10_field rfl rfl rfl (by decide +kernel) ⟨Nat.le_of_ble_eq_true rfl, Nat.le_of_ble_eq_true rfl⟩) h_4 rfl rfl rfl rfl (Nat.le_of_ble_eq_true rfl) dX11_fieldAt_14 ⟨Nat.le_of_ble_eq_true rfl, Nat.le_of_ble_eq_true rfl⟩ (fun v3 Φ3 sz3 st3 hp3 hs3 => ?_)
  obtain ⟨rfl, hq3, fr3⟩ := hp3
  replace hq3 : sz3 = sz := hq3
  subst sz3
  replace hs3 : st3 = [.int 8] := hs3
  subst st3
  exact z_ret_i B dX11_fieldAt_17 ⟨rfl, fun b9 h9 => ((fr3 b9).trans ((fr2 b9).trans ((fr1 b9).trans rfl)))⟩

set_option maxHeartbeats 4000000 in
set_option maxRecDepth 100000 in
theorem f_X10_field_n (G : EnvG) (l : Launch) (Φ : Hm) (sz : Nat) (x : Nat) (b : Int32) (hc8_ : Φ (x + 8) = some (o_ 12 [.ref (x + 9), .int 9, .int 511, .int 29])) (hb : ¬ (¬ b < 0 ∧ b < 9)) : Ct G l yX10_field wsX10_field ({ frames := 0, cells := 0, slots := 0, locals := 0 }) 0 0 [.ref (x + 8), .int b] Φ sz (fun v Φ1 sz1 => v = some (.int (-1)) ∧ sz1 = sz ∧ (∀ b9 : Nat, Φ1 b9 = Φ b9)) := by
  refine Ct.of (cc := cX10_field) (maxL := 2) (ret := (some .int)) (by decide) rfl (Nat.le_of_ble_eq_true rfl) ?_
  intro p9 e9 s9 m9 w9 t9 k9 B
  show Z p9 l e9 _ s9 m9 _ w9 t9 k9 _ G 2 0 [(0, .ref (x + 8)), (1, .int b)] [] Φ sz 0 0
  refine z_iload_n B dX10_field_0 rfl 1 rfl ?_
  refine z_if_lt (tgt := 21) B dX10_field_1 rfl (fun c_1 => ?_) (fun c_1 => ?_)
  · refine z_iconst (v := (-1)) B dX10_field_21 rfl ?_
    exact z_ret_i B dX10_field_22 ⟨rfl, rfl, (fun b9 => rfl)⟩
  · refine z_iload_n B dX10_field_4 rfl 1 rfl ?_
    refine z_aload_n B dX10_field_5 rfl 0 rfl ?_
    refine z_get (ref := "FlowExporter$Template") (C := RX10) (T := TX10) (N := 4) (ci := 12) (v := .int 9) B (by decide +kernel) rfl 1 (by decide) (by decide +kernel) rfl hc8_ rfl dX10_field_6 ?_
    refine z_icmp_ge (tgt := 21) B dX10_field_9 rfl (fun c_2 => ?_) (fun h9 => absurd (Int32.not_lt.mp (fun h8 => hb ⟨c_1, h8⟩)) h9)
    refine z_iconst (v := (-1)) B dX10_field_21 rfl ?_
    exact z_ret_i B dX10_field_22 ⟨rfl, rfl, (fun b9 => rfl)⟩

set_option maxHeartbeats 4000000 in
set_option maxRecDepth 100000 in
theorem f_X11_fieldAt_n (G : EnvG) (l : Launch) (Φ : Hm) (sz : Nat) (x : Nat) (b : Int32) (hc0_ : Φ x = some (o_ 13 [.ref (x + 1), .ref (x + 3), .ref (x + 24), .ref (x + 46), .ref (x + 74), .ref (x + 80), .ref (x + 132), .ref (x + 121)])) (hc3_ : Φ (x + 3) = some (o_ 3 [.ref (x + 4), .ref (x + 5), .ref (x + 6), .ref (x + 7), .int 1, .int 511])) (hc6_ : Φ (x + 6) = some (aq_ G 4 4 (va_up (va_up (va_up (va_up (fun _ => none) (0 : Int32).toNatClampNeg (some (x + 8))) (1 : Int32).toNatClampNeg (some (x + 12))) (2 : Int32).toNatClampNeg (some (x + 16))) (3 : Int32).toNatClampNeg (some (x + 20))))) (hc8_ : Φ (x + 8) = some (o_ 12 [.ref (x + 9), .int 9, .int 511, .int 29])) (hb : ¬ (¬ b < 0 ∧ b < 9)) : Ct G l yX11_fieldAt wsX11_fieldAt ({ frames := 1, cells := 0, slots := 0, locals := 21 }) 0 0 [.ref x, .int 0, .int b] Φ sz (fun v Φ1 sz1 => v = some (.int (-1)) ∧ ∀ b9 : Nat, x + 149 ≤ b9 → Φ1 b9 = Φ b9) := by
  refine Ct.of (cc := cX11_fieldAt) (maxL := 3) (ret := (some .int)) (by decide) rfl (Nat.le_of_ble_eq_true rfl) ?_
  intro p9 e9 s9 m9 w9 t9 k9 B
  show Z p9 l e9 _ s9 m9 _ w9 t9 k9 _ G 3 0 [(0, .ref x), (1, .int 0), (2, .int b)] [] Φ sz 0 0
  refine z_aload_n B dX11_fieldAt_0 rfl 0 rfl ?_
  refine z_iload_n B dX11_fieldAt_1 rfl 1 rfl ?_
  refine z_callV (As := [.int 0]) (rest := []) B (f_X11_requireTemplate_0 G l Φ sz x hc0_ hc3_) (cwV 1 B.1.2.2.2.2 gX11_fieldAt_X11_requireTemplate rfl rfl rfl (by decide +kernel) ⟨Nat.le_of_ble_eq_true rfl, Nat.le_of_ble_eq_true rfl⟩) hc0_ rfl rfl rfl rfl (Nat.le_of_ble_eq_true rfl) dX11_fieldAt_2 ⟨Nat.le_of_ble_eq_true rfl, Nat.le_of_ble_eq_true rfl⟩ (fun v1 Φ1 sz1 st1 hp1 hs1 => ?_)
  obtain ⟨rfl, hq1, fr1⟩ := hp1
  replace hq1 : sz1 = sz := hq1
  subst sz1
  replace hs1 : st1 = [] := hs1
  subst st1
  refine z_aload_n B dX11_fieldAt_5 rfl 0 rfl ?_
  have h_1 : Φ1 x = some (o_ 13 [.ref (x + 1), .ref (x + 3), .ref (x + 24), .ref (x + 46), .ref (x + 74), .ref (x + 80), .ref (x + 132), .ref (x + 121)]) := ((fr1 x).trans hc0_)
  refine z_get (ref := "FlowExporter") (C := RX11) (T := TX11) (N := 8) (ci := 13) (v := .ref (x + 3)) B (by decide +kernel) rfl 1 (by decide) (by decide +kernel) rfl h_1 rfl dX11_fieldAt_6 ?_
  refine z_iload_n B dX11_fieldAt_9 rfl 1 rfl ?_
  have h_2 : Φ1 (x + 3) = some (o_ 3 [.ref (x + 4), .ref (x + 5), .ref (x + 6), .ref (x + 7), .int 1, .int 511]) := ((fr1 (x + 3)).trans hc3_)
  have h_3 : Φ1 (x + 6) = some (aq_ G 4 4 (va_up (va_up (va_up (va_up (fun _ => none) (0 : Int32).toNatClampNeg (some (x + 8))) (1 : Int32).toNatClampNeg (some (x + 12))) (2 : Int32).toNatClampNeg (some (x + 16))) (3 : Int32).toNatClampNeg (some (x + 20)))) := ((fr1 (x + 6)).trans hc6_)
  refine z_callV (As := [.int 0]) (rest := []) B (f_X1_template_0 G l Φ1 sz x h_2 h_3) (cwV 1 B.1.2.2.2.2 gX11_fieldAt_X1_template rfl rfl rfl (by decide +kernel) ⟨Nat.le_of_ble_eq_true rfl, Nat.le_of_ble_eq_true rfl⟩) h_2 rfl rfl rfl rfl (Nat.le_of_ble_eq_true rfl) dX11_fieldAt_10 ⟨Nat.le_of_ble_eq_true rfl, Nat.le_of_ble_eq_true rfl⟩ (fun v2 Φ2 sz2 st2 hp2 hs2 => ?_)
  obtain ⟨rfl, hq2, fr2⟩ := hp2
  replace hq2 : sz2 = sz := hq2
  subst sz2
  replace hs2 : st2 = [.ref (x + 8)] := hs2
  subst st2
  refine z_iload_n B dX11_fieldAt_13 rfl 2 rfl ?_
  have h_4 : Φ2 (x + 8) = some (o_ 12 [.ref (x + 9), .int 9, .int 511, .int 29]) := ((fr2 (x + 8)).trans ((fr1 (x + 8)).trans hc8_))
  refine z_callV (As := [.int b]) (rest := []) B (f_X10_field_n G l Φ2 sz x b h_4 hb) (cwV 1 B.1.2.2.2.2 gX11_fieldAt_X10_field rfl rfl rfl (by decide +kernel) ⟨Nat.le_of_ble_eq_true rfl, Nat.le_of_ble_eq_true rfl⟩) h_4 rfl rfl rfl rfl (Nat.le_of_ble_eq_true rfl) dX11_fieldAt_14 ⟨Nat.le_of_ble_eq_true rfl, Nat.le_of_ble_eq_true rfl⟩ (fun v3 Φ3 sz3 st3 hp3 hs3 => ?_)
  obtain ⟨rfl, hq3, fr3⟩ := hp3
  replace hq3 : sz3 = sz := hq3
  subst sz3
  replace hs3 : st3 = [.int (-1)] := hs3
  subst st3
  exact z_ret_i B dX11_fieldAt_17 ⟨rfl, fun b9 h9 => ((fr3 b9).trans ((fr2 b9).trans ((fr1 b9).trans rfl)))⟩

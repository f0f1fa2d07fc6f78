set_option maxHeartbeats 4000000 in
set_option maxRecDepth 100000 in
theorem s_X11_observe (G : EnvG) (l : Launch) (hl9 : l.stackTraces = false) (Φ : Hm) (sz x ca : Nat) (a : Int32) (b : Int32) (d : Int32) (f : Int32) (g : Int32) (hx : G.2.2.2 ≤ x) (hI : In G x ca Φ)  : CtB G l yX11_observe wsX11_observe ({ frames := 7, cells := 1, slots := 6, locals := 151 }) 1 6 [.ref x, .int a, .int b, .int d, .int f, .int g] Φ sz (fun v Φ1 sz1 => (∃ r9 : Int32, v = some (.int r9) ∧ (r9 = 0 ∨ r9 = 1)) ∧ sz1 = sz ∧ In G x (ca) Φ1 ∧ Fr x (fun j9 => j9 < 149) Φ Φ1) (fun Φ1 => In G x ca Φ1 ∧ Fr x (fun j9 => False) Φ Φ1) [xIA] := by
  refine CtB.of (cc := cX11_observe) (maxL := 8) (ret := (some .boolean)) (by decide) rfl (Nat.le_of_ble_eq_true rfl) ?_
  intro p9 e9 s9 m9 w9 t9 k9 B htab9
  show Z p9 l e9 _ s9 m9 _ w9 t9 k9 _ G 8 0 [(0, .ref x), (1, .int a), (2, .int b), (3, .int d), (4, .int f), (5, .int g)] [] Φ sz 0 0
  refine z_iload_n B dX11_observe_0 rfl 1 rfl ?_
  refine z_iload_n B dX11_observe_1 rfl 2 rfl ?_
  refine z_iload_n B dX11_observe_2 rfl 3 rfl ?_
  refine z_iload B dX11_observe_3 4 rfl ?_
  refine z_callS (As := [.int a, .int b, .int d, .int f]) (rest := []) B (s_X3_keyOf G l Φ sz x (ca) a b d f hx hI ) (va_cwS 4 B.1.2.2.2.2 gX11_observe_X3_keyOf rfl rfl rfl (by decide +kernel) ⟨Nat.le_of_ble_eq_true rfl, Nat.le_of_ble_eq_true rfl⟩) rfl rfl (Nat.le_of_ble_eq_true rfl) dX11_observe_5 ⟨Nat.le_of_ble_eq_true rfl, Nat.le_of_ble_eq_true rfl⟩ (fun r_1 Φ1 sz1 st1 hp1 hs1 => ?_)
  obtain ⟨⟨v_1, rfl⟩, hq1, hI1, hF1⟩ := hp1
  subst sz1
  replace hs1 : st1 = [.long v_1] := hs1
  subst st1
  replace hI1 : In G x (ca) Φ1 := hI1
  refine z_lstore (lv' := [(6, .long v_1), (0, .ref x), (1, .int a), (2, .int b), (3, .int d), (4, .int f), (5, .int g)]) B dX11_observe_8 (Nat.le_of_ble_eq_true rfl) rfl ?_
  refine z_lload B dX11_observe_10 0 rfl ?_
  refine z_iload B dX11_observe_12 6 rfl ?_
  refine z_iconst (v := 1) B dX11_observe_14 rfl ?_
  refine zb_callS (As := [.long v_1, .int g, .int 1]) (rest := []) B htab9 (s_X11_requirePackets G l hl9 Φ1 sz x (ca) v_1 g 1 hx hI1 ) (va_cwS 3 B.1.2.2.2.2 gX11_observe_X11_requirePackets rfl rfl rfl (by decide +kernel) ⟨Nat.le_of_ble_eq_true rfl, Nat.le_of_ble_eq_true rfl⟩) rfl rfl (Nat.le_of_ble_eq_true rfl) dX11_observe_15 ⟨Nat.le_of_ble_eq_true rfl, Nat.le_of_ble_eq_true rfl⟩ ⟨Nat.le_of_ble_eq_true rfl, Nat.le_of_ble_eq_true rfl⟩ (by decide) (fun Φ9 h9 => ⟨h9.1, fun b9 h8 => ((h9.2 b9 h8).trans ((fun b9 h9 => ((hF1 b9 (fun j9 h8 h7 => (show False from h7).elim)).trans rfl)) b9 h8))⟩) (fun r_2 Φ2 sz2 st2 hp2 hs2 => ?_)
  obtain ⟨rfl, hq2, hI2, hF2⟩ := hp2
  subst sz2
  replace hs2 : st2 = [] := hs2
  subst st2
  replace hI2 : In G x (ca) Φ2 := hI2
  refine z_aload_n B dX11_observe_18 rfl 1 rfl ?_
  have h_1 := in0 (k := 0) hI2 rfl
  have h_2 : Φ2 x = some (o_ 13 [.ref (x + 1), .ref (x + 3), .ref (x + 24), .ref (x + 46), .ref (x + 74), .ref (x + 80), .ref (x + 132), .ref (x + 121)]) := h_1
  refine z_get (ref := "FlowExporter") (C := RX11) (T := TX11) (N := 8) (ci := 13) (v := .ref (x + 80)) B (by decide +kernel) rfl 5 (by decide) (by decide +kernel) rfl h_2 rfl dX11_observe_19 ?_
  refine z_lload B dX11_observe_22 0 rfl ?_
  refine z_iload B dX11_observe_24 6 rfl ?_
  refine z_iconst (v := 1) B dX11_observe_26 rfl ?_
  obtain ⟨v_2, v_3, v_4, v_5, v_6, v_7, v_8, v_9, v_10, h_3, b_1⟩ := in16 (k := 80) hI2 rfl
  have h_4 : Φ2 (x + 80) = some (o_ 4 [.ref (x + 3), .ref (x + 74), .ref (x + 81), .ref (x + 95), .int v_2, .int v_3, .int v_4, .int v_5, .int v_6, .int v_7, .long v_8, .long v_9, .long v_10]) := h_3
  refine z_callV (As := [.long v_1, .int g, .int 1]) (rest := []) B (s_X2_takePackets G l Φ2 sz x (ca) v_1 g 1 hx hI2 (show 1 ≤ 200 by omega)) (cwV 3 B.1.2.2.2.2 gX11_observe_X2_takePackets rfl rfl rfl (by decide +kernel) ⟨Nat.le_of_ble_eq_true rfl, Nat.le_of_ble_eq_true rfl⟩) h_4 rfl rfl rfl rfl (Nat.le_of_ble_eq_true rfl) dX11_observe_27 ⟨Nat.le_of_ble_eq_true rfl, Nat.le_of_ble_eq_true rfl⟩ (fun r_3 Φ3 sz3 st3 hp3 hs3 => ?_)
  obtain ⟨⟨v_11, rfl⟩, hq3, hI3, hF3⟩ := hp3
  subst sz3
  replace hs3 : st3 = [.int v_11] := hs3
  subst st3
  replace hI3 : In G x (ca) Φ3 := hI3
  refine z_iconst (v := 1) B dX11_observe_30 rfl ?_
  refine z_icmp_ne (tgt := 38) B dX11_observe_31 rfl (fun c_1 => ?_) (fun c_1 => ?_)
  · refine z_iconst (v := 0) B dX11_observe_38 rfl ?_
    exact zb_ret (Nat.le_of_ble_eq_true rfl) (Nat.le_of_ble_eq_true rfl) (z_ret_z B dX11_observe_39 (by decide) ⟨⟨_, rfl, by decide⟩, rfl, hI3, (fun b9 h9 => ((hF3 b9 (fun j9 h8 h7 => h9 j9 h8 (show j9 < 149 by have h6 : 46 ≤ j9 ∧ j9 < 121 := h7; omega))).trans ((hF2 b9 (fun j9 h8 h7 => (show False from h7).elim)).trans ((hF1 b9 (fun j9 h8 h7 => (show False from h7).elim)).trans rfl))))⟩)
  · refine z_iconst (v := 1) B dX11_observe_34 rfl ?_
    refine z_goto (tgt := 39) B dX11_observe_35 rfl ?_
    exact zb_ret (Nat.le_of_ble_eq_true rfl) (Nat.le_of_ble_eq_true rfl) (z_ret_z B dX11_observe_39 (by decide) ⟨⟨_, rfl, by decide⟩, rfl, hI3, (fun b9 h9 => ((hF3 b9 (fun j9 h8 h7 => h9 j9 h8 (show j9 < 149 by have h6 : 46 ≤ j9 ∧ j9 < 121 := h7; omega))).trans ((hF2 b9 (fun j9 h8 h7 => (show False from h7).elim)).trans ((hF1 b9 (fun j9 h8 h7 => (show False from h7).elim)).trans rfl))))⟩)

set_option maxHeartbeats 4000000 in
set_option maxRecDepth 100000 in
theorem r_observe (G : EnvG) (l : Launch) (Φ : Hm) (sz x : Nat) (rd : (Nat → Int32) → Prop) (fl : Nat) (le : Nat) (nx : Nat) (il : Nat) (qu : Nat) (kn : Int32) (ec : Int32) (nu : Int32) (va : Int64) (a : Int32) (b : Int32) (d : Int32) (f : Int32) (g : Int32) (hx : G.2.2.2 ≤ x) (hI : Im G x (rd, NN, fl, 0, le, nx, il, qu, kn, ec, nu, va) Φ)  : Ct G l yX12_observe wsX12_observe ({ frames := 7, cells := 0, slots := 0, locals := 160 }) 0 0 [.ref x, .int a, .int b, .int d, .int f, .int g] Φ sz (fun v Φ1 sz1 => (∃ r9 : Int32, v = some (.int r9) ∧ (r9 = 0 ∨ r9 = 1)) ∧ sz1 = sz ∧ (∃ (fl1 : Nat) (le1 : Nat) (qu1 : Nat), Im G x (rd, NN, fl1, 0, le1, nx, il, qu1, kn, ec, nu, va) Φ1) ∧ Fr x (fun j9 => j9 = 0 ∨ j9 = 3 ∨ j9 = 4 ∨ j9 = 5 ∨ j9 = 6 ∨ j9 = 7 ∨ j9 = 8 ∨ j9 = 9 ∨ j9 = 10 ∨ j9 = 23 ∨ j9 = 24) Φ Φ1) := by
  refine Ct.of (cc := cX12_observe) (maxL := 7) (ret := (some .boolean)) (by decide) rfl (Nat.le_of_ble_eq_true rfl) ?_
  intro p9 e9 s9 m9 w9 t9 k9 B
  show Z p9 l e9 _ s9 m9 _ w9 t9 k9 _ G 7 0 [(0, .ref x), (1, .int a), (2, .int b), (3, .int d), (4, .int f), (5, .int g)] [] Φ sz 0 0
  refine z_aload_n B dX12_observe_0 rfl 0 rfl ?_
  refine z_iconst (v := 0) B dX12_observe_1 rfl ?_
  obtain ⟨v_1, v_2, v_3, n_1, v_4, v_5, v_6, v_7, v_8, v_9, v_10, v_11, v_12, n_2, v_13, n_3, n_4, v_14, v_15, h_1, b_12, b_1, b_2, b_3, b_4, b_5, b_6, b_7, b_8, b_9, b_10, b_11⟩ := im0 hI
  replace b_1 : 1 ≤ n_1 := b_1
  replace b_2 : n_1 ≤ 1024 := b_2
  replace b_3 : fl ≤ 12 := b_3
  replace b_4 : 0 ≤ 24 := b_4
  replace b_5 : le ≤ 700 := b_5
  replace b_6 : qu ≤ 12 := b_6
  replace b_7 : n_2 ≤ 8 := b_7
  replace b_8 : n_3 ≤ 24 := b_8
  replace b_9 : n_4 ≤ 24 := b_9
  replace b_10 : il ≤ 700 := b_10
  replace b_11 : nx ≤ 701 := b_11
  have h_2 : Φ x = some (o_ 14 [.int v_1, .ref (x + 1), .ref (x + 2), .int v_2, .int v_3, .int (nI n_1), .int v_4, .int v_5, .ref (x + 3), .ref (x + 4), .int v_6, .long v_7, .ref (x + 5), .int (nI fl), .int v_8, .long v_9, .long v_10, .long v_11, .long v_12, .ref (x + 6), .ref (x + 7), .int (nI 0), .ref (x + 8), .int (nI le), .ref (x + 9), .ref (x + 10), .int (nI qu), .ref (x + 11), .ref (x + 12), .ref (x + 13), .ref (x + 14), .ref (x + 15), .ref (x + 16), .int (nI n_2), .long v_13, .ref (x + 17), .ref (x + 18), .ref (x + 19), .ref (x + 20), .ref (x + 21), .ref (x + 22), .int (nI n_3), .ref (x + 23), .ref (x + 24), .int (nI n_4), .ref (x + 25), .int (nI il), .int (nI nx), .int ec, .int v_14, .int kn, .int v_15, .int nu, .long va]) := h_1
  refine z_put (ref := "FlowExporterModel") (C := RX12) (T := TX12) (N := 54) (ci := 14) (v := .int 0) B (by decide +kernel) tyX12 tyX12_ok nmX12 rfl 0 (by decide) (by decide +kernel) rfl (Or.inl rfl) h_2 hx rfl rfl (Nat.le_of_ble_eq_true rfl) dX12_observe_2 (fun Φ1 hΦ1 => ?_)
  have h_3 : Φ1 x = some (o_ 14 [.int 0, .ref (x + 1), .ref (x + 2), .int v_2, .int v_3, .int (nI n_1), .int v_4, .int v_5, .ref (x + 3), .ref (x + 4), .int v_6, .long v_7, .ref (x + 5), .int (nI fl), .int v_8, .long v_9, .long v_10, .long v_11, .long v_12, .ref (x + 6), .ref (x + 7), .int (nI 0), .ref (x + 8), .int (nI le), .ref (x + 9), .ref (x + 10), .int (nI qu), .ref (x + 11), .ref (x + 12), .ref (x + 13), .ref (x + 14), .ref (x + 15), .ref (x + 16), .int (nI n_2), .long v_13, .ref (x + 17), .ref (x + 18), .ref (x + 19), .ref (x + 20), .ref (x + 21), .ref (x + 22), .int (nI n_3), .ref (x + 23), .ref (x + 24), .int (nI n_4), .ref (x + 25), .int (nI il), .int (nI nx), .int ec, .int v_14, .int kn, .int v_15, .int nu, .long va]) := fset_at hΦ1
  have hI1 : Im G x (rd, NN, fl, 0, le, nx, il, qu, kn, ec, nu, va) Φ1 := Im.put0 hI hΦ1 ⟨0, v_2, v_3, n_1, v_4, v_5, v_6, v_7, v_8, v_9, v_10, v_11, v_12, n_2, v_13, n_3, n_4, v_14, v_15, rfl, b_12, (show 1 ≤ n_1 by omega), (show n_1 ≤ 1024 by omega), (show fl ≤ 12 by omega), (show 0 ≤ 24 by omega), (show le ≤ 700 by omega), (show qu ≤ 12 by omega), (show n_2 ≤ 8 by omega), (show n_3 ≤ 24 by omega), (show n_4 ≤ 24 by omega), (show il ≤ 700 by omega), (show nx ≤ 701 by omega)⟩
  refine z_aload_n B dX12_observe_5 rfl 0 rfl ?_
  refine z_iload_n B dX12_observe_6 rfl 1 rfl ?_
  refine z_iload_n B dX12_observe_7 rfl 2 rfl ?_
  refine z_iload_n B dX12_observe_8 rfl 3 rfl ?_
  refine z_iload B dX12_observe_9 4 rfl ?_
  refine z_iload B dX12_observe_11 5 rfl ?_
  refine z_callS (As := [.int a, .int b, .int d, .int f, .int g]) (rest := [.ref x]) B (r_isPacket G l Φ1 sz x rd fl 0 le nx il qu kn ec nu va a b d f g hx hI1 ) (va_cwS 5 B.1.2.2.2.2 gX12_observe_X12_isPacket rfl rfl rfl (by decide +kernel) ⟨Nat.le_of_ble_eq_true rfl, Nat.le_of_ble_eq_true rfl⟩) rfl rfl (Nat.le_of_ble_eq_true rfl) dX12_observe_13 ⟨Nat.le_of_ble_eq_true rfl, Nat.le_of_ble_eq_true rfl⟩ (fun r_1 Φ2 sz1 st1 hp1 hs1 => ?_)
  obtain ⟨ha1, hq1, hI2, hF1⟩ := hp1
  subst sz1
  replace hI2 : Im G x (rd, NN, fl, 0, le, nx, il, qu, kn, ec, nu, va) Φ2 := hI2
  rcases ha1 with rfl | ⟨rfl, n_5, b_13, rfl⟩
  · replace hs1 : st1 = [.int 0, .ref x] := hs1
    subst st1
    refine z_if_ne (tgt := 23) B dX12_observe_16 rfl (fun h9 => absurd (by decide) h9) (fun c_1 => ?_)
    refine z_iconst (v := 1) B dX12_observe_19 rfl ?_
    refine z_goto (tgt := 24) B dX12_observe_20 rfl ?_
    refine z_iconst (v := 1) B dX12_observe_24 rfl ?_
    have h_4 : Φ2 x = some (o_ 14 [.int 0, .ref (x + 1), .ref (x + 2), .int v_2, .int v_3, .int (nI n_1), .int v_4, .int v_5, .ref (x + 3), .ref (x + 4), .int v_6, .long v_7, .ref (x + 5), .int (nI fl), .int v_8, .long v_9, .long v_10, .long v_11, .long v_12, .ref (x + 6), .ref (x + 7), .int (nI 0), .ref (x + 8), .int (nI le), .ref (x + 9), .ref (x + 10), .int (nI qu), .ref (x + 11), .ref (x + 12), .ref (x + 13), .ref (x + 14), .ref (x + 15), .ref (x + 16), .int (nI n_2), .long v_13, .ref (x + 17), .ref (x + 18), .ref (x + 19), .ref (x + 20), .ref (x + 21), .ref (x + 22), .int (nI n_3), .ref (x + 23), .ref (x + 24), .int (nI n_4), .ref (x + 25), .int (nI il), .int (nI nx), .int ec, .int v_14, .int kn, .int v_15, .int nu, .long va]) := ((hF1 x (fun j9 h8 h7 => (show False from h7).elim)).trans h_3)
    refine z_callV (As := [.int 1, .int 1]) (rest := []) B (r_throwsIf G l Φ2 sz x rd fl 0 le nx il qu kn ec nu va 1 1 hx hI2 (by decide)) (cwV 2 B.1.2.2.2.2 gX12_observe_X12_throwsIf rfl rfl rfl (by decide +kernel) ⟨Nat.le_of_ble_eq_true rfl, Nat.le_of_ble_eq_true rfl⟩) h_4 rfl rfl rfl rfl (Nat.le_of_ble_eq_true rfl) dX12_observe_25 ⟨Nat.le_of_ble_eq_true rfl, Nat.le_of_ble_eq_true rfl⟩ (fun r_2 Φ3 sz2 st2 hp2 hs2 => ?_)
    obtain ⟨rfl, hq2, hI3, hF2⟩ := hp2
    subst sz2
    replace hs2 : st2 = [.int 1] := hs2
    subst st2
    replace hI3 : Im G x (rd, NN, fl, 0, le, nx, il, qu, kn, ec, nu, va) Φ3 := hI3
    refine z_if_eq (tgt := 33) B dX12_observe_28 rfl (fun h9 => absurd h9 (by decide)) (fun c_2 => ?_)
    refine z_iconst (v := 0) B dX12_observe_31 rfl ?_
    exact z_ret_z B dX12_observe_32 (by decide) ⟨⟨_, rfl, by decide⟩, rfl, ⟨fl, le, qu, hI3⟩, (fun b9 h9 => ((hF2 b9 (fun j9 h8 h7 => h9 j9 h8 (show j9 = 0 ∨ j9 = 3 ∨ j9 = 4 ∨ j9 = 5 ∨ j9 = 6 ∨ j9 = 7 ∨ j9 = 8 ∨ j9 = 9 ∨ j9 = 10 ∨ j9 = 23 ∨ j9 = 24 by have h6 : j9 = 0 := h7; omega))).trans ((hF1 b9 (fun j9 h8 h7 => (show False from h7).elim)).trans ((fset_fr hΦ1 (fun h8 => h9 (0) h8 (show 0 = 0 ∨ 0 = 3 ∨ 0 = 4 ∨ 0 = 5 ∨ 0 = 6 ∨ 0 = 7 ∨ 0 = 8 ∨ 0 = 9 ∨ 0 = 10 ∨ 0 = 23 ∨ 0 = 24 by omega))).trans rfl))))⟩
  · replace hs1 : st1 = [.int 1, .ref x] := hs1
    subst st1
    replace b_13 : n_5 ≤ 255 := b_13
    refine z_if_ne (tgt := 23) B dX12_observe_16 rfl (fun c_3 => ?_) (fun h9 => absurd h9 (by decide))
    refine z_iconst (v := 0) B dX12_observe_23 rfl ?_
    refine z_iconst (v := 1) B dX12_observe_24 rfl ?_
    have h_5 : Φ2 x = some (o_ 14 [.int 0, .ref (x + 1), .ref (x + 2), .int v_2, .int v_3, .int (nI n_1), .int v_4, .int v_5, .ref (x + 3), .ref (x + 4), .int v_6, .long v_7, .ref (x + 5), .int (nI fl), .int v_8, .long v_9, .long v_10, .long v_11, .long v_12, .ref (x + 6), .ref (x + 7), .int (nI 0), .ref (x + 8), .int (nI le), .ref (x + 9), .ref (x + 10), .int (nI qu), .ref (x + 11), .ref (x + 12), .ref (x + 13), .ref (x + 14), .ref (x + 15), .ref (x + 16), .int (nI n_2), .long v_13, .ref (x + 17), .ref (x + 18), .ref (x + 19), .ref (x + 20), .ref (x + 21), .ref (x + 22), .int (nI n_3), .ref (x + 23), .ref (x + 24), .int (nI n_4), .ref (x + 25), .int (nI il), .int (nI nx), .int ec, .int v_14, .int kn, .int v_15, .int nu, .long va]) := ((hF1 x (fun j9 h8 h7 => (show False from h7).elim)).trans h_3)
    refine z_callV (As := [.int 0, .int 1]) (rest := []) B (r_throwsIf G l Φ2 sz x rd fl 0 le nx il qu kn ec nu va 0 1 hx hI2 (by decide)) (cwV 2 B.1.2.2.2.2 gX12_observe_X12_throwsIf rfl rfl rfl (by decide +kernel) ⟨Nat.le_of_ble_eq_true rfl, Nat.le_of_ble_eq_true rfl⟩) h_5 rfl rfl rfl rfl (Nat.le_of_ble_eq_true rfl) dX12_observe_25 ⟨Nat.le_of_ble_eq_true rfl, Nat.le_of_ble_eq_true rfl⟩ (fun r_3 Φ4 sz3 st3 hp3 hs3 => ?_)
    obtain ⟨rfl, hq3, hI4, hF3⟩ := hp3
    subst sz3
    replace hs3 : st3 = [.int 0] := hs3
    subst st3
    replace hI4 : Im G x (rd, NN, fl, 0, le, nx, il, qu, kn, ec, nu, va) Φ4 := hI4
    refine z_if_eq (tgt := 33) B dX12_observe_28 rfl (fun c_4 => ?_) (fun h9 => absurd (by decide) h9)
    refine z_aload_n B dX12_observe_33 rfl 0 rfl ?_
    refine z_iload_n B dX12_observe_34 rfl 1 rfl ?_
    refine z_iload_n B dX12_observe_35 rfl 2 rfl ?_
    refine z_iload_n B dX12_observe_36 rfl 3 rfl ?_
    refine z_iload B dX12_observe_37 4 rfl ?_
    refine z_iload B dX12_observe_39 5 rfl ?_
    obtain ⟨v_16, v_17, v_18, n_6, v_19, v_20, v_21, v_22, v_23, v_24, v_25, v_26, v_27, n_7, v_28, n_8, n_9, v_29, v_30, h_6, b_25, b_14, b_15, b_16, b_17, b_18, b_19, b_20, b_21, b_22, b_23, b_24⟩ := im0 hI4
    replace b_14 : 1 ≤ n_6 := b_14
    replace b_15 : n_6 ≤ 1024 := b_15
    replace b_16 : fl ≤ 12 := b_16
    replace b_17 : 0 ≤ 24 := b_17
    replace b_18 : le ≤ 700 := b_18
    replace b_19 : qu ≤ 12 := b_19
    replace b_20 : n_7 ≤ 8 := b_20
    replace b_21 : n_8 ≤ 24 := b_21
    replace b_22 : n_9 ≤ 24 := b_22
    replace b_23 : il ≤ 700 := b_23
    replace b_24 : nx ≤ 701 := b_24
    have h_7 : Φ4 x = some (o_ 14 [.int v_16, .ref (x + 1), .ref (x + 2), .int v_17, .int v_18, .int (nI n_6), .int v_19, .int v_20, .ref (x + 3), .ref (x + 4), .int v_21, .long v_22, .ref (x + 5), .int (nI fl), .int v_23, .long v_24, .long v_25, .long v_26, .long v_27, .ref (x + 6), .ref (x + 7), .int (nI 0), .ref (x + 8), .int (nI le), .ref (x + 9), .ref (x + 10), .int (nI qu), .ref (x + 11), .ref (x + 12), .ref (x + 13), .ref (x + 14), .ref (x + 15), .ref (x + 16), .int (nI n_7), .long v_28, .ref (x + 17), .ref (x + 18), .ref (x + 19), .ref (x + 20), .ref (x + 21), .ref (x + 22), .int (nI n_8), .ref (x + 23), .ref (x + 24), .int (nI n_9), .ref (x + 25), .int (nI il), .int (nI nx), .int ec, .int v_29, .int kn, .int v_30, .int nu, .long va]) := h_6
    obtain ⟨f_1, h_8, r_4⟩ := imk (k := 5) hI4
    replace r_4 : CC f_1 := r_4
    have h_9 : Φ4 (x + 5) = some (al_ G 96 f_1) := h_8
    refine z_callV (As := [.int a, .int b, .int d, .int (nI n_5), .int g]) (rest := []) B (r_see G l Φ4 sz x rd fl 0 le nx il qu kn ec nu va f_1 a b d n_5 g hx hI4 h_9 r_4 (show n_5 ≤ 255 by omega) (Or.inl rfl)) (cwV 5 B.1.2.2.2.2 gX12_observe_X12_see rfl rfl rfl (by decide +kernel) ⟨Nat.le_of_ble_eq_true rfl, Nat.le_of_ble_eq_true rfl⟩) h_7 rfl rfl rfl rfl (Nat.le_of_ble_eq_true rfl) dX12_observe_41 ⟨Nat.le_of_ble_eq_true rfl, Nat.le_of_ble_eq_true rfl⟩ (fun r_5 Φ5 sz4 st4 hp4 hs4 => ?_)
    obtain ⟨⟨v_31, rfl, b_27⟩, hq4, ⟨n_10, n_11, b_26, hI5⟩, hF4⟩ := hp4
    subst sz4
    replace hs4 : st4 = [.int v_31] := hs4
    subst st4
    replace hI5 : Im G x (rd, NN, n_10, n_11, le, nx, il, qu, kn, ec, nu, va) Φ5 := hI5
    replace b_26 : n_11 = 0 ∨ (n_11 ≤ 1 ∧ ∀ fC1, Φ5 (x + 5) = some (al_ G 96 fC1) → InC fC1 n_10 a b d (nI n_5)) := b_26
    refine z_istore (lv' := [(6, .int v_31), (0, .ref x), (1, .int a), (2, .int b), (3, .int d), (4, .int (nI n_5)), (5, .int g)]) B dX12_observe_44 (Nat.le_of_ble_eq_true rfl) rfl ?_
    refine z_aload_n B dX12_observe_46 rfl 1 rfl ?_
    obtain ⟨v_32, v_33, v_34, n_12, v_35, v_36, v_37, v_38, v_39, v_40, v_41, v_42, v_43, n_13, v_44, n_14, n_15, v_45, v_46, h_10, b_39, b_28, b_29, b_30, b_31, b_32, b_33, b_34, b_35, b_36, b_37, b_38⟩ := im0 hI5
    replace b_28 : 1 ≤ n_12 := b_28
    replace b_29 : n_12 ≤ 1024 := b_29
    replace b_30 : n_10 ≤ 12 := b_30
    replace b_31 : n_11 ≤ 24 := b_31
    replace b_32 : le ≤ 700 := b_32
    replace b_33 : qu ≤ 12 := b_33
    replace b_34 : n_13 ≤ 8 := b_34
    replace b_35 : n_14 ≤ 24 := b_35
    replace b_36 : n_15 ≤ 24 := b_36
    replace b_37 : il ≤ 700 := b_37
    replace b_38 : nx ≤ 701 := b_38
    have h_11 : Φ5 x = some (o_ 14 [.int v_32, .ref (x + 1), .ref (x + 2), .int v_33, .int v_34, .int (nI n_12), .int v_35, .int v_36, .ref (x + 3), .ref (x + 4), .int v_37, .long v_38, .ref (x + 5), .int (nI n_10), .int v_39, .long v_40, .long v_41, .long v_42, .long v_43, .ref (x + 6), .ref (x + 7), .int (nI n_11), .ref (x + 8), .int (nI le), .ref (x + 9), .ref (x + 10), .int (nI qu), .ref (x + 11), .ref (x + 12), .ref (x + 13), .ref (x + 14), .ref (x + 15), .ref (x + 16), .int (nI n_13), .long v_44, .ref (x + 17), .ref (x + 18), .ref (x + 19), .ref (x + 20), .ref (x + 21), .ref (x + 22), .int (nI n_14), .ref (x + 23), .ref (x + 24), .int (nI n_15), .ref (x + 25), .int (nI il), .int (nI nx), .int ec, .int v_45, .int kn, .int v_46, .int nu, .long va]) := h_10
    refine z_callV (As := []) (rest := []) B (r_sendPending G l Φ5 sz x rd n_10 n_11 le nx il qu kn ec nu va  hx hI5 ) (cwV 0 B.1.2.2.2.2 gX12_observe_X12_sendPending rfl rfl rfl (by decide +kernel) ⟨Nat.le_of_ble_eq_true rfl, Nat.le_of_ble_eq_true rfl⟩) h_11 rfl rfl rfl rfl (Nat.le_of_ble_eq_true rfl) dX12_observe_47 ⟨Nat.le_of_ble_eq_true rfl, Nat.le_of_ble_eq_true rfl⟩ (fun r_6 Φ6 sz5 st5 hp5 hs5 => ?_)
    obtain ⟨rfl, hq5, ⟨n_16, n_17, hI6⟩, hF5⟩ := hp5
    subst sz5
    replace hs5 : st5 = [] := hs5
    subst st5
    replace hI6 : Im G x (rd, NN, n_10, 0, n_16, nx, il, n_17, kn, ec, nu, va) Φ6 := hI6
    refine z_iload B dX12_observe_50 0 rfl ?_
    exact z_ret_z B dX12_observe_52 b_27 ⟨⟨_, rfl, b_27⟩, rfl, ⟨n_10, n_16, n_17, hI6⟩, (fun b9 h9 => ((hF5 b9 (fun j9 h8 h7 => h9 j9 h8 (show j9 = 0 ∨ j9 = 3 ∨ j9 = 4 ∨ j9 = 5 ∨ j9 = 6 ∨ j9 = 7 ∨ j9 = 8 ∨ j9 = 9 ∨ j9 = 10 ∨ j9 = 23 ∨ j9 = 24 by have h6 : j9 = 0 ∨ j9 = 3 ∨ j9 = 4 ∨ j9 = 8 ∨ j9 = 9 ∨ j9 = 10 := h7; omega))).trans ((hF4 b9 (fun j9 h8 h7 => h9 j9 h8 (show j9 = 0 ∨ j9 = 3 ∨ j9 = 4 ∨ j9 = 5 ∨ j9 = 6 ∨ j9 = 7 ∨ j9 = 8 ∨ j9 = 9 ∨ j9 = 10 ∨ j9 = 23 ∨ j9 = 24 by have h6 : j9 = 0 ∨ j9 = 5 ∨ j9 = 6 ∨ j9 = 7 ∨ j9 = 23 ∨ j9 = 24 := h7; omega))).trans ((hF3 b9 (fun j9 h8 h7 => h9 j9 h8 (show j9 = 0 ∨ j9 = 3 ∨ j9 = 4 ∨ j9 = 5 ∨ j9 = 6 ∨ j9 = 7 ∨ j9 = 8 ∨ j9 = 9 ∨ j9 = 10 ∨ j9 = 23 ∨ j9 = 24 by have h6 : j9 = 0 := h7; omega))).trans ((hF1 b9 (fun j9 h8 h7 => (show False from h7).elim)).trans ((fset_fr hΦ1 (fun h8 => h9 (0) h8 (show 0 = 0 ∨ 0 = 3 ∨ 0 = 4 ∨ 0 = 5 ∨ 0 = 6 ∨ 0 = 7 ∨ 0 = 8 ∨ 0 = 9 ∨ 0 = 10 ∨ 0 = 23 ∨ 0 = 24 by omega))).trans rfl))))))⟩

set_option maxHeartbeats 4000000 in
set_option maxRecDepth 100000 in
theorem r_observeMany (G : EnvG) (l : Launch) (Φ : Hm) (sz x : Nat) (rd : (Nat → Int32) → Prop) (fl : Nat) (le : Nat) (nx : Nat) (il : Nat) (qu : Nat) (kn : Int32) (ec : Int32) (nu : Int32) (va : Int64) (a : Int32) (b : Int32) (d : Int32) (f : Int32) (g : Int32) (h : Int32) (hx : G.2.2.2 ≤ x) (hI : Im G x (rd, NN, fl, 0, le, nx, il, qu, kn, ec, nu, va) Φ)  : Ct G l yX12_observeMany wsX12_observeMany ({ frames := 7, cells := 0, slots := 0, locals := 160 }) 0 0 [.ref x, .int a, .int b, .int d, .int f, .int g, .int h] Φ sz (fun v Φ1 sz1 => (∃ r9 : Int32, v = some (.int r9)) ∧ sz1 = sz ∧ (∃ (fl1 : Nat) (le1 : Nat) (qu1 : Nat), Im G x (rd, NN, fl1, 0, le1, nx, il, qu1, kn, ec, nu, va) Φ1) ∧ Fr x (fun j9 => j9 = 0 ∨ j9 = 3 ∨ j9 = 4 ∨ j9 = 5 ∨ j9 = 6 ∨ j9 = 7 ∨ j9 = 8 ∨ j9 = 9 ∨ j9 = 10 ∨ j9 = 23 ∨ j9 = 24) Φ Φ1) := by
  refine Ct.of (cc := cX12_observeMany) (maxL := 9) (ret := (some .int)) (by decide) rfl (Nat.le_of_ble_eq_true rfl) ?_
  intro p9 e9 s9 m9 w9 t9 k9 B
  show Z p9 l e9 _ s9 m9 _ w9 t9 k9 _ G 9 0 [(0, .ref x), (1, .int a), (2, .int b), (3, .int d), (4, .int f), (5, .int g), (6, .int h)] [] Φ sz 0 0
  refine z_aload_n B dX12_observeMany_0 rfl 0 rfl ?_
  refine z_iconst (v := 0) B dX12_observeMany_1 rfl ?_
  obtain ⟨v_1, v_2, v_3, n_1, v_4, v_5, v_6, v_7, v_8, v_9, v_10, v_11, v_12, n_2, v_13, n_3, n_4, v_14, v_15, h_1, b_12, b_1, b_2, b_3, b_4, b_5, b_6, b_7, b_8, b_9, b_10, b_11⟩ := im0 hI
  replace b_1 : 1 ≤ n_1 := b_1
  replace b_2 : n_1 ≤ 1024 := b_2
  replace b_3 : fl ≤ 12 := b_3
  replace b_4 : 0 ≤ 24 := b_4
  replace b_5 : le ≤ 700 := b_5
  replace b_6 : qu ≤ 12 := b_6
  replace b_7 : n_2 ≤ 8 := b_7
  replace b_8 : n_3 ≤ 24 := b_8
  replace b_9 : n_4 ≤ 24 := b_9
  replace b_10 : il ≤ 700 := b_10
  replace b_11 : nx ≤ 701 := b_11
  have h_2 : Φ x = some (o_ 14 [.int v_1, .ref (x + 1), .ref (x + 2), .int v_2, .int v_3, .int (nI n_1), .int v_4, .int v_5, .ref (x + 3), .ref (x + 4), .int v_6, .long v_7, .ref (x + 5), .int (nI fl), .int v_8, .long v_9, .long v_10, .long v_11, .long v_12, .ref (x + 6), .ref (x + 7), .int (nI 0), .ref (x + 8), .int (nI le), .ref (x + 9), .ref (x + 10), .int (nI qu), .ref (x + 11), .ref (x + 12), .ref (x + 13), .ref (x + 14), .ref (x + 15), .ref (x + 16), .int (nI n_2), .long v_13, .ref (x + 17), .ref (x + 18), .ref (x + 19), .ref (x + 20), .ref (x + 21), .ref (x + 22), .int (nI n_3), .ref (x + 23), .ref (x + 24), .int (nI n_4), .ref (x + 25), .int (nI il), .int (nI nx), .int ec, .int v_14, .int kn, .int v_15, .int nu, .long va]) := h_1
  refine z_put (ref := "FlowExporterModel") (C := RX12) (T := TX12) (N := 54) (ci := 14) (v := .int 0) B (by decide +kernel) tyX12 tyX12_ok nmX12 rfl 0 (by decide) (by decide +kernel) rfl (Or.inl rfl) h_2 hx rfl rfl (Nat.le_of_ble_eq_true rfl) dX12_observeMany_2 (fun Φ1 hΦ1 => ?_)
  have h_3 : Φ1 x = some (o_ 14 [.int 0, .ref (x + 1), .ref (x + 2), .int v_2, .int v_3, .int (nI n_1), .int v_4, .int v_5, .ref (x + 3), .ref (x + 4), .int v_6, .long v_7, .ref (x + 5), .int (nI fl), .int v_8, .long v_9, .long v_10, .long v_11, .long v_12, .ref (x + 6), .ref (x + 7), .int (nI 0), .ref (x + 8), .int (nI le), .ref (x + 9), .ref (x + 10), .int (nI qu), .ref (x + 11), .ref (x + 12), .ref (x + 13), .ref (x + 14), .ref (x + 15), .ref (x + 16), .int (nI n_2), .long v_13, .ref (x + 17), .ref (x + 18), .ref (x + 19), .ref (x + 20), .ref (x + 21), .ref (x + 22), .int (nI n_3), .ref (x + 23), .ref (x + 24), .int (nI n_4), .ref (x + 25), .int (nI il), .int (nI nx), .int ec, .int v_14, .int kn, .int v_15, .int nu, .long va]) := fset_at hΦ1
  have hI1 : Im G x (rd, NN, fl, 0, le, nx, il, qu, kn, ec, nu, va) Φ1 := Im.put0 hI hΦ1 ⟨0, v_2, v_3, n_1, v_4, v_5, v_6, v_7, v_8, v_9, v_10, v_11, v_12, n_2, v_13, n_3, n_4, v_14, v_15, rfl, b_12, (show 1 ≤ n_1 by omega), (show n_1 ≤ 1024 by omega), (show fl ≤ 12 by omega), (show 0 ≤ 24 by omega), (show le ≤ 700 by omega), (show qu ≤ 12 by omega), (show n_2 ≤ 8 by omega), (show n_3 ≤ 24 by omega), (show n_4 ≤ 24 by omega), (show il ≤ 700 by omega), (show nx ≤ 701 by omega)⟩
  refine z_aload_n B dX12_observeMany_5 rfl 0 rfl ?_
  refine z_iload_n B dX12_observeMany_6 rfl 1 rfl ?_
  refine z_iload_n B dX12_observeMany_7 rfl 2 rfl ?_
  refine z_iload_n B dX12_observeMany_8 rfl 3 rfl ?_
  refine z_iload B dX12_observeMany_9 4 rfl ?_
  refine z_iload B dX12_observeMany_11 5 rfl ?_
  refine z_callS (As := [.int a, .int b, .int d, .int f, .int g]) (rest := [.ref x]) B (r_isPacket G l Φ1 sz x rd fl 0 le nx il qu kn ec nu va a b d f g hx hI1 ) (va_cwS 5 B.1.2.2.2.2 gX12_observeMany_X12_isPacket rfl rfl rfl (by decide +kernel) ⟨Nat.le_of_ble_eq_true rfl, Nat.le_of_ble_eq_true rfl⟩) rfl rfl (Nat.le_of_ble_eq_true rfl) dX12_observeMany_13 ⟨Nat.le_of_ble_eq_true rfl, Nat.le_of_ble_eq_true rfl⟩ (fun r_1 Φ2 sz1 st1 hp1 hs1 => ?_)
  obtain ⟨ha1, hq1, hI2, hF1⟩ := hp1
  subst sz1
  replace hI2 : Im G x (rd, NN, fl, 0, le, nx, il, qu, kn, ec, nu, va) Φ2 := hI2
  rcases ha1 with rfl | ⟨rfl, n_5, b_13, rfl⟩
  · replace hs1 : st1 = [.int 0, .ref x] := hs1
    subst st1
    refine z_if_eq (tgt := 32) B dX12_observeMany_16 rfl (fun c_1 => ?_) (fun h9 => absurd (by decide) h9)
    refine z_iconst (v := 1) B dX12_observeMany_32 rfl ?_
    refine z_goto (tgt := 37) B dX12_observeMany_33 rfl ?_
    refine z_iconst (v := 1) B dX12_observeMany_37 rfl ?_
    have h_4 : Φ2 x = some (o_ 14 [.int 0, .ref (x + 1), .ref (x + 2), .int v_2, .int v_3, .int (nI n_1), .int v_4, .int v_5, .ref (x + 3), .ref (x + 4), .int v_6, .long v_7, .ref (x + 5), .int (nI fl), .int v_8, .long v_9, .long v_10, .long v_11, .long v_12, .ref (x + 6), .ref (x + 7), .int (nI 0), .ref (x + 8), .int (nI le), .ref (x + 9), .ref (x + 10), .int (nI qu), .ref (x + 11), .ref (x + 12), .ref (x + 13), .ref (x + 14), .ref (x + 15), .ref (x + 16), .int (nI n_2), .long v_13, .ref (x + 17), .ref (x + 18), .ref (x + 19), .ref (x + 20), .ref (x + 21), .ref (x + 22), .int (nI n_3), .ref (x + 23), .ref (x + 24), .int (nI n_4), .ref (x + 25), .int (nI il), .int (nI nx), .int ec, .int v_14, .int kn, .int v_15, .int nu, .long va]) := ((hF1 x (fun j9 h8 h7 => (show False from h7).elim)).trans h_3)
    refine z_callV (As := [.int 1, .int 1]) (rest := []) B (r_throwsIf G l Φ2 sz x rd fl 0 le nx il qu kn ec nu va 1 1 hx hI2 (by decide)) (cwV 2 B.1.2.2.2.2 gX12_observeMany_X12_throwsIf rfl rfl rfl (by decide +kernel) ⟨Nat.le_of_ble_eq_true rfl, Nat.le_of_ble_eq_true rfl⟩) h_4 rfl rfl rfl rfl (Nat.le_of_ble_eq_true rfl) dX12_observeMany_38 ⟨Nat.le_of_ble_eq_true rfl, Nat.le_of_ble_eq_true rfl⟩ (fun r_2 Φ3 sz2 st2 hp2 hs2 => ?_)
    obtain ⟨rfl, hq2, hI3, hF2⟩ := hp2
    subst sz2
    replace hs2 : st2 = [.int 1] := hs2
    subst st2
    replace hI3 : Im G x (rd, NN, fl, 0, le, nx, il, qu, kn, ec, nu, va) Φ3 := hI3
    refine z_if_eq (tgt := 46) B dX12_observeMany_41 rfl (fun h9 => absurd h9 (by decide)) (fun c_2 => ?_)
    refine z_iconst (v := 0) B dX12_observeMany_44 rfl ?_
    exact z_ret_i B dX12_observeMany_45 ⟨⟨_, rfl⟩, rfl, ⟨fl, le, qu, hI3⟩, (fun b9 h9 => ((hF2 b9 (fun j9 h8 h7 => h9 j9 h8 (show j9 = 0 ∨ j9 = 3 ∨ j9 = 4 ∨ j9 = 5 ∨ j9 = 6 ∨ j9 = 7 ∨ j9 = 8 ∨ j9 = 9 ∨ j9 = 10 ∨ j9 = 23 ∨ j9 = 24 by have h6 : j9 = 0 := h7; omega))).trans ((hF1 b9 (fun j9 h8 h7 => (show False from h7).elim)).trans ((fset_fr hΦ1 (fun h8 => h9 (0) h8 (show 0 = 0 ∨ 0 = 3 ∨ 0 = 4 ∨ 0 = 5 ∨ 0 = 6 ∨ 0 = 7 ∨ 0 = 8 ∨ 0 = 9 ∨ 0 = 10 ∨ 0 = 23 ∨ 0 = 24 by omega))).trans rfl))))⟩
  · replace hs1 : st1 = [.int 1, .ref x] := hs1
    subst st1
    replace b_13 : n_5 ≤ 255 := b_13
    refine z_if_eq (tgt := 32) B dX12_observeMany_16 rfl (fun h9 => absurd h9 (by decide)) (fun c_3 => ?_)
    refine z_iload B dX12_observeMany_19 6 rfl ?_
    refine z_i2l (v := h.toInt64) B dX12_observeMany_21 rfl ?_
    refine z_lconst (v := 1) B dX12_observeMany_22 rfl ?_
    refine z_ldc2 (v := 200) B (by decide +kernel) dX12_observeMany_23 ?_
    by_cases hR1 : inP h.toInt64 1 200
    · obtain ⟨n_6, e_1, e_2, e_3, rfl⟩ := in_get (L := 1) (H := 200) (by decide) (by decide) hR1
      refine z_callS (As := [.long ((nI n_6).toInt64), .long 1, .long 200]) (rest := [.ref x]) B (c_inR1 G l Φ2 sz ((nI n_6).toInt64) 1 200 hR1 (fun v8 Φ8 sz8 => v8 = some (.int 1) ∧ sz8 = sz ∧ Im G x (rd, NN, fl, 0, le, nx, il, qu, kn, ec, nu, va) Φ8 ∧ Fr x (fun j9 => False) Φ2 Φ8) ⟨rfl, rfl, hI2, fun _ _ => rfl⟩) (va_cwS 3 B.1.2.2.2.2 gX12_observeMany_X12_inRange rfl rfl rfl (by decide +kernel) ⟨Nat.le_of_ble_eq_true rfl, Nat.le_of_ble_eq_true rfl⟩) rfl rfl (Nat.le_of_ble_eq_true rfl) dX12_observeMany_26 ⟨Nat.le_of_ble_eq_true rfl, Nat.le_of_ble_eq_true rfl⟩ (fun r_3 Φ4 sz3 st3 hp3 hs3 => ?_)
      obtain ⟨rfl, hq3, hI4, hF3⟩ := hp3
      subst sz3
      replace hs3 : st3 = [.int 1, .ref x] := hs3
      subst st3
      refine z_if_ne (tgt := 36) B dX12_observeMany_29 rfl (fun c_4 => ?_) (fun h9 => absurd h9 (by decide))
      refine z_iconst (v := 0) B dX12_observeMany_36 rfl ?_
      refine z_iconst (v := 1) B dX12_observeMany_37 rfl ?_
      have h_5 : Φ4 x = some (o_ 14 [.int 0, .ref (x + 1), .ref (x + 2), .int v_2, .int v_3, .int (nI n_1), .int v_4, .int v_5, .ref (x + 3), .ref (x + 4), .int v_6, .long v_7, .ref (x + 5), .int (nI fl), .int v_8, .long v_9, .long v_10, .long v_11, .long v_12, .ref (x + 6), .ref (x + 7), .int (nI 0), .ref (x + 8), .int (nI le), .ref (x + 9), .ref (x + 10), .int (nI qu), .ref (x + 11), .ref (x + 12), .ref (x + 13), .ref (x + 14), .ref (x + 15), .ref (x + 16), .int (nI n_2), .long v_13, .ref (x + 17), .ref (x + 18), .ref (x + 19), .ref (x + 20), .ref (x + 21), .ref (x + 22), .int (nI n_3), .ref (x + 23), .ref (x + 24), .int (nI n_4), .ref (x + 25), .int (nI il), .int (nI nx), .int ec, .int v_14, .int kn, .int v_15, .int nu, .long va]) := ((hF3 x (fun j9 h8 h7 => (show False from h7).elim)).trans ((hF1 x (fun j9 h8 h7 => (show False from h7).elim)).trans h_3))
      refine z_callV (As := [.int 0, .int 1]) (rest := []) B (r_throwsIf G l Φ4 sz x rd fl 0 le nx il qu kn ec nu va 0 1 hx hI4 (by decide)) (cwV 2 B.1.2.2.2.2 gX12_observeMany_X12_throwsIf rfl rfl rfl (by decide +kernel) ⟨Nat.le_of_ble_eq_true rfl, Nat.le_of_ble_eq_true rfl⟩) h_5 rfl rfl rfl rfl (Nat.le_of_ble_eq_true rfl) dX12_observeMany_38 ⟨Nat.le_of_ble_eq_true rfl, Nat.le_of_ble_eq_true rfl⟩ (fun r_4 Φ5 sz4 st4 hp4 hs4 => ?_)
      obtain ⟨rfl, hq4, hI5, hF4⟩ := hp4
      subst sz4
      replace hs4 : st4 = [.int 0] := hs4
      subst st4
      replace hI5 : Im G x (rd, NN, fl, 0, le, nx, il, qu, kn, ec, nu, va) Φ5 := hI5
      refine z_if_eq (tgt := 46) B dX12_observeMany_41 rfl (fun c_5 => ?_) (fun h9 => absurd (by decide) h9)
      refine z_iconst (v := 0) B dX12_observeMany_46 rfl ?_
      refine z_istore (lv' := [(7, .int 0), (0, .ref x), (1, .int a), (2, .int b), (3, .int d), (4, .int (nI n_5)), (5, .int g), (6, .int (nI n_6))]) B dX12_observeMany_47 (Nat.le_of_ble_eq_true rfl) rfl ?_
      refine z_iconst (v := 0) B dX12_observeMany_49 rfl ?_
      refine z_istore (lv' := [(8, .int 0), (7, .int 0), (0, .ref x), (1, .int a), (2, .int b), (3, .int d), (4, .int (nI n_5)), (5, .int g), (6, .int (nI n_6))]) B dX12_observeMany_50 (Nat.le_of_ble_eq_true rfl) rfl ?_
      refine z_lv [0, 1, 2, 3, 4, 5, 6, 7, 8] rfl ?_
      refine z_loop (α := Nat × Int32 × Nat × Nat) (fun (a9 : Nat × Int32 × Nat × Nat) Φi => Im G x (rd, NN, a9.2.2.1, a9.2.2.2, le, nx, il, qu, kn, ec, nu, va) Φi ∧ Fr x (fun j9 => j9 = 0 ∨ j9 = 5 ∨ j9 = 6 ∨ j9 = 7 ∨ j9 = 23 ∨ j9 = 24) Φ5 Φi ∧ (a9.1 ≤ n_6) ∧ (a9.2.2.2 = 0 ∨ (a9.2.2.2 ≤ 1 ∧ ∀ fC1, Φi (x + 5) = some (al_ G 96 fC1) → InC fC1 a9.2.2.1 a b d (nI n_5))) ∧ True) (fun a9 => [(8, .int (nI (a9.1))), (7, .int a9.2.1), (0, .ref x), (1, .int a), (2, .int b), (3, .int d), (4, .int (nI n_5)), (5, .int g), (6, .int (nI n_6))]) (fun a9 => n_6 - a9.1) ?_ (0, 0, fl, 0) ⟨hI5, fun _ _ => rfl, (show 0 ≤ n_6 by omega), (Or.inl rfl), trivial⟩
      rintro ⟨i_1, i_2, i_3, i_4⟩ Φl1 ⟨hI6, hF5, b_14, b_15, -⟩ ih1
      replace hI6 : Im G x (rd, NN, i_3, i_4, le, nx, il, qu, kn, ec, nu, va) Φl1 := hI6
      replace b_14 : i_1 ≤ n_6 := b_14
      replace b_15 : i_4 = 0 ∨ (i_4 ≤ 1 ∧ ∀ fC1, Φl1 (x + 5) = some (al_ G 96 fC1) → InC fC1 i_3 a b d (nI n_5)) := b_15
      show Z p9 l e9 _ s9 m9 _ w9 t9 k9 _ G 9 52 [(8, .int (nI i_1)), (7, .int i_2), (0, .ref x), (1, .int a), (2, .int b), (3, .int d), (4, .int (nI n_5)), (5, .int g), (6, .int (nI n_6))] [] Φl1 _ _ _
      refine z_iload B dX12_observeMany_52 0 rfl ?_
      refine z_iload B dX12_observeMany_54 8 rfl ?_
      refine z_icmp_ge (tgt := 89) B dX12_observeMany_56 rfl (fun c_6 => ?_) (fun c_6 => ?_)
      · have e_4 : n_6 ≤ i_1 := (nI_leI (a := n_6) (b := i_1) (by omega) (by omega)).mp c_6
        refine z_aload_n B dX12_observeMany_89 rfl 2 rfl ?_
        obtain ⟨v_16, v_17, v_18, n_7, v_19, v_20, v_21, v_22, v_23, v_24, v_25, v_26, v_27, n_8, v_28, n_9, n_10, v_29, v_30, h_6, b_27, b_16, b_17, b_18, b_19, b_20, b_21, b_22, b_23, b_24, b_25, b_26⟩ := im0 hI6
        replace b_16 : 1 ≤ n_7 := b_16
        replace b_17 : n_7 ≤ 1024 := b_17
        replace b_18 : i_3 ≤ 12 := b_18
        replace b_19 : i_4 ≤ 24 := b_19
        replace b_20 : le ≤ 700 := b_20
        replace b_21 : qu ≤ 12 := b_21
        replace b_22 : n_8 ≤ 8 := b_22
        replace b_23 : n_9 ≤ 24 := b_23
        replace b_24 : n_10 ≤ 24 := b_24
        replace b_25 : il ≤ 700 := b_25
        replace b_26 : nx ≤ 701 := b_26
        have h_7 : Φl1 x = some (o_ 14 [.int v_16, .ref (x + 1), .ref (x + 2), .int v_17, .int v_18, .int (nI n_7), .int v_19, .int v_20, .ref (x + 3), .ref (x + 4), .int v_21, .long v_22, .ref (x + 5), .int (nI i_3), .int v_23, .long v_24, .long v_25, .long v_26, .long v_27, .ref (x + 6), .ref (x + 7), .int (nI i_4), .ref (x + 8), .int (nI le), .ref (x + 9), .ref (x + 10), .int (nI qu), .ref (x + 11), .ref (x + 12), .ref (x + 13), .ref (x + 14), .ref (x + 15), .ref (x + 16), .int (nI n_8), .long v_28, .ref (x + 17), .ref (x + 18), .ref (x + 19), .ref (x + 20), .ref (x + 21), .ref (x + 22), .int (nI n_9), .ref (x + 23), .ref (x + 24), .int (nI n_10), .ref (x + 25), .int (nI il), .int (nI nx), .int ec, .int v_29, .int kn, .int v_30, .int nu, .long va]) := h_6
        refine z_callV (As := []) (rest := []) B (r_sendPending G l Φl1 sz x rd i_3 i_4 le nx il qu kn ec nu va  hx hI6 ) (cwV 0 B.1.2.2.2.2 gX12_observeMany_X12_sendPending rfl rfl rfl (by decide +kernel) ⟨Nat.le_of_ble_eq_true rfl, Nat.le_of_ble_eq_true rfl⟩) h_7 rfl rfl rfl rfl (Nat.le_of_ble_eq_true rfl) dX12_observeMany_90 ⟨Nat.le_of_ble_eq_true rfl, Nat.le_of_ble_eq_true rfl⟩ (fun r_5 Φ6 sz5 st5 hp5 hs5 => ?_)
        obtain ⟨rfl, hq5, ⟨n_11, n_12, hI7⟩, hF6⟩ := hp5
        subst sz5
        replace hs5 : st5 = [] := hs5
        subst st5
        replace hI7 : Im G x (rd, NN, i_3, 0, n_11, nx, il, n_12, kn, ec, nu, va) Φ6 := hI7
        refine z_iload B dX12_observeMany_93 1 rfl ?_
        exact z_ret_i B dX12_observeMany_95 ⟨⟨_, rfl⟩, rfl, ⟨i_3, n_11, n_12, hI7⟩, (fun b9 h9 => ((hF6 b9 (fun j9 h8 h7 => h9 j9 h8 (show j9 = 0 ∨ j9 = 3 ∨ j9 = 4 ∨ j9 = 5 ∨ j9 = 6 ∨ j9 = 7 ∨ j9 = 8 ∨ j9 = 9 ∨ j9 = 10 ∨ j9 = 23 ∨ j9 = 24 by have h6 : j9 = 0 ∨ j9 = 3 ∨ j9 = 4 ∨ j9 = 8 ∨ j9 = 9 ∨ j9 = 10 := h7; omega))).trans ((hF5 b9 (fun j9 h8 h7 => h9 j9 h8 (show j9 = 0 ∨ j9 = 3 ∨ j9 = 4 ∨ j9 = 5 ∨ j9 = 6 ∨ j9 = 7 ∨ j9 = 8 ∨ j9 = 9 ∨ j9 = 10 ∨ j9 = 23 ∨ j9 = 24 by have h6 : j9 = 0 ∨ j9 = 5 ∨ j9 = 6 ∨ j9 = 7 ∨ j9 = 23 ∨ j9 = 24 := h7; omega))).trans ((hF4 b9 (fun j9 h8 h7 => h9 j9 h8 (show j9 = 0 ∨ j9 = 3 ∨ j9 = 4 ∨ j9 = 5 ∨ j9 = 6 ∨ j9 = 7 ∨ j9 = 8 ∨ j9 = 9 ∨ j9 = 10 ∨ j9 = 23 ∨ j9 = 24 by have h6 : j9 = 0 := h7; omega))).trans ((hF3 b9 (fun j9 h8 h7 => (show False from h7).elim)).trans ((hF1 b9 (fun j9 h8 h7 => (show False from h7).elim)).trans ((fset_fr hΦ1 (fun h8 => h9 (0) h8 (show 0 = 0 ∨ 0 = 3 ∨ 0 = 4 ∨ 0 = 5 ∨ 0 = 6 ∨ 0 = 7 ∨ 0 = 8 ∨ 0 = 9 ∨ 0 = 10 ∨ 0 = 23 ∨ 0 = 24 by omega))).trans rfl)))))))⟩
      · have e_5 : ¬ (n_6 ≤ i_1) := fun h9 => c_6 ((nI_leI (a := n_6) (b := i_1) (by omega) (by omega)).mpr h9)
        refine z_iload B dX12_observeMany_59 1 rfl ?_
        refine z_aload_n B dX12_observeMany_61 rfl 2 rfl ?_
        refine z_iload_n B dX12_observeMany_62 rfl 3 rfl ?_
        refine z_iload_n B dX12_observeMany_63 rfl 4 rfl ?_
        refine z_iload_n B dX12_observeMany_64 rfl 5 rfl ?_
        refine z_iload B dX12_observeMany_65 6 rfl ?_
        refine z_iload B dX12_observeMany_67 7 rfl ?_
        obtain ⟨v_31, v_32, v_33, n_13, v_34, v_35, v_36, v_37, v_38, v_39, v_40, v_41, v_42, n_14, v_43, n_15, n_16, v_44, v_45, h_8, b_39, b_28, b_29, b_30, b_31, b_32, b_33, b_34, b_35, b_36, b_37, b_38⟩ := im0 hI6
        replace b_28 : 1 ≤ n_13 := b_28
        replace b_29 : n_13 ≤ 1024 := b_29
        replace b_30 : i_3 ≤ 12 := b_30
        replace b_31 : i_4 ≤ 24 := b_31
        replace b_32 : le ≤ 700 := b_32
        replace b_33 : qu ≤ 12 := b_33
        replace b_34 : n_14 ≤ 8 := b_34
        replace b_35 : n_15 ≤ 24 := b_35
        replace b_36 : n_16 ≤ 24 := b_36
        replace b_37 : il ≤ 700 := b_37
        replace b_38 : nx ≤ 701 := b_38
        have h_9 : Φl1 x = some (o_ 14 [.int v_31, .ref (x + 1), .ref (x + 2), .int v_32, .int v_33, .int (nI n_13), .int v_34, .int v_35, .ref (x + 3), .ref (x + 4), .int v_36, .long v_37, .ref (x + 5), .int (nI i_3), .int v_38, .long v_39, .long v_40, .long v_41, .long v_42, .ref (x + 6), .ref (x + 7), .int (nI i_4), .ref (x + 8), .int (nI le), .ref (x + 9), .ref (x + 10), .int (nI qu), .ref (x + 11), .ref (x + 12), .ref (x + 13), .ref (x + 14), .ref (x + 15), .ref (x + 16), .int (nI n_14), .long v_43, .ref (x + 17), .ref (x + 18), .ref (x + 19), .ref (x + 20), .ref (x + 21), .ref (x + 22), .int (nI n_15), .ref (x + 23), .ref (x + 24), .int (nI n_16), .ref (x + 25), .int (nI il), .int (nI nx), .int ec, .int v_44, .int kn, .int v_45, .int nu, .long va]) := h_8
        obtain ⟨f_1, h_10, r_6⟩ := imk (k := 5) hI6
        replace r_6 : CC f_1 := r_6
        have h_11 : Φl1 (x + 5) = some (al_ G 96 f_1) := h_10
        refine z_callV (As := [.int a, .int b, .int d, .int (nI n_5), .int g]) (rest := [.int i_2]) B (r_see G l Φl1 sz x rd i_3 i_4 le nx il qu kn ec nu va f_1 a b d n_5 g hx hI6 h_11 r_6 (show n_5 ≤ 255 by omega) (Or.imp id (fun h9 => ⟨h9.1, h9.2 _ h_11⟩) b_15)) (cwV 5 B.1.2.2.2.2 gX12_observeMany_X12_see rfl rfl rfl (by decide +kernel) ⟨Nat.le_of_ble_eq_true rfl, Nat.le_of_ble_eq_true rfl⟩) h_9 rfl rfl rfl rfl (Nat.le_of_ble_eq_true rfl) dX12_observeMany_69 ⟨Nat.le_of_ble_eq_true rfl, Nat.le_of_ble_eq_true rfl⟩ (fun r_7 Φ7 sz6 st6 hp6 hs6 => ?_)
        obtain ⟨⟨v_46, rfl, b_41⟩, hq6, ⟨n_17, n_18, b_40, hI8⟩, hF7⟩ := hp6
        subst sz6
        replace hs6 : st6 = [.int v_46, .int i_2] := hs6
        subst st6
        replace hI8 : Im G x (rd, NN, n_17, n_18, le, nx, il, qu, kn, ec, nu, va) Φ7 := hI8
        replace b_40 : n_18 = 0 ∨ (n_18 ≤ 1 ∧ ∀ fC1, Φ7 (x + 5) = some (al_ G 96 fC1) → InC fC1 n_17 a b d (nI n_5)) := b_40
        refine z_if_eq (tgt := 79) B dX12_observeMany_72 rfl (fun c_7 => ?_) (fun c_7 => ?_)
        · refine z_iconst (v := 0) B dX12_observeMany_79 rfl ?_
          refine z_iadd B dX12_observeMany_80 ?_
          refine z_fi (fun v_47 => ?_)
          refine z_istore (lv' := [(7, .int v_47), (8, .int (nI i_1)), (0, .ref x), (1, .int a), (2, .int b), (3, .int d), (4, .int (nI n_5)), (5, .int g), (6, .int (nI n_6))]) B dX12_observeMany_81 (Nat.le_of_ble_eq_true rfl) rfl ?_
          refine z_iinc (k := 1) (v := nI (i_1 + 1)) (lv' := [(8, .int (nI (i_1 + 1))), (7, .int v_47), (0, .ref x), (1, .int a), (2, .int b), (3, .int d), (4, .int (nI n_5)), (5, .int g), (6, .int (nI n_6))]) B dX12_observeMany_83 rfl (nI_add i_1 1) (Nat.le_of_ble_eq_true rfl) rfl ?_
          refine z_goto (tgt := 52) B dX12_observeMany_86 rfl ?_
          refine z_lv [0, 1, 2, 3, 4, 5, 6, 7, 8] rfl ?_
          exact ih1 (i_1 + 1, v_47, n_17, n_18) Φ7 (show n_6 - (i_1 + 1) < n_6 - i_1 by omega) ⟨hI8, (fun b9 h9 => ((hF7 b9 (fun j9 h8 h7 => h9 j9 h8 (show j9 = 0 ∨ j9 = 5 ∨ j9 = 6 ∨ j9 = 7 ∨ j9 = 23 ∨ j9 = 24 by have h6 : j9 = 0 ∨ j9 = 5 ∨ j9 = 6 ∨ j9 = 7 ∨ j9 = 23 ∨ j9 = 24 := h7; omega))).trans ((hF5 b9 (fun j9 h8 h7 => h9 j9 h8 (show j9 = 0 ∨ j9 = 5 ∨ j9 = 6 ∨ j9 = 7 ∨ j9 = 23 ∨ j9 = 24 by have h6 : j9 = 0 ∨ j9 = 5 ∨ j9 = 6 ∨ j9 = 7 ∨ j9 = 23 ∨ j9 = 24 := h7; omega))).trans rfl))), (show (i_1 + 1) ≤ n_6 by omega), b_40, trivial⟩
        · refine z_iconst (v := 1) B dX12_observeMany_75 rfl ?_
          refine z_goto (tgt := 80) B dX12_observeMany_76 rfl ?_
          refine z_iadd B dX12_observeMany_80 ?_
          refine z_fi (fun v_48 => ?_)
          refine z_istore (lv' := [(7, .int v_48), (8, .int (nI i_1)), (0, .ref x), (1, .int a), (2, .int b), (3, .int d), (4, .int (nI n_5)), (5, .int g), (6, .int (nI n_6))]) B dX12_observeMany_81 (Nat.le_of_ble_eq_true rfl) rfl ?_
          refine z_iinc (k := 1) (v := nI (i_1 + 1)) (lv' := [(8, .int (nI (i_1 + 1))), (7, .int v_48), (0, .ref x), (1, .int a), (2, .int b), (3, .int d), (4, .int (nI n_5)), (5, .int g), (6, .int (nI n_6))]) B dX12_observeMany_83 rfl (nI_add i_1 1) (Nat.le_of_ble_eq_true rfl) rfl ?_
          refine z_goto (tgt := 52) B dX12_observeMany_86 rfl ?_
          refine z_lv [0, 1, 2, 3, 4, 5, 6, 7, 8] rfl ?_
          exact ih1 (i_1 + 1, v_48, n_17, n_18) Φ7 (show n_6 - (i_1 + 1) < n_6 - i_1 by omega) ⟨hI8, (fun b9 h9 => ((hF7 b9 (fun j9 h8 h7 => h9 j9 h8 (show j9 = 0 ∨ j9 = 5 ∨ j9 = 6 ∨ j9 = 7 ∨ j9 = 23 ∨ j9 = 24 by have h6 : j9 = 0 ∨ j9 = 5 ∨ j9 = 6 ∨ j9 = 7 ∨ j9 = 23 ∨ j9 = 24 := h7; omega))).trans ((hF5 b9 (fun j9 h8 h7 => h9 j9 h8 (show j9 = 0 ∨ j9 = 5 ∨ j9 = 6 ∨ j9 = 7 ∨ j9 = 23 ∨ j9 = 24 by have h6 : j9 = 0 ∨ j9 = 5 ∨ j9 = 6 ∨ j9 = 7 ∨ j9 = 23 ∨ j9 = 24 := h7; omega))).trans rfl))), (show (i_1 + 1) ≤ n_6 by omega), b_40, trivial⟩
    · refine z_callS (As := [.long h.toInt64, .long 1, .long 200]) (rest := [.ref x]) B (c_inR0 G l Φ2 sz h.toInt64 1 200 hR1 (fun v8 Φ8 sz8 => v8 = some (.int 0) ∧ sz8 = sz ∧ Im G x (rd, NN, fl, 0, le, nx, il, qu, kn, ec, nu, va) Φ8 ∧ Fr x (fun j9 => False) Φ2 Φ8) ⟨rfl, rfl, hI2, fun _ _ => rfl⟩) (va_cwS 3 B.1.2.2.2.2 gX12_observeMany_X12_inRange rfl rfl rfl (by decide +kernel) ⟨Nat.le_of_ble_eq_true rfl, Nat.le_of_ble_eq_true rfl⟩) rfl rfl (Nat.le_of_ble_eq_true rfl) dX12_observeMany_26 ⟨Nat.le_of_ble_eq_true rfl, Nat.le_of_ble_eq_true rfl⟩ (fun r_8 Φ8 sz7 st7 hp7 hs7 => ?_)
      obtain ⟨rfl, hq7, hI9, hF8⟩ := hp7
      subst sz7
      replace hs7 : st7 = [.int 0, .ref x] := hs7
      subst st7
      refine z_if_ne (tgt := 36) B dX12_observeMany_29 rfl (fun h9 => absurd (by decide) h9) (fun c_8 => ?_)
      refine z_iconst (v := 1) B dX12_observeMany_32 rfl ?_
      refine z_goto (tgt := 37) B dX12_observeMany_33 rfl ?_
      refine z_iconst (v := 1) B dX12_observeMany_37 rfl ?_
      have h_12 : Φ8 x = some (o_ 14 [.int 0, .ref (x + 1), .ref (x + 2), .int v_2, .int v_3, .int (nI n_1), .int v_4, .int v_5, .ref (x + 3), .ref (x + 4), .int v_6, .long v_7, .ref (x + 5), .int (nI fl), .int v_8, .long v_9, .long v_10, .long v_11, .long v_12, .ref (x + 6), .ref (x + 7), .int (nI 0), .ref (x + 8), .int (nI le), .ref (x + 9), .ref (x + 10), .int (nI qu), .ref (x + 11), .ref (x + 12), .ref (x + 13), .ref (x + 14), .ref (x + 15), .ref (x + 16), .int (nI n_2), .long v_13, .ref (x + 17), .ref (x + 18), .ref (x + 19), .ref (x + 20), .ref (x + 21), .ref (x + 22), .int (nI n_3), .ref (x + 23), .ref (x + 24), .int (nI n_4), .ref (x + 25), .int (nI il), .int (nI nx), .int ec, .int v_14, .int kn, .int v_15, .int nu, .long va]) := ((hF8 x (fun j9 h8 h7 => (show False from h7).elim)).trans ((hF1 x (fun j9 h8 h7 => (show False from h7).elim)).trans h_3))
      refine z_callV (As := [.int 1, .int 1]) (rest := []) B (r_throwsIf G l Φ8 sz x rd fl 0 le nx il qu kn ec nu va 1 1 hx hI9 (by decide)) (cwV 2 B.1.2.2.2.2 gX12_observeMany_X12_throwsIf rfl rfl rfl (by decide +kernel) ⟨Nat.le_of_ble_eq_true rfl, Nat.le_of_ble_eq_true rfl⟩) h_12 rfl rfl rfl rfl (Nat.le_of_ble_eq_true rfl) dX12_observeMany_38 ⟨Nat.le_of_ble_eq_true rfl, Nat.le_of_ble_eq_true rfl⟩ (fun r_9 Φ9 sz8 st8 hp8 hs8 => ?_)
      obtain ⟨rfl, hq8, hI10, hF9⟩ := hp8
      subst sz8
      replace hs8 : st8 = [.int 1] := hs8
      subst st8
      replace hI10 : Im G x (rd, NN, fl, 0, le, nx, il, qu, kn, ec, nu, va) Φ9 := hI10
      refine z_if_eq (tgt := 46) B dX12_observeMany_41 rfl (fun h9 => absurd h9 (by decide)) (fun c_9 => ?_)
      refine z_iconst (v := 0) B dX12_observeMany_44 rfl ?_
      exact z_ret_i B dX12_observeMany_45 ⟨⟨_, rfl⟩, rfl, ⟨fl, le, qu, hI10⟩, (fun b9 h9 => ((hF9 b9 (fun j9 h8 h7 => h9 j9 h8 (show j9 = 0 ∨ j9 = 3 ∨ j9 = 4 ∨ j9 = 5 ∨ j9 = 6 ∨ j9 = 7 ∨ j9 = 8 ∨ j9 = 9 ∨ j9 = 10 ∨ j9 = 23 ∨ j9 = 24 by have h6 : j9 = 0 := h7; omega))).trans ((hF8 b9 (fun j9 h8 h7 => (show False from h7).elim)).trans ((hF1 b9 (fun j9 h8 h7 => (show False from h7).elim)).trans ((fset_fr hΦ1 (fun h8 => h9 (0) h8 (show 0 = 0 ∨ 0 = 3 ∨ 0 = 4 ∨ 0 = 5 ∨ 0 = 6 ∨ 0 = 7 ∨ 0 = 8 ∨ 0 = 9 ∨ 0 = 10 ∨ 0 = 23 ∨ 0 = 24 by omega))).trans rfl)))))⟩

set_option maxHeartbeats 4000000 in
set_option maxRecDepth 100000 in
theorem r_changeRate (G : EnvG) (l : Launch) (Φ : Hm) (sz x : Nat) (rd : (Nat → Int32) → Prop) (fl : Nat) (pe : Nat) (le : Nat) (nx : Nat) (il : Nat) (qu : Nat) (kn : Int32) (ec : Int32) (nu : Int32) (va : Int64) (a : Nat) (hx : G.2.2.2 ≤ x) (hI : Im G x (rd, NN, fl, pe, le, nx, il, qu, kn, ec, nu, va) Φ) (ha : 1 ≤ a) (ha2 : a ≤ 1024) (hp : pe + fl ≤ 24) : Ct G l yX12_changeRate wsX12_changeRate ({ frames := 6, cells := 0, slots := 0, locals := 132 }) 0 0 [.ref x, .int (nI a)] Φ sz (fun v Φ1 sz1 => (∃ r9 : Int32, v = some (.int r9)) ∧ sz1 = sz ∧ (∃ (fl1 : Nat) (pe1 : Nat), (fl1 ≤ fl) ∧ (pe1 ≤ pe + fl) ∧ Im G x (rd, NN, fl1, pe1, le, nx, il, qu, kn, ec, nu, va) Φ1) ∧ Fr x (fun j9 => j9 = 0 ∨ j9 = 5 ∨ j9 = 6 ∨ j9 = 7) Φ Φ1) := by
  refine Ct.of (cc := cX12_changeRate) (maxL := 3) (ret := (some .int)) (by decide) rfl (Nat.le_of_ble_eq_true rfl) ?_
  intro p9 e9 s9 m9 w9 t9 k9 B
  show Z p9 l e9 _ s9 m9 _ w9 t9 k9 _ G 3 0 [(0, .ref x), (1, .int (nI a))] [] Φ sz 0 0
  refine z_iload_n B dX12_changeRate_0 rfl 1 rfl ?_
  refine z_aload_n B dX12_changeRate_1 rfl 0 rfl ?_
  obtain ⟨v_1, v_2, v_3, n_1, v_4, v_5, v_6, v_7, v_8, v_9, v_10, v_11, v_12, n_2, v_13, n_3, n_4, v_14, v_15, h_1, b_12, b_1, b_2, b_3, b_4, b_5, b_6, b_7, b_8, b_9, b_10, b_11⟩ := im0 hI
  replace b_1 : 1 ≤ n_1 := b_1
  replace b_2 : n_1 ≤ 1024 := b_2
  replace b_3 : fl ≤ 12 := b_3
  replace b_4 : pe ≤ 24 := b_4
  replace b_5 : le ≤ 700 := b_5
  replace b_6 : qu ≤ 12 := b_6
  replace b_7 : n_2 ≤ 8 := b_7
  replace b_8 : n_3 ≤ 24 := b_8
  replace b_9 : n_4 ≤ 24 := b_9
  replace b_10 : il ≤ 700 := b_10
  replace b_11 : nx ≤ 701 := b_11
  have h_2 : Φ x = some (o_ 14 [.int v_1, .ref (x + 1), .ref (x + 2), .int v_2, .int v_3, .int (nI n_1), .int v_4, .int v_5, .ref (x + 3), .ref (x + 4), .int v_6, .long v_7, .ref (x + 5), .int (nI fl), .int v_8, .long v_9, .long v_10, .long v_11, .long v_12, .ref (x + 6), .ref (x + 7), .int (nI pe), .ref (x + 8), .int (nI le), .ref (x + 9), .ref (x + 10), .int (nI qu), .ref (x + 11), .ref (x + 12), .ref (x + 13), .ref (x + 14), .ref (x + 15), .ref (x + 16), .int (nI n_2), .long v_13, .ref (x + 17), .ref (x + 18), .ref (x + 19), .ref (x + 20), .ref (x + 21), .ref (x + 22), .int (nI n_3), .ref (x + 23), .ref (x + 24), .int (nI n_4), .ref (x + 25), .int (nI il), .int (nI nx), .int ec, .int v_14, .int kn, .int v_15, .int nu, .long va]) := h_1
  refine z_get (ref := "FlowExporterModel") (C := RX12) (T := TX12) (N := 54) (ci := 14) (v := .int (nI n_1)) B (by decide +kernel) rfl 5 (by decide) (by decide +kernel) rfl h_2 rfl dX12_changeRate_2 ?_
  refine z_icmp_ne (tgt := 10) B dX12_changeRate_5 rfl (fun c_1 => ?_) (fun c_1 => ?_)
  · have e_1 : ¬ (a = n_1) := fun h9 => c_1 ((nI_eq (a := a) (b := n_1) (by omega) (by omega)).mpr h9)
    refine z_aload_n B dX12_changeRate_10 rfl 0 rfl ?_
    refine z_callV (As := []) (rest := []) B (r_exportAll G l Φ sz x rd fl pe le nx il qu kn ec nu va  hx hI (show pe + fl ≤ 24 by omega)) (cwV 0 B.1.2.2.2.2 gX12_changeRate_X12_exportAll rfl rfl rfl (by decide +kernel) ⟨Nat.le_of_ble_eq_true rfl, Nat.le_of_ble_eq_true rfl⟩) h_2 rfl rfl rfl rfl (Nat.le_of_ble_eq_true rfl) dX12_changeRate_11 ⟨Nat.le_of_ble_eq_true rfl, Nat.le_of_ble_eq_true rfl⟩ (fun r_1 Φ1 sz1 st1 hp1 hs1 => ?_)
    obtain ⟨⟨v_16, rfl⟩, hq1, ⟨n_5, n_6, b_13, b_14, hI1⟩, hF1⟩ := hp1
    subst sz1
    replace hs1 : st1 = [.int v_16] := hs1
    subst st1
    replace hI1 : Im G x (rd, NN, n_5, n_6, le, nx, il, qu, kn, ec, nu, va) Φ1 := hI1
    replace b_13 : n_5 = 0 := b_13
    replace b_14 : n_6 ≤ pe + fl := b_14
    refine z_istore_n (lv' := [(2, .int v_16), (0, .ref x), (1, .int (nI a))]) B dX12_changeRate_14 rfl (Nat.le_of_ble_eq_true rfl) rfl ?_
    refine z_aload_n B dX12_changeRate_15 rfl 1 rfl ?_
    refine z_iload_n B dX12_changeRate_16 rfl 2 rfl ?_
    obtain ⟨v_17, v_18, v_19, n_7, v_20, v_21, v_22, v_23, v_24, v_25, v_26, v_27, v_28, n_8, v_29, n_9, n_10, v_30, v_31, h_3, b_26, b_15, b_16, b_17, b_18, b_19, b_20, b_21, b_22, b_23, b_24, b_25⟩ := im0 hI1
    replace b_15 : 1 ≤ n_7 := b_15
    replace b_16 : n_7 ≤ 1024 := b_16
    replace b_17 : n_5 ≤ 12 := b_17
    replace b_18 : n_6 ≤ 24 := b_18
    replace b_19 : le ≤ 700 := b_19
    replace b_20 : qu ≤ 12 := b_20
    replace b_21 : n_8 ≤ 8 := b_21
    replace b_22 : n_9 ≤ 24 := b_22
    replace b_23 : n_10 ≤ 24 := b_23
    replace b_24 : il ≤ 700 := b_24
    replace b_25 : nx ≤ 701 := b_25
    have h_4 : Φ1 x = some (o_ 14 [.int v_17, .ref (x + 1), .ref (x + 2), .int v_18, .int v_19, .int (nI n_7), .int v_20, .int v_21, .ref (x + 3), .ref (x + 4), .int v_22, .long v_23, .ref (x + 5), .int (nI n_5), .int v_24, .long v_25, .long v_26, .long v_27, .long v_28, .ref (x + 6), .ref (x + 7), .int (nI n_6), .ref (x + 8), .int (nI le), .ref (x + 9), .ref (x + 10), .int (nI qu), .ref (x + 11), .ref (x + 12), .ref (x + 13), .ref (x + 14), .ref (x + 15), .ref (x + 16), .int (nI n_8), .long v_29, .ref (x + 17), .ref (x + 18), .ref (x + 19), .ref (x + 20), .ref (x + 21), .ref (x + 22), .int (nI n_9), .ref (x + 23), .ref (x + 24), .int (nI n_10), .ref (x + 25), .int (nI il), .int (nI nx), .int ec, .int v_30, .int kn, .int v_31, .int nu, .long va]) := h_3
    refine z_put (ref := "FlowExporterModel") (C := RX12) (T := TX12) (N := 54) (ci := 14) (v := .int (nI a)) B (by decide +kernel) tyX12 tyX12_ok nmX12 rfl 5 (by decide) (by decide +kernel) rfl (Or.inl rfl) h_4 hx rfl rfl (Nat.le_of_ble_eq_true rfl) dX12_changeRate_17 (fun Φ2 hΦ1 => ?_)
    have h_5 : Φ2 x = some (o_ 14 [.int v_17, .ref (x + 1), .ref (x + 2), .int v_18, .int v_19, .int (nI a), .int v_20, .int v_21, .ref (x + 3), .ref (x + 4), .int v_22, .long v_23, .ref (x + 5), .int (nI n_5), .int v_24, .long v_25, .long v_26, .long v_27, .long v_28, .ref (x + 6), .ref (x + 7), .int (nI n_6), .ref (x + 8), .int (nI le), .ref (x + 9), .ref (x + 10), .int (nI qu), .ref (x + 11), .ref (x + 12), .ref (x + 13), .ref (x + 14), .ref (x + 15), .ref (x + 16), .int (nI n_8), .long v_29, .ref (x + 17), .ref (x + 18), .ref (x + 19), .ref (x + 20), .ref (x + 21), .ref (x + 22), .int (nI n_9), .ref (x + 23), .ref (x + 24), .int (nI n_10), .ref (x + 25), .int (nI il), .int (nI nx), .int ec, .int v_30, .int kn, .int v_31, .int nu, .long va]) := fset_at hΦ1
    have hI2 : Im G x (rd, NN, n_5, n_6, le, nx, il, qu, kn, ec, nu, va) Φ2 := Im.put0 hI1 hΦ1 ⟨v_17, v_18, v_19, a, v_20, v_21, v_22, v_23, v_24, v_25, v_26, v_27, v_28, n_8, v_29, n_9, n_10, v_30, v_31, rfl, b_26, (show 1 ≤ a by omega), (show a ≤ 1024 by omega), (show n_5 ≤ 12 by omega), (show n_6 ≤ 24 by omega), (show le ≤ 700 by omega), (show qu ≤ 12 by omega), (show n_8 ≤ 8 by omega), (show n_9 ≤ 24 by omega), (show n_10 ≤ 24 by omega), (show il ≤ 700 by omega), (show nx ≤ 701 by omega)⟩
    refine z_iload_n B dX12_changeRate_20 rfl 0 rfl ?_
    exact z_ret_i B dX12_changeRate_21 ⟨⟨_, rfl⟩, rfl, ⟨n_5, n_6, (show n_5 ≤ fl by omega), (show n_6 ≤ pe + fl by omega), hI2⟩, (fun b9 h9 => ((fset_fr hΦ1 (fun h8 => h9 (0) h8 (show 0 = 0 ∨ 0 = 5 ∨ 0 = 6 ∨ 0 = 7 by omega))).trans ((hF1 b9 (fun j9 h8 h7 => h9 j9 h8 (show j9 = 0 ∨ j9 = 5 ∨ j9 = 6 ∨ j9 = 7 by have h6 : j9 = 0 ∨ j9 = 5 ∨ j9 = 6 ∨ j9 = 7 := h7; omega))).trans rfl)))⟩
  · have e_2 : a = n_1 := (nI_eq (a := a) (b := n_1) (by omega) (by omega)).mp c_1
    refine z_iconst (v := 0) B dX12_changeRate_8 rfl ?_
    exact z_ret_i B dX12_changeRate_9 ⟨⟨_, rfl⟩, rfl, ⟨fl, pe, (show fl ≤ fl by omega), (show pe ≤ pe + fl by omega), hI⟩, (fun b9 h9 => rfl)⟩

set_option maxHeartbeats 4000000 in
set_option maxRecDepth 100000 in
theorem r_setRate (G : EnvG) (l : Launch) (Φ : Hm) (sz x : Nat) (rd : (Nat → Int32) → Prop) (fl : Nat) (le : Nat) (nx : Nat) (il : Nat) (qu : Nat) (kn : Int32) (ec : Int32) (nu : Int32) (va : Int64) (a : Int32) (hx : G.2.2.2 ≤ x) (hI : Im G x (rd, NN, fl, 0, le, nx, il, qu, kn, ec, nu, va) Φ)  : Ct G l yX12_setRate wsX12_setRate ({ frames := 7, cells := 0, slots := 0, locals := 154 }) 0 0 [.ref x, .int a] Φ sz (fun v Φ1 sz1 => (∃ r9 : Int32, v = some (.int r9)) ∧ sz1 = sz ∧ (∃ (fl1 : Nat) (le1 : Nat) (qu1 : Nat), Im G x (rd, NN, fl1, 0, le1, nx, il, qu1, kn, ec, nu, va) Φ1) ∧ Fr x (fun j9 => j9 = 0 ∨ j9 = 3 ∨ j9 = 4 ∨ j9 = 5 ∨ j9 = 6 ∨ j9 = 7 ∨ j9 = 8 ∨ j9 = 9 ∨ j9 = 10) Φ Φ1) := by
  refine Ct.of (cc := cX12_setRate) (maxL := 3) (ret := (some .int)) (by decide) rfl (Nat.le_of_ble_eq_true rfl) ?_
  intro p9 e9 s9 m9 w9 t9 k9 B
  show Z p9 l e9 _ s9 m9 _ w9 t9 k9 _ G 3 0 [(0, .ref x), (1, .int a)] [] Φ sz 0 0
  refine z_aload_n B dX12_setRate_0 rfl 0 rfl ?_
  refine z_iconst (v := 0) B dX12_setRate_1 rfl ?_
  obtain ⟨v_1, v_2, v_3, n_1, v_4, v_5, v_6, v_7, v_8, v_9, v_10, v_11, v_12, n_2, v_13, n_3, n_4, v_14, v_15, h_1, b_12, b_1, b_2, b_3, b_4, b_5, b_6, b_7, b_8, b_9, b_10, b_11⟩ := im0 hI
  replace b_1 : 1 ≤ n_1 := b_1
  replace b_2 : n_1 ≤ 1024 := b_2
  replace b_3 : fl ≤ 12 := b_3
  replace b_4 : 0 ≤ 24 := b_4
  replace b_5 : le ≤ 700 := b_5
  replace b_6 : qu ≤ 12 := b_6
  replace b_7 : n_2 ≤ 8 := b_7
  replace b_8 : n_3 ≤ 24 := b_8
  replace b_9 : n_4 ≤ 24 := b_9
  replace b_10 : il ≤ 700 := b_10
  replace b_11 : nx ≤ 701 := b_11
  have h_2 : Φ x = some (o_ 14 [.int v_1, .ref (x + 1), .ref (x + 2), .int v_2, .int v_3, .int (nI n_1), .int v_4, .int v_5, .ref (x + 3), .ref (x + 4), .int v_6, .long v_7, .ref (x + 5), .int (nI fl), .int v_8, .long v_9, .long v_10, .long v_11, .long v_12, .ref (x + 6), .ref (x + 7), .int (nI 0), .ref (x + 8), .int (nI le), .ref (x + 9), .ref (x + 10), .int (nI qu), .ref (x + 11), .ref (x + 12), .ref (x + 13), .ref (x + 14), .ref (x + 15), .ref (x + 16), .int (nI n_2), .long v_13, .ref (x + 17), .ref (x + 18), .ref (x + 19), .ref (x + 20), .ref (x + 21), .ref (x + 22), .int (nI n_3), .ref (x + 23), .ref (x + 24), .int (nI n_4), .ref (x + 25), .int (nI il), .int (nI nx), .int ec, .int v_14, .int kn, .int v_15, .int nu, .long va]) := h_1
  refine z_put (ref := "FlowExporterModel") (C := RX12) (T := TX12) (N := 54) (ci := 14) (v := .int 0) B (by decide +kernel) tyX12 tyX12_ok nmX12 rfl 0 (by decide) (by decide +kernel) rfl (Or.inl rfl) h_2 hx rfl rfl (Nat.le_of_ble_eq_true rfl) dX12_setRate_2 (fun Φ1 hΦ1 => ?_)
  have h_3 : Φ1 x = some (o_ 14 [.int 0, .ref (x + 1), .ref (x + 2), .int v_2, .int v_3, .int (nI n_1), .int v_4, .int v_5, .ref (x + 3), .ref (x + 4), .int v_6, .long v_7, .ref (x + 5), .int (nI fl), .int v_8, .long v_9, .long v_10, .long v_11, .long v_12, .ref (x + 6), .ref (x + 7), .int (nI 0), .ref (x + 8), .int (nI le), .ref (x + 9), .ref (x + 10), .int (nI qu), .ref (x + 11), .ref (x + 12), .ref (x + 13), .ref (x + 14), .ref (x + 15), .ref (x + 16), .int (nI n_2), .long v_13, .ref (x + 17), .ref (x + 18), .ref (x + 19), .ref (x + 20), .ref (x + 21), .ref (x + 22), .int (nI n_3), .ref (x + 23), .ref (x + 24), .int (nI n_4), .ref (x + 25), .int (nI il), .int (nI nx), .int ec, .int v_14, .int kn, .int v_15, .int nu, .long va]) := fset_at hΦ1
  have hI1 : Im G x (rd, NN, fl, 0, le, nx, il, qu, kn, ec, nu, va) Φ1 := Im.put0 hI hΦ1 ⟨0, v_2, v_3, n_1, v_4, v_5, v_6, v_7, v_8, v_9, v_10, v_11, v_12, n_2, v_13, n_3, n_4, v_14, v_15, rfl, b_12, (show 1 ≤ n_1 by omega), (show n_1 ≤ 1024 by omega), (show fl ≤ 12 by omega), (show 0 ≤ 24 by omega), (show le ≤ 700 by omega), (show qu ≤ 12 by omega), (show n_2 ≤ 8 by omega), (show n_3 ≤ 24 by omega), (show n_4 ≤ 24 by omega), (show il ≤ 700 by omega), (show nx ≤ 701 by omega)⟩
  refine z_iload_n B dX12_setRate_5 rfl 1 rfl ?_
  refine z_i2l (v := a.toInt64) B dX12_setRate_6 rfl ?_
  refine z_lconst (v := 1) B dX12_setRate_7 rfl ?_
  refine z_ldc2 (v := 1024) B (by decide +kernel) dX12_setRate_8 ?_
  by_cases hR1 : inP a.toInt64 1 1024
  · obtain ⟨n_5, e_1, e_2, e_3, rfl⟩ := in_get (L := 1) (H := 1024) (by decide) (by decide) hR1
    refine z_callS (As := [.long ((nI n_5).toInt64), .long 1, .long 1024]) (rest := []) B (c_inR1 G l Φ1 sz ((nI n_5).toInt64) 1 1024 hR1 (fun v8 Φ8 sz8 => v8 = some (.int 1) ∧ sz8 = sz ∧ Im G x (rd, NN, fl, 0, le, nx, il, qu, kn, ec, nu, va) Φ8 ∧ Fr x (fun j9 => False) Φ1 Φ8) ⟨rfl, rfl, hI1, fun _ _ => rfl⟩) (va_cwS 3 B.1.2.2.2.2 gX12_setRate_X12_inRange rfl rfl rfl (by decide +kernel) ⟨Nat.le_of_ble_eq_true rfl, Nat.le_of_ble_eq_true rfl⟩) rfl rfl (Nat.le_of_ble_eq_true rfl) dX12_setRate_11 ⟨Nat.le_of_ble_eq_true rfl, Nat.le_of_ble_eq_true rfl⟩ (fun r_1 Φ2 sz1 st1 hp1 hs1 => ?_)
    obtain ⟨rfl, hq1, hI2, hF1⟩ := hp1
    subst sz1
    replace hs1 : st1 = [.int 1] := hs1
    subst st1
    refine z_if_ne (tgt := 19) B dX12_setRate_14 rfl (fun c_1 => ?_) (fun h9 => absurd h9 (by decide))
    refine z_aload_n B dX12_setRate_19 rfl 0 rfl ?_
    refine z_iload_n B dX12_setRate_20 rfl 1 rfl ?_
    have h_4 : Φ2 x = some (o_ 14 [.int 0, .ref (x + 1), .ref (x + 2), .int v_2, .int v_3, .int (nI n_1), .int v_4, .int v_5, .ref (x + 3), .ref (x + 4), .int v_6, .long v_7, .ref (x + 5), .int (nI fl), .int v_8, .long v_9, .long v_10, .long v_11, .long v_12, .ref (x + 6), .ref (x + 7), .int (nI 0), .ref (x + 8), .int (nI le), .ref (x + 9), .ref (x + 10), .int (nI qu), .ref (x + 11), .ref (x + 12), .ref (x + 13), .ref (x + 14), .ref (x + 15), .ref (x + 16), .int (nI n_2), .long v_13, .ref (x + 17), .ref (x + 18), .ref (x + 19), .ref (x + 20), .ref (x + 21), .ref (x + 22), .int (nI n_3), .ref (x + 23), .ref (x + 24), .int (nI n_4), .ref (x + 25), .int (nI il), .int (nI nx), .int ec, .int v_14, .int kn, .int v_15, .int nu, .long va]) := ((hF1 x (fun j9 h8 h7 => (show False from h7).elim)).trans h_3)
    refine z_callV (As := [.int (nI n_5)]) (rest := []) B (r_changeRate G l Φ2 sz x rd fl 0 le nx il qu kn ec nu va n_5 hx hI2 (show 1 ≤ n_5 by omega) (show n_5 ≤ 1024 by omega) (show 0 + fl ≤ 24 by omega)) (cwV 1 B.1.2.2.2.2 gX12_setRate_X12_changeRate rfl rfl rfl (by decide +kernel) ⟨Nat.le_of_ble_eq_true rfl, Nat.le_of_ble_eq_true rfl⟩) h_4 rfl rfl rfl rfl (Nat.le_of_ble_eq_true rfl) dX12_setRate_21 ⟨Nat.le_of_ble_eq_true rfl, Nat.le_of_ble_eq_true rfl⟩ (fun r_2 Φ3 sz2 st2 hp2 hs2 => ?_)
    obtain ⟨⟨v_16, rfl⟩, hq2, ⟨n_6, n_7, b_13, b_14, hI3⟩, hF2⟩ := hp2
    subst sz2
    replace hs2 : st2 = [.int v_16] := hs2
    subst st2
    replace hI3 : Im G x (rd, NN, n_6, n_7, le, nx, il, qu, kn, ec, nu, va) Φ3 := hI3
    replace b_13 : n_6 ≤ fl := b_13
    replace b_14 : n_7 ≤ 0 + fl := b_14
    refine z_istore_n (lv' := [(2, .int v_16), (0, .ref x), (1, .int (nI n_5))]) B dX12_setRate_24 rfl (Nat.le_of_ble_eq_true rfl) rfl ?_
    refine z_aload_n B dX12_setRate_25 rfl 1 rfl ?_
    obtain ⟨v_17, v_18, v_19, n_8, v_20, v_21, v_22, v_23, v_24, v_25, v_26, v_27, v_28, n_9, v_29, n_10, n_11, v_30, v_31, h_5, b_26, b_15, b_16, b_17, b_18, b_19, b_20, b_21, b_22, b_23, b_24, b_25⟩ := im0 hI3
    replace b_15 : 1 ≤ n_8 := b_15
    replace b_16 : n_8 ≤ 1024 := b_16
    replace b_17 : n_6 ≤ 12 := b_17
    replace b_18 : n_7 ≤ 24 := b_18
    replace b_19 : le ≤ 700 := b_19
    replace b_20 : qu ≤ 12 := b_20
    replace b_21 : n_9 ≤ 8 := b_21
    replace b_22 : n_10 ≤ 24 := b_22
    replace b_23 : n_11 ≤ 24 := b_23
    replace b_24 : il ≤ 700 := b_24
    replace b_25 : nx ≤ 701 := b_25
    have h_6 : Φ3 x = some (o_ 14 [.int v_17, .ref (x + 1), .ref (x + 2), .int v_18, .int v_19, .int (nI n_8), .int v_20, .int v_21, .ref (x + 3), .ref (x + 4), .int v_22, .long v_23, .ref (x + 5), .int (nI n_6), .int v_24, .long v_25, .long v_26, .long v_27, .long v_28, .ref (x + 6), .ref (x + 7), .int (nI n_7), .ref (x + 8), .int (nI le), .ref (x + 9), .ref (x + 10), .int (nI qu), .ref (x + 11), .ref (x + 12), .ref (x + 13), .ref (x + 14), .ref (x + 15), .ref (x + 16), .int (nI n_9), .long v_29, .ref (x + 17), .ref (x + 18), .ref (x + 19), .ref (x + 20), .ref (x + 21), .ref (x + 22), .int (nI n_10), .ref (x + 23), .ref (x + 24), .int (nI n_11), .ref (x + 25), .int (nI il), .int (nI nx), .int ec, .int v_30, .int kn, .int v_31, .int nu, .long va]) := h_5
    refine z_callV (As := []) (rest := []) B (r_sendPending G l Φ3 sz x rd n_6 n_7 le nx il qu kn ec nu va  hx hI3 ) (cwV 0 B.1.2.2.2.2 gX12_setRate_X12_sendPending rfl rfl rfl (by decide +kernel) ⟨Nat.le_of_ble_eq_true rfl, Nat.le_of_ble_eq_true rfl⟩) h_6 rfl rfl rfl rfl (Nat.le_of_ble_eq_true rfl) dX12_setRate_26 ⟨Nat.le_of_ble_eq_true rfl, Nat.le_of_ble_eq_true rfl⟩ (fun r_3 Φ4 sz3 st3 hp3 hs3 => ?_)
    obtain ⟨rfl, hq3, ⟨n_12, n_13, hI4⟩, hF3⟩ := hp3
    subst sz3
    replace hs3 : st3 = [] := hs3
    subst st3
    replace hI4 : Im G x (rd, NN, n_6, 0, n_12, nx, il, n_13, kn, ec, nu, va) Φ4 := hI4
    refine z_iload_n B dX12_setRate_29 rfl 0 rfl ?_
    exact z_ret_i B dX12_setRate_30 ⟨⟨_, rfl⟩, rfl, ⟨n_6, n_12, n_13, hI4⟩, (fun b9 h9 => ((hF3 b9 (fun j9 h8 h7 => h9 j9 h8 (show j9 = 0 ∨ j9 = 3 ∨ j9 = 4 ∨ j9 = 5 ∨ j9 = 6 ∨ j9 = 7 ∨ j9 = 8 ∨ j9 = 9 ∨ j9 = 10 by have h6 : j9 = 0 ∨ j9 = 3 ∨ j9 = 4 ∨ j9 = 8 ∨ j9 = 9 ∨ j9 = 10 := h7; omega))).trans ((hF2 b9 (fun j9 h8 h7 => h9 j9 h8 (show j9 = 0 ∨ j9 = 3 ∨ j9 = 4 ∨ j9 = 5 ∨ j9 = 6 ∨ j9 = 7 ∨ j9 = 8 ∨ j9 = 9 ∨ j9 = 10 by have h6 : j9 = 0 ∨ j9 = 5 ∨ j9 = 6 ∨ j9 = 7 := h7; omega))).trans ((hF1 b9 (fun j9 h8 h7 => (show False from h7).elim)).trans ((fset_fr hΦ1 (fun h8 => h9 (0) h8 (show 0 = 0 ∨ 0 = 3 ∨ 0 = 4 ∨ 0 = 5 ∨ 0 = 6 ∨ 0 = 7 ∨ 0 = 8 ∨ 0 = 9 ∨ 0 = 10 by omega))).trans rfl)))))⟩
  · refine z_callS (As := [.long a.toInt64, .long 1, .long 1024]) (rest := []) B (c_inR0 G l Φ1 sz a.toInt64 1 1024 hR1 (fun v8 Φ8 sz8 => v8 = some (.int 0) ∧ sz8 = sz ∧ Im G x (rd, NN, fl, 0, le, nx, il, qu, kn, ec, nu, va) Φ8 ∧ Fr x (fun j9 => False) Φ1 Φ8) ⟨rfl, rfl, hI1, fun _ _ => rfl⟩) (va_cwS 3 B.1.2.2.2.2 gX12_setRate_X12_inRange rfl rfl rfl (by decide +kernel) ⟨Nat.le_of_ble_eq_true rfl, Nat.le_of_ble_eq_true rfl⟩) rfl rfl (Nat.le_of_ble_eq_true rfl) dX12_setRate_11 ⟨Nat.le_of_ble_eq_true rfl, Nat.le_of_ble_eq_true rfl⟩ (fun r_4 Φ5 sz4 st4 hp4 hs4 => ?_)
    obtain ⟨rfl, hq4, hI5, hF4⟩ := hp4
    subst sz4
    replace hs4 : st4 = [.int 0] := hs4
    subst st4
    refine z_if_ne (tgt := 19) B dX12_setRate_14 rfl (fun h9 => absurd (by decide) h9) (fun c_2 => ?_)
    refine z_iconst (v := (-1)) B dX12_setRate_17 rfl ?_
    exact z_ret_i B dX12_setRate_18 ⟨⟨_, rfl⟩, rfl, ⟨fl, le, qu, hI5⟩, (fun b9 h9 => ((hF4 b9 (fun j9 h8 h7 => (show False from h7).elim)).trans ((fset_fr hΦ1 (fun h8 => h9 (0) h8 (show 0 = 0 ∨ 0 = 3 ∨ 0 = 4 ∨ 0 = 5 ∨ 0 = 6 ∨ 0 = 7 ∨ 0 = 8 ∨ 0 = 9 ∨ 0 = 10 by omega))).trans rfl)))⟩

set_option maxHeartbeats 4000000 in
set_option maxRecDepth 100000 in
theorem r_flush (G : EnvG) (l : Launch) (Φ : Hm) (sz x : Nat) (rd : (Nat → Int32) → Prop) (fl : Nat) (le : Nat) (nx : Nat) (il : Nat) (qu : Nat) (kn : Int32) (ec : Int32) (nu : Int32) (va : Int64)  (hx : G.2.2.2 ≤ x) (hI : Im G x (rd, NN, fl, 0, le, nx, il, qu, kn, ec, nu, va) Φ)  : Ct G l yX12_flush wsX12_flush ({ frames := 6, cells := 0, slots := 0, locals := 139 }) 0 0 [.ref x] Φ sz (fun v Φ1 sz1 => (∃ r9 : Int32, v = some (.int r9)) ∧ sz1 = sz ∧ (∃ (fl1 : Nat) (le1 : Nat) (qu1 : Nat), Im G x (rd, NN, fl1, 0, le1, nx, il, qu1, kn, ec, nu, va) Φ1) ∧ Fr x (fun j9 => j9 = 0 ∨ j9 = 3 ∨ j9 = 4 ∨ j9 = 5 ∨ j9 = 6 ∨ j9 = 7 ∨ j9 = 8 ∨ j9 = 9 ∨ j9 = 10) Φ Φ1) := by
  refine Ct.of (cc := cX12_flush) (maxL := 2) (ret := (some .int)) (by decide) rfl (Nat.le_of_ble_eq_true rfl) ?_
  intro p9 e9 s9 m9 w9 t9 k9 B
  show Z p9 l e9 _ s9 m9 _ w9 t9 k9 _ G 2 0 [(0, .ref x)] [] Φ sz 0 0
  refine z_aload_n B dX12_flush_0 rfl 0 rfl ?_
  refine z_iconst (v := 0) B dX12_flush_1 rfl ?_
  obtain ⟨v_1, v_2, v_3, n_1, v_4, v_5, v_6, v_7, v_8, v_9, v_10, v_11, v_12, n_2, v_13, n_3, n_4, v_14, v_15, h_1, b_12, b_1, b_2, b_3, b_4, b_5, b_6, b_7, b_8, b_9, b_10, b_11⟩ := im0 hI
  replace b_1 : 1 ≤ n_1 := b_1
  replace b_2 : n_1 ≤ 1024 := b_2
  replace b_3 : fl ≤ 12 := b_3
  replace b_4 : 0 ≤ 24 := b_4
  replace b_5 : le ≤ 700 := b_5
  replace b_6 : qu ≤ 12 := b_6
  replace b_7 : n_2 ≤ 8 := b_7
  replace b_8 : n_3 ≤ 24 := b_8
  replace b_9 : n_4 ≤ 24 := b_9
  replace b_10 : il ≤ 700 := b_10
  replace b_11 : nx ≤ 701 := b_11
  have h_2 : Φ x = some (o_ 14 [.int v_1, .ref (x + 1), .ref (x + 2), .int v_2, .int v_3, .int (nI n_1), .int v_4, .int v_5, .ref (x + 3), .ref (x + 4), .int v_6, .long v_7, .ref (x + 5), .int (nI fl), .int v_8, .long v_9, .long v_10, .long v_11, .long v_12, .ref (x + 6), .ref (x + 7), .int (nI 0), .ref (x + 8), .int (nI le), .ref (x + 9), .ref (x + 10), .int (nI qu), .ref (x + 11), .ref (x + 12), .ref (x + 13), .ref (x + 14), .ref (x + 15), .ref (x + 16), .int (nI n_2), .long v_13, .ref (x + 17), .ref (x + 18), .ref (x + 19), .ref (x + 20), .ref (x + 21), .ref (x + 22), .int (nI n_3), .ref (x + 23), .ref (x + 24), .int (nI n_4), .ref (x + 25), .int (nI il), .int (nI nx), .int ec, .int v_14, .int kn, .int v_15, .int nu, .long va]) := h_1
  refine z_put (ref := "FlowExporterModel") (C := RX12) (T := TX12) (N := 54) (ci := 14) (v := .int 0) B (by decide +kernel) tyX12 tyX12_ok nmX12 rfl 0 (by decide) (by decide +kernel) rfl (Or.inl rfl) h_2 hx rfl rfl (Nat.le_of_ble_eq_true rfl) dX12_flush_2 (fun Φ1 hΦ1 => ?_)
  have h_3 : Φ1 x = some (o_ 14 [.int 0, .ref (x + 1), .ref (x + 2), .int v_2, .int v_3, .int (nI n_1), .int v_4, .int v_5, .ref (x + 3), .ref (x + 4), .int v_6, .long v_7, .ref (x + 5), .int (nI fl), .int v_8, .long v_9, .long v_10, .long v_11, .long v_12, .ref (x + 6), .ref (x + 7), .int (nI 0), .ref (x + 8), .int (nI le), .ref (x + 9), .ref (x + 10), .int (nI qu), .ref (x + 11), .ref (x + 12), .ref (x + 13), .ref (x + 14), .ref (x + 15), .ref (x + 16), .int (nI n_2), .long v_13, .ref (x + 17), .ref (x + 18), .ref (x + 19), .ref (x + 20), .ref (x + 21), .ref (x + 22), .int (nI n_3), .ref (x + 23), .ref (x + 24), .int (nI n_4), .ref (x + 25), .int (nI il), .int (nI nx), .int ec, .int v_14, .int kn, .int v_15, .int nu, .long va]) := fset_at hΦ1
  have hI1 : Im G x (rd, NN, fl, 0, le, nx, il, qu, kn, ec, nu, va) Φ1 := Im.put0 hI hΦ1 ⟨0, v_2, v_3, n_1, v_4, v_5, v_6, v_7, v_8, v_9, v_10, v_11, v_12, n_2, v_13, n_3, n_4, v_14, v_15, rfl, b_12, (show 1 ≤ n_1 by omega), (show n_1 ≤ 1024 by omega), (show fl ≤ 12 by omega), (show 0 ≤ 24 by omega), (show le ≤ 700 by omega), (show qu ≤ 12 by omega), (show n_2 ≤ 8 by omega), (show n_3 ≤ 24 by omega), (show n_4 ≤ 24 by omega), (show il ≤ 700 by omega), (show nx ≤ 701 by omega)⟩
  refine z_aload_n B dX12_flush_5 rfl 0 rfl ?_
  refine z_callV (As := []) (rest := []) B (r_exportAll G l Φ1 sz x rd fl 0 le nx il qu kn ec nu va  hx hI1 (show 0 + fl ≤ 24 by omega)) (cwV 0 B.1.2.2.2.2 gX12_flush_X12_exportAll rfl rfl rfl (by decide +kernel) ⟨Nat.le_of_ble_eq_true rfl, Nat.le_of_ble_eq_true rfl⟩) h_3 rfl rfl rfl rfl (Nat.le_of_ble_eq_true rfl) dX12_flush_6 ⟨Nat.le_of_ble_eq_true rfl, Nat.le_of_ble_eq_true rfl⟩ (fun r_1 Φ2 sz1 st1 hp1 hs1 => ?_)
  obtain ⟨⟨v_16, rfl⟩, hq1, ⟨n_5, n_6, b_13, b_14, hI2⟩, hF1⟩ := hp1
  subst sz1
  replace hs1 : st1 = [.int v_16] := hs1
  subst st1
  replace hI2 : Im G x (rd, NN, n_5, n_6, le, nx, il, qu, kn, ec, nu, va) Φ2 := hI2
  replace b_13 : n_5 = 0 := b_13
  replace b_14 : n_6 ≤ 0 + fl := b_14
  refine z_istore_n (lv' := [(1, .int v_16), (0, .ref x)]) B dX12_flush_9 rfl (Nat.le_of_ble_eq_true rfl) rfl ?_
  refine z_aload_n B dX12_flush_10 rfl 1 rfl ?_
  obtain ⟨v_17, v_18, v_19, n_7, v_20, v_21, v_22, v_23, v_24, v_25, v_26, v_27, v_28, n_8, v_29, n_9, n_10, v_30, v_31, h_4, b_26, b_15, b_16, b_17, b_18, b_19, b_20, b_21, b_22, b_23, b_24, b_25⟩ := im0 hI2
  replace b_15 : 1 ≤ n_7 := b_15
  replace b_16 : n_7 ≤ 1024 := b_16
  replace b_17 : n_5 ≤ 12 := b_17
  replace b_18 : n_6 ≤ 24 := b_18
  replace b_19 : le ≤ 700 := b_19
  replace b_20 : qu ≤ 12 := b_20
  replace b_21 : n_8 ≤ 8 := b_21
  replace b_22 : n_9 ≤ 24 := b_22
  replace b_23 : n_10 ≤ 24 := b_23
  replace b_24 : il ≤ 700 := b_24
  replace b_25 : nx ≤ 701 := b_25
  have h_5 : Φ2 x = some (o_ 14 [.int v_17, .ref (x + 1), .ref (x + 2), .int v_18, .int v_19, .int (nI n_7), .int v_20, .int v_21, .ref (x + 3), .ref (x + 4), .int v_22, .long v_23, .ref (x + 5), .int (nI n_5), .int v_24, .long v_25, .long v_26, .long v_27, .long v_28, .ref (x + 6), .ref (x + 7), .int (nI n_6), .ref (x + 8), .int (nI le), .ref (x + 9), .ref (x + 10), .int (nI qu), .ref (x + 11), .ref (x + 12), .ref (x + 13), .ref (x + 14), .ref (x + 15), .ref (x + 16), .int (nI n_8), .long v_29, .ref (x + 17), .ref (x + 18), .ref (x + 19), .ref (x + 20), .ref (x + 21), .ref (x + 22), .int (nI n_9), .ref (x + 23), .ref (x + 24), .int (nI n_10), .ref (x + 25), .int (nI il), .int (nI nx), .int ec, .int v_30, .int kn, .int v_31, .int nu, .long va]) := h_4
  refine z_callV (As := []) (rest := []) B (r_sendPending G l Φ2 sz x rd n_5 n_6 le nx il qu kn ec nu va  hx hI2 ) (cwV 0 B.1.2.2.2.2 gX12_flush_X12_sendPending rfl rfl rfl (by decide +kernel) ⟨Nat.le_of_ble_eq_true rfl, Nat.le_of_ble_eq_true rfl⟩) h_5 rfl rfl rfl rfl (Nat.le_of_ble_eq_true rfl) dX12_flush_11 ⟨Nat.le_of_ble_eq_true rfl, Nat.le_of_ble_eq_true rfl⟩ (fun r_2 Φ3 sz2 st2 hp2 hs2 => ?_)
  obtain ⟨rfl, hq2, ⟨n_11, n_12, hI3⟩, hF2⟩ := hp2
  subst sz2
  replace hs2 : st2 = [] := hs2
  subst st2
  replace hI3 : Im G x (rd, NN, n_5, 0, n_11, nx, il, n_12, kn, ec, nu, va) Φ3 := hI3
  refine z_iload_n B dX12_flush_14 rfl 0 rfl ?_
  exact z_ret_i B dX12_flush_15 ⟨⟨_, rfl⟩, rfl, ⟨n_5, n_11, n_12, hI3⟩, (fun b9 h9 => ((hF2 b9 (fun j9 h8 h7 => h9 j9 h8 (show j9 = 0 ∨ j9 = 3 ∨ j9 = 4 ∨ j9 = 5 ∨ j9 = 6 ∨ j9 = 7 ∨ j9 = 8 ∨ j9 = 9 ∨ j9 = 10 by have h6 : j9 = 0 ∨ j9 = 3 ∨ j9 = 4 ∨ j9 = 8 ∨ j9 = 9 ∨ j9 = 10 := h7; omega))).trans ((hF1 b9 (fun j9 h8 h7 => h9 j9 h8 (show j9 = 0 ∨ j9 = 3 ∨ j9 = 4 ∨ j9 = 5 ∨ j9 = 6 ∨ j9 = 7 ∨ j9 = 8 ∨ j9 = 9 ∨ j9 = 10 by have h6 : j9 = 0 ∨ j9 = 5 ∨ j9 = 6 ∨ j9 = 7 := h7; omega))).trans ((fset_fr hΦ1 (fun h8 => h9 (0) h8 (show 0 = 0 ∨ 0 = 3 ∨ 0 = 4 ∨ 0 = 5 ∨ 0 = 6 ∨ 0 = 7 ∨ 0 = 8 ∨ 0 = 9 ∨ 0 = 10 by omega))).trans rfl))))⟩

set_option maxHeartbeats 4000000 in
set_option maxRecDepth 100000 in
theorem r_isOver (G : EnvG) (l : Launch) (Φ : Hm) (sz x : Nat) (rd : (Nat → Int32) → Prop) (fl : Nat) (pe : Nat) (le : Nat) (nx : Nat) (il : Nat) (qu : Nat) (kn : Int32) (ec : Int32) (nu : Int32) (va : Int64) (f : Nat) (hx : G.2.2.2 ≤ x) (hI : Im G x (rd, NN, fl, pe, le, nx, il, qu, kn, ec, nu, va) Φ) (hf : f < 12) : Ct G l yX12_isOver wsX12_isOver ({ frames := 0, cells := 0, slots := 0, locals := 0 }) 0 0 [.ref x, .int (nI f)] Φ sz (fun v Φ1 sz1 => (∃ r9 : Int32, v = some (.int r9) ∧ (r9 = 0 ∨ r9 = 1)) ∧ sz1 = sz ∧ (Im G x (rd, NN, fl, pe, le, nx, il, qu, kn, ec, nu, va) Φ1) ∧ Fr x (fun j9 => False) Φ Φ1) := by
  refine Ct.of (cc := cX12_isOver) (maxL := 2) (ret := (some .boolean)) (by decide) rfl (Nat.le_of_ble_eq_true rfl) ?_
  intro p9 e9 s9 m9 w9 t9 k9 B
  show Z p9 l e9 _ s9 m9 _ w9 t9 k9 _ G 2 0 [(0, .ref x), (1, .int (nI f))] [] Φ sz 0 0
  refine z_aload_n B dX12_isOver_0 rfl 0 rfl ?_
  obtain ⟨v_1, v_2, v_3, n_1, v_4, v_5, v_6, v_7, v_8, v_9, v_10, v_11, v_12, n_2, v_13, n_3, n_4, v_14, v_15, h_1, b_12, b_1, b_2, b_3, b_4, b_5, b_6, b_7, b_8, b_9, b_10, b_11⟩ := im0 hI
  replace b_1 : 1 ≤ n_1 := b_1
  replace b_2 : n_1 ≤ 1024 := b_2
  replace b_3 : fl ≤ 12 := b_3
  replace b_4 : pe ≤ 24 := b_4
  replace b_5 : le ≤ 700 := b_5
  replace b_6 : qu ≤ 12 := b_6
  replace b_7 : n_2 ≤ 8 := b_7
  replace b_8 : n_3 ≤ 24 := b_8
  replace b_9 : n_4 ≤ 24 := b_9
  replace b_10 : il ≤ 700 := b_10
  replace b_11 : nx ≤ 701 := b_11
  have h_2 : Φ x = some (o_ 14 [.int v_1, .ref (x + 1), .ref (x + 2), .int v_2, .int v_3, .int (nI n_1), .int v_4, .int v_5, .ref (x + 3), .ref (x + 4), .int v_6, .long v_7, .ref (x + 5), .int (nI fl), .int v_8, .long v_9, .long v_10, .long v_11, .long v_12, .ref (x + 6), .ref (x + 7), .int (nI pe), .ref (x + 8), .int (nI le), .ref (x + 9), .ref (x + 10), .int (nI qu), .ref (x + 11), .ref (x + 12), .ref (x + 13), .ref (x + 14), .ref (x + 15), .ref (x + 16), .int (nI n_2), .long v_13, .ref (x + 17), .ref (x + 18), .ref (x + 19), .ref (x + 20), .ref (x + 21), .ref (x + 22), .int (nI n_3), .ref (x + 23), .ref (x + 24), .int (nI n_4), .ref (x + 25), .int (nI il), .int (nI nx), .int ec, .int v_14, .int kn, .int v_15, .int nu, .long va]) := h_1
  refine z_get (ref := "FlowExporterModel") (C := RX12) (T := TX12) (N := 54) (ci := 14) (v := .int v_2) B (by decide +kernel) rfl 3 (by decide) (by decide +kernel) rfl h_2 rfl dX12_isOver_1 ?_
  refine z_i2l (v := v_2.toInt64) B dX12_isOver_4 rfl ?_
  refine z_aload_n B dX12_isOver_5 rfl 0 rfl ?_
  refine z_get (ref := "FlowExporterModel") (C := RX12) (T := TX12) (N := 54) (ci := 14) (v := .ref (x + 5)) B (by decide +kernel) rfl 12 (by decide) (by decide +kernel) rfl h_2 rfl dX12_isOver_6 ?_
  refine z_bipush (v := 8) B dX12_isOver_9 rfl ?_
  refine z_iload_n B dX12_isOver_11 rfl 1 rfl ?_
  refine z_imul B dX12_isOver_12 ?_
  refine z_top (st1 := [.int (nI (8 * f)), .ref (x + 5), .long v_2.toInt64]) (congrArg (fun w9 : Int32 => ([.int w9, .ref (x + 5), .long v_2.toInt64] : List Value)) (nI_mul 8 f)) ?_
  refine z_bipush (v := 6) B dX12_isOver_13 rfl ?_
  refine z_iadd B dX12_isOver_15 ?_
  refine z_top (st1 := [.int (nI (8 * f + 6)), .ref (x + 5), .long v_2.toInt64]) (congrArg (fun w9 : Int32 => ([.int w9, .ref (x + 5), .long v_2.toInt64] : List Value)) (nI_add (8 * f) 6)) ?_
  obtain ⟨f_1, h_3, r_1⟩ := imk (k := 5) hI
  replace r_1 : CC f_1 := r_1
  have h_4 : Φ (x + 5) = some (al_ G 96 f_1) := h_3
  refine z_lald B h_4 (vp_in_nI (by omega) (by omega)) dX12_isOver_16 ?_
  refine z_fl (fun v_16 => ?_)
  refine z_lsub B dX12_isOver_17 ?_
  refine z_fl (fun v_17 => ?_)
  refine z_aload_n B dX12_isOver_18 rfl 0 rfl ?_
  refine z_get (ref := "FlowExporterModel") (C := RX12) (T := TX12) (N := 54) (ci := 14) (v := .ref (x + 2)) B (by decide +kernel) rfl 2 (by decide) (by decide +kernel) rfl h_2 rfl dX12_isOver_19 ?_
  refine z_iconst (v := 2) B dX12_isOver_22 rfl ?_
  obtain ⟨f_2, h_5, r_2⟩ := imk (k := 2) hI
  replace r_2 : NN f_2 := r_2
  have h_6 : Φ (x + 2) = some (ai_ G 307 f_2) := h_5
  refine z_iald B h_6 (vin rfl) dX12_isOver_23 ?_
  refine z_fi (fun v_18 => ?_)
  refine z_i2l (v := v_18.toInt64) B dX12_isOver_24 rfl ?_
  refine z_lcmp B dX12_isOver_25 ?_
  refine z_fi (fun v_19 => ?_)
  refine z_if_ge (tgt := 58) B dX12_isOver_26 rfl (fun c_1 => ?_) (fun c_1 => ?_)
  · obtain ⟨n_5, e_1, rfl⟩ := nI_of (Int32.not_lt.mpr c_1)
    refine z_iconst (v := 1) B dX12_isOver_58 rfl ?_
    refine z_goto (tgt := 63) B dX12_isOver_59 rfl ?_
    exact z_ret_z B dX12_isOver_63 (by decide) ⟨⟨_, rfl, by decide⟩, rfl, hI, (fun b9 h9 => rfl)⟩
  · refine z_aload_n B dX12_isOver_29 rfl 0 rfl ?_
    refine z_get (ref := "FlowExporterModel") (C := RX12) (T := TX12) (N := 54) (ci := 14) (v := .int v_2) B (by decide +kernel) rfl 3 (by decide) (by decide +kernel) rfl h_2 rfl dX12_isOver_30 ?_
    refine z_i2l (v := v_2.toInt64) B dX12_isOver_33 rfl ?_
    refine z_aload_n B dX12_isOver_34 rfl 0 rfl ?_
    refine z_get (ref := "FlowExporterModel") (C := RX12) (T := TX12) (N := 54) (ci := 14) (v := .ref (x + 5)) B (by decide +kernel) rfl 12 (by decide) (by decide +kernel) rfl h_2 rfl dX12_isOver_35 ?_
    refine z_bipush (v := 8) B dX12_isOver_38 rfl ?_
    refine z_iload_n B dX12_isOver_40 rfl 1 rfl ?_
    refine z_imul B dX12_isOver_41 ?_
    refine z_top (st1 := [.int (nI (8 * f)), .ref (x + 5), .long v_2.toInt64]) (congrArg (fun w9 : Int32 => ([.int w9, .ref (x + 5), .long v_2.toInt64] : List Value)) (nI_mul 8 f)) ?_
    refine z_bipush (v := 7) B dX12_isOver_42 rfl ?_
    refine z_iadd B dX12_isOver_44 ?_
    refine z_top (st1 := [.int (nI (8 * f + 7)), .ref (x + 5), .long v_2.toInt64]) (congrArg (fun w9 : Int32 => ([.int w9, .ref (x + 5), .long v_2.toInt64] : List Value)) (nI_add (8 * f) 7)) ?_
    refine z_lald B h_4 (vp_in_nI (by omega) (by omega)) dX12_isOver_45 ?_
    refine z_fl (fun v_20 => ?_)
    refine z_lsub B dX12_isOver_46 ?_
    refine z_fl (fun v_21 => ?_)
    refine z_aload_n B dX12_isOver_47 rfl 0 rfl ?_
    refine z_get (ref := "FlowExporterModel") (C := RX12) (T := TX12) (N := 54) (ci := 14) (v := .ref (x + 2)) B (by decide +kernel) rfl 2 (by decide) (by decide +kernel) rfl h_2 rfl dX12_isOver_48 ?_
    refine z_iconst (v := 3) B dX12_isOver_51 rfl ?_
    refine z_iald B h_6 (vin rfl) dX12_isOver_52 ?_
    refine z_fi (fun v_22 => ?_)
    refine z_i2l (v := v_22.toInt64) B dX12_isOver_53 rfl ?_
    refine z_lcmp B dX12_isOver_54 ?_
    refine z_fi (fun v_23 => ?_)
    refine z_if_lt (tgt := 62) B dX12_isOver_55 rfl (fun c_2 => ?_) (fun c_2 => ?_)
    · refine z_iconst (v := 0) B dX12_isOver_62 rfl ?_
      exact z_ret_z B dX12_isOver_63 (by decide) ⟨⟨_, rfl, by decide⟩, rfl, hI, (fun b9 h9 => rfl)⟩
    · obtain ⟨n_6, e_2, rfl⟩ := nI_of c_2
      refine z_iconst (v := 1) B dX12_isOver_58 rfl ?_
      refine z_goto (tgt := 63) B dX12_isOver_59 rfl ?_
      exact z_ret_z B dX12_isOver_63 (by decide) ⟨⟨_, rfl, by decide⟩, rfl, hI, (fun b9 h9 => rfl)⟩

set_option maxHeartbeats 4000000 in
set_option maxRecDepth 100000 in
theorem r_adapt (G : EnvG) (l : Launch) (Φ : Hm) (sz x : Nat) (rd : (Nat → Int32) → Prop) (fl : Nat) (pe : Nat) (le : Nat) (nx : Nat) (il : Nat) (qu : Nat) (kn : Int32) (ec : Int32) (nu : Int32) (va : Int64)  (hx : G.2.2.2 ≤ x) (hI : Im G x (rd, NN, fl, pe, le, nx, il, qu, kn, ec, nu, va) Φ) (hp : pe + fl ≤ 24) : Ct G l yX12_adapt wsX12_adapt ({ frames := 7, cells := 0, slots := 0, locals := 154 }) 0 0 [.ref x] Φ sz (fun v Φ1 sz1 => (∃ r9 : Int32, v = some (.int r9)) ∧ sz1 = sz ∧ (∃ (fl1 : Nat) (pe1 : Nat), (fl1 ≤ fl) ∧ (pe1 ≤ pe + fl) ∧ Im G x (rd, NN, fl1, pe1, le, nx, il, qu, kn, ec, nu, va) Φ1) ∧ Fr x (fun j9 => j9 = 0 ∨ j9 = 5 ∨ j9 = 6 ∨ j9 = 7) Φ Φ1) := by
  refine Ct.of (cc := cX12_adapt) (maxL := 2) (ret := (some .int)) (by decide) rfl (Nat.le_of_ble_eq_true rfl) ?_
  intro p9 e9 s9 m9 w9 t9 k9 B
  show Z p9 l e9 _ s9 m9 _ w9 t9 k9 _ G 2 0 [(0, .ref x)] [] Φ sz 0 0
  refine z_aload_n B dX12_adapt_0 rfl 0 rfl ?_
  obtain ⟨v_1, v_2, v_3, n_1, v_4, v_5, v_6, v_7, v_8, v_9, v_10, v_11, v_12, n_2, v_13, n_3, n_4, v_14, v_15, h_1, b_12, b_1, b_2, b_3, b_4, b_5, b_6, b_7, b_8, b_9, b_10, b_11⟩ := im0 hI
  replace b_1 : 1 ≤ n_1 := b_1
  replace b_2 : n_1 ≤ 1024 := b_2
  replace b_3 : fl ≤ 12 := b_3
  replace b_4 : pe ≤ 24 := b_4
  replace b_5 : le ≤ 700 := b_5
  replace b_6 : qu ≤ 12 := b_6
  replace b_7 : n_2 ≤ 8 := b_7
  replace b_8 : n_3 ≤ 24 := b_8
  replace b_9 : n_4 ≤ 24 := b_9
  replace b_10 : il ≤ 700 := b_10
  replace b_11 : nx ≤ 701 := b_11
  have h_2 : Φ x = some (o_ 14 [.int v_1, .ref (x + 1), .ref (x + 2), .int v_2, .int v_3, .int (nI n_1), .int v_4, .int v_5, .ref (x + 3), .ref (x + 4), .int v_6, .long v_7, .ref (x + 5), .int (nI fl), .int v_8, .long v_9, .long v_10, .long v_11, .long v_12, .ref (x + 6), .ref (x + 7), .int (nI pe), .ref (x + 8), .int (nI le), .ref (x + 9), .ref (x + 10), .int (nI qu), .ref (x + 11), .ref (x + 12), .ref (x + 13), .ref (x + 14), .ref (x + 15), .ref (x + 16), .int (nI n_2), .long v_13, .ref (x + 17), .ref (x + 18), .ref (x + 19), .ref (x + 20), .ref (x + 21), .ref (x + 22), .int (nI n_3), .ref (x + 23), .ref (x + 24), .int (nI n_4), .ref (x + 25), .int (nI il), .int (nI nx), .int ec, .int v_14, .int kn, .int v_15, .int nu, .long va]) := h_1
  refine z_get (ref := "FlowExporterModel") (C := RX12) (T := TX12) (N := 54) (ci := 14) (v := .int v_4) B (by decide +kernel) rfl 6 (by decide) (by decide +kernel) rfl h_2 rfl dX12_adapt_1 ?_
  refine z_istore_n (lv' := [(1, .int v_4), (0, .ref x)]) B dX12_adapt_4 rfl (Nat.le_of_ble_eq_true rfl) rfl ?_
  refine z_aload_n B dX12_adapt_5 rfl 1 rfl ?_
  refine z_iconst (v := 0) B dX12_adapt_6 rfl ?_
  refine z_put (ref := "FlowExporterModel") (C := RX12) (T := TX12) (N := 54) (ci := 14) (v := .int 0) B (by decide +kernel) tyX12 tyX12_ok nmX12 rfl 6 (by decide) (by decide +kernel) rfl (Or.inl rfl) h_2 hx rfl rfl (Nat.le_of_ble_eq_true rfl) dX12_adapt_7 (fun Φ1 hΦ1 => ?_)
  have h_3 : Φ1 x = some (o_ 14 [.int v_1, .ref (x + 1), .ref (x + 2), .int v_2, .int v_3, .int (nI n_1), .int 0, .int v_5, .ref (x + 3), .ref (x + 4), .int v_6, .long v_7, .ref (x + 5), .int (nI fl), .int v_8, .long v_9, .long v_10, .long v_11, .long v_12, .ref (x + 6), .ref (x + 7), .int (nI pe), .ref (x + 8), .int (nI le), .ref (x + 9), .ref (x + 10), .int (nI qu), .ref (x + 11), .ref (x + 12), .ref (x + 13), .ref (x + 14), .ref (x + 15), .ref (x + 16), .int (nI n_2), .long v_13, .ref (x + 17), .ref (x + 18), .ref (x + 19), .ref (x + 20), .ref (x + 21), .ref (x + 22), .int (nI n_3), .ref (x + 23), .ref (x + 24), .int (nI n_4), .ref (x + 25), .int (nI il), .int (nI nx), .int ec, .int v_14, .int kn, .int v_15, .int nu, .long va]) := fset_at hΦ1
  have hI1 : Im G x (rd, NN, fl, pe, le, nx, il, qu, kn, ec, nu, va) Φ1 := Im.put0 hI hΦ1 ⟨v_1, v_2, v_3, n_1, 0, v_5, v_6, v_7, v_8, v_9, v_10, v_11, v_12, n_2, v_13, n_3, n_4, v_14, v_15, rfl, b_12, (show 1 ≤ n_1 by omega), (show n_1 ≤ 1024 by omega), (show fl ≤ 12 by omega), (show pe ≤ 24 by omega), (show le ≤ 700 by omega), (show qu ≤ 12 by omega), (show n_2 ≤ 8 by omega), (show n_3 ≤ 24 by omega), (show n_4 ≤ 24 by omega), (show il ≤ 700 by omega), (show nx ≤ 701 by omega)⟩
  refine z_aload_n B dX12_adapt_10 rfl 1 rfl ?_
  refine z_get (ref := "FlowExporterModel") (C := RX12) (T := TX12) (N := 54) (ci := 14) (v := .int v_5) B (by decide +kernel) rfl 7 (by decide) (by decide +kernel) rfl h_3 rfl dX12_adapt_11 ?_
  refine z_if_ne (tgt := 19) B dX12_adapt_14 rfl (fun c_1 => ?_) (fun c_1 => ?_)
  · refine z_iload_n B dX12_adapt_19 rfl 0 rfl ?_
    refine z_aload_n B dX12_adapt_20 rfl 1 rfl ?_
    refine z_get (ref := "FlowExporterModel") (C := RX12) (T := TX12) (N := 54) (ci := 14) (v := .ref (x + 2)) B (by decide +kernel) rfl 2 (by decide) (by decide +kernel) rfl h_3 rfl dX12_adapt_21 ?_
    refine z_iconst (v := 1) B dX12_adapt_24 rfl ?_
    obtain ⟨f_1, h_4, r_1⟩ := imk (k := 2) hI1
    replace r_1 : NN f_1 := r_1
    have h_5 : Φ1 (x + 2) = some (ai_ G 307 f_1) := h_4
    refine z_iald B h_5 (vin rfl) dX12_adapt_25 ?_
    refine z_fi (fun v_16 => ?_)
    refine z_icmp_le (tgt := 50) B dX12_adapt_26 rfl (fun c_2 => ?_) (fun c_2 => ?_)
    · refine z_iconst (v := 2) B dX12_adapt_50 rfl ?_
      refine z_iload_n B dX12_adapt_51 rfl 0 rfl ?_
      refine z_imul B dX12_adapt_52 ?_
      refine z_fi (fun v_17 => ?_)
      refine z_aload_n B dX12_adapt_53 rfl 1 rfl ?_
      refine z_get (ref := "FlowExporterModel") (C := RX12) (T := TX12) (N := 54) (ci := 14) (v := .ref (x + 2)) B (by decide +kernel) rfl 2 (by decide) (by decide +kernel) rfl h_3 rfl dX12_adapt_54 ?_
      refine z_iconst (v := 1) B dX12_adapt_57 rfl ?_
      refine z_iald B h_5 (vin rfl) dX12_adapt_58 ?_
      refine z_fi (fun v_18 => ?_)
      refine z_icmp_ge (tgt := 83) B dX12_adapt_59 rfl (fun c_3 => ?_) (fun c_3 => ?_)
      · refine z_iconst (v := 0) B dX12_adapt_83 rfl ?_
        exact z_ret_i B dX12_adapt_84 ⟨⟨_, rfl⟩, rfl, ⟨fl, pe, (show fl ≤ fl by omega), (show pe ≤ pe + fl by omega), hI1⟩, (fun b9 h9 => ((fset_fr hΦ1 (fun h8 => h9 (0) h8 (show 0 = 0 ∨ 0 = 5 ∨ 0 = 6 ∨ 0 = 7 by omega))).trans rfl))⟩
      · refine z_aload_n B dX12_adapt_62 rfl 1 rfl ?_
        refine z_get (ref := "FlowExporterModel") (C := RX12) (T := TX12) (N := 54) (ci := 14) (v := .int (nI n_1)) B (by decide +kernel) rfl 5 (by decide) (by decide +kernel) rfl h_3 rfl dX12_adapt_63 ?_
        refine z_iconst (v := 2) B dX12_adapt_66 rfl ?_
        refine z_icmp_lt (tgt := 83) B dX12_adapt_67 rfl (fun c_4 => ?_) (fun c_4 => ?_)
        · have e_1 : n_1 < 2 := (nI_ltI (a := n_1) (b := 2) (by omega) (by omega)).mp c_4
          refine z_iconst (v := 0) B dX12_adapt_83 rfl ?_
          exact z_ret_i B dX12_adapt_84 ⟨⟨_, rfl⟩, rfl, ⟨fl, pe, (show fl ≤ fl by omega), (show pe ≤ pe + fl by omega), hI1⟩, (fun b9 h9 => ((fset_fr hΦ1 (fun h8 => h9 (0) h8 (show 0 = 0 ∨ 0 = 5 ∨ 0 = 6 ∨ 0 = 7 by omega))).trans rfl))⟩
        · have e_2 : ¬ (n_1 < 2) := fun h9 => c_4 ((nI_ltI (a := n_1) (b := 2) (by omega) (by omega)).mpr h9)
          refine z_aload_n B dX12_adapt_70 rfl 1 rfl ?_
          refine z_aload_n B dX12_adapt_71 rfl 1 rfl ?_
          refine z_get (ref := "FlowExporterModel") (C := RX12) (T := TX12) (N := 54) (ci := 14) (v := .int (nI n_1)) B (by decide +kernel) rfl 5 (by decide) (by decide +kernel) rfl h_3 rfl dX12_adapt_72 ?_
          refine z_iconst (v := 2) B dX12_adapt_75 rfl ?_
          refine z_idiv B dX12_adapt_76 (by decide) ?_
          refine z_top (st1 := [.int (nI (n_1 / 2)), .ref x]) (congrArg (fun w9 : Int32 => ([.int w9, .ref x] : List Value)) (pk_div (d := 2) (show n_1 < 2 ^ 31 by omega) (by decide) (by decide))) ?_
          refine z_callV (As := [.int (nI (n_1 / 2))]) (rest := []) B (r_changeRate G l Φ1 sz x rd fl pe le nx il qu kn ec nu va (n_1 / 2) hx hI1 (show 1 ≤ (n_1 / 2) by omega) (show (n_1 / 2) ≤ 1024 by omega) (show pe + fl ≤ 24 by omega)) (cwV 1 B.1.2.2.2.2 gX12_adapt_X12_changeRate rfl rfl rfl (by decide +kernel) ⟨Nat.le_of_ble_eq_true rfl, Nat.le_of_ble_eq_true rfl⟩) h_3 rfl rfl rfl rfl (Nat.le_of_ble_eq_true rfl) dX12_adapt_77 ⟨Nat.le_of_ble_eq_true rfl, Nat.le_of_ble_eq_true rfl⟩ (fun r_2 Φ2 sz1 st1 hp1 hs1 => ?_)
          obtain ⟨⟨v_19, rfl⟩, hq1, ⟨n_5, n_6, b_13, b_14, hI2⟩, hF1⟩ := hp1
          subst sz1
          replace hs1 : st1 = [.int v_19] := hs1
          subst st1
          replace hI2 : Im G x (rd, NN, n_5, n_6, le, nx, il, qu, kn, ec, nu, va) Φ2 := hI2
          replace b_13 : n_5 ≤ fl := b_13
          replace b_14 : n_6 ≤ pe + fl := b_14
          refine z_goto (tgt := 84) B dX12_adapt_80 rfl ?_
          exact z_ret_i B dX12_adapt_84 ⟨⟨_, rfl⟩, rfl, ⟨n_5, n_6, (show n_5 ≤ fl by omega), (show n_6 ≤ pe + fl by omega), hI2⟩, (fun b9 h9 => ((hF1 b9 (fun j9 h8 h7 => h9 j9 h8 (show j9 = 0 ∨ j9 = 5 ∨ j9 = 6 ∨ j9 = 7 by have h6 : j9 = 0 ∨ j9 = 5 ∨ j9 = 6 ∨ j9 = 7 := h7; omega))).trans ((fset_fr hΦ1 (fun h8 => h9 (0) h8 (show 0 = 0 ∨ 0 = 5 ∨ 0 = 6 ∨ 0 = 7 by omega))).trans rfl)))⟩
    · refine z_aload_n B dX12_adapt_29 rfl 1 rfl ?_
      refine z_get (ref := "FlowExporterModel") (C := RX12) (T := TX12) (N := 54) (ci := 14) (v := .int (nI n_1)) B (by decide +kernel) rfl 5 (by decide) (by decide +kernel) rfl h_3 rfl dX12_adapt_30 ?_
      refine z_sipush (v := 512) B dX12_adapt_33 rfl ?_
      refine z_icmp_gt (tgt := 50) B dX12_adapt_36 rfl (fun c_5 => ?_) (fun c_5 => ?_)
      · have e_3 : 512 < n_1 := (nI_ltI (a := 512) (b := n_1) (by omega) (by omega)).mp c_5
        refine z_iconst (v := 2) B dX12_adapt_50 rfl ?_
        refine z_iload_n B dX12_adapt_51 rfl 0 rfl ?_
        refine z_imul B dX12_adapt_52 ?_
        refine z_fi (fun v_20 => ?_)
        refine z_aload_n B dX12_adapt_53 rfl 1 rfl ?_
        refine z_get (ref := "FlowExporterModel") (C := RX12) (T := TX12) (N := 54) (ci := 14) (v := .ref (x + 2)) B (by decide +kernel) rfl 2 (by decide) (by decide +kernel) rfl h_3 rfl dX12_adapt_54 ?_
        refine z_iconst (v := 1) B dX12_adapt_57 rfl ?_
        refine z_iald B h_5 (vin rfl) dX12_adapt_58 ?_
        refine z_fi (fun v_21 => ?_)
        refine z_icmp_ge (tgt := 83) B dX12_adapt_59 rfl (fun c_6 => ?_) (fun c_6 => ?_)
        · refine z_iconst (v := 0) B dX12_adapt_83 rfl ?_
          exact z_ret_i B dX12_adapt_84 ⟨⟨_, rfl⟩, rfl, ⟨fl, pe, (show fl ≤ fl by omega), (show pe ≤ pe + fl by omega), hI1⟩, (fun b9 h9 => ((fset_fr hΦ1 (fun h8 => h9 (0) h8 (show 0 = 0 ∨ 0 = 5 ∨ 0 = 6 ∨ 0 = 7 by omega))).trans rfl))⟩
        · refine z_aload_n B dX12_adapt_62 rfl 1 rfl ?_
          refine z_get (ref := "FlowExporterModel") (C := RX12) (T := TX12) (N := 54) (ci := 14) (v := .int (nI n_1)) B (by decide +kernel) rfl 5 (by decide) (by decide +kernel) rfl h_3 rfl dX12_adapt_63 ?_
          refine z_iconst (v := 2) B dX12_adapt_66 rfl ?_
          refine z_icmp_lt (tgt := 83) B dX12_adapt_67 rfl (fun c_7 => ?_) (fun c_7 => ?_)
          · have e_4 : n_1 < 2 := (nI_ltI (a := n_1) (b := 2) (by omega) (by omega)).mp c_7
            refine z_iconst (v := 0) B dX12_adapt_83 rfl ?_
            exact z_ret_i B dX12_adapt_84 ⟨⟨_, rfl⟩, rfl, ⟨fl, pe, (show fl ≤ fl by omega), (show pe ≤ pe + fl by omega), hI1⟩, (fun b9 h9 => ((fset_fr hΦ1 (fun h8 => h9 (0) h8 (show 0 = 0 ∨ 0 = 5 ∨ 0 = 6 ∨ 0 = 7 by omega))).trans rfl))⟩
          · have e_5 : ¬ (n_1 < 2) := fun h9 => c_7 ((nI_ltI (a := n_1) (b := 2) (by omega) (by omega)).mpr h9)
            refine z_aload_n B dX12_adapt_70 rfl 1 rfl ?_
            refine z_aload_n B dX12_adapt_71 rfl 1 rfl ?_
            refine z_get (ref := "FlowExporterModel") (C := RX12) (T := TX12) (N := 54) (ci := 14) (v := .int (nI n_1)) B (by decide +kernel) rfl 5 (by decide) (by decide +kernel) rfl h_3 rfl dX12_adapt_72 ?_
            refine z_iconst (v := 2) B dX12_adapt_75 rfl ?_
            refine z_idiv B dX12_adapt_76 (by decide) ?_
            refine z_top (st1 := [.int (nI (n_1 / 2)), .ref x]) (congrArg (fun w9 : Int32 => ([.int w9, .ref x] : List Value)) (pk_div (d := 2) (show n_1 < 2 ^ 31 by omega) (by decide) (by decide))) ?_
            refine z_callV (As := [.int (nI (n_1 / 2))]) (rest := []) B (r_changeRate G l Φ1 sz x rd fl pe le nx il qu kn ec nu va (n_1 / 2) hx hI1 (show 1 ≤ (n_1 / 2) by omega) (show (n_1 / 2) ≤ 1024 by omega) (show pe + fl ≤ 24 by omega)) (cwV 1 B.1.2.2.2.2 gX12_adapt_X12_changeRate rfl rfl rfl (by decide +kernel) ⟨Nat.le_of_ble_eq_true rfl, Nat.le_of_ble_eq_true rfl⟩) h_3 rfl rfl rfl rfl (Nat.le_of_ble_eq_true rfl) dX12_adapt_77 ⟨Nat.le_of_ble_eq_true rfl, Nat.le_of_ble_eq_true rfl⟩ (fun r_3 Φ3 sz2 st2 hp2 hs2 => ?_)
            obtain ⟨⟨v_22, rfl⟩, hq2, ⟨n_7, n_8, b_15, b_16, hI3⟩, hF2⟩ := hp2
            subst sz2
            replace hs2 : st2 = [.int v_22] := hs2
            subst st2
            replace hI3 : Im G x (rd, NN, n_7, n_8, le, nx, il, qu, kn, ec, nu, va) Φ3 := hI3
            replace b_15 : n_7 ≤ fl := b_15
            replace b_16 : n_8 ≤ pe + fl := b_16
            refine z_goto (tgt := 84) B dX12_adapt_80 rfl ?_
            exact z_ret_i B dX12_adapt_84 ⟨⟨_, rfl⟩, rfl, ⟨n_7, n_8, (show n_7 ≤ fl by omega), (show n_8 ≤ pe + fl by omega), hI3⟩, (fun b9 h9 => ((hF2 b9 (fun j9 h8 h7 => h9 j9 h8 (show j9 = 0 ∨ j9 = 5 ∨ j9 = 6 ∨ j9 = 7 by have h6 : j9 = 0 ∨ j9 = 5 ∨ j9 = 6 ∨ j9 = 7 := h7; omega))).trans ((fset_fr hΦ1 (fun h8 => h9 (0) h8 (show 0 = 0 ∨ 0 = 5 ∨ 0 = 6 ∨ 0 = 7 by omega))).trans rfl)))⟩
      · have e_6 : ¬ (512 < n_1) := fun h9 => c_5 ((nI_ltI (a := 512) (b := n_1) (by omega) (by omega)).mpr h9)
        refine z_aload_n B dX12_adapt_39 rfl 1 rfl ?_
        refine z_iconst (v := 2) B dX12_adapt_40 rfl ?_
        refine z_aload_n B dX12_adapt_41 rfl 1 rfl ?_
        refine z_get (ref := "FlowExporterModel") (C := RX12) (T := TX12) (N := 54) (ci := 14) (v := .int (nI n_1)) B (by decide +kernel) rfl 5 (by decide) (by decide +kernel) rfl h_3 rfl dX12_adapt_42 ?_
        refine z_imul B dX12_adapt_45 ?_
        refine z_top (st1 := [.int (nI (2 * n_1)), .ref x]) (congrArg (fun w9 : Int32 => ([.int w9, .ref x] : List Value)) (nI_mul 2 n_1)) ?_
        refine z_callV (As := [.int (nI (2 * n_1))]) (rest := []) B (r_changeRate G l Φ1 sz x rd fl pe le nx il qu kn ec nu va (2 * n_1) hx hI1 (show 1 ≤ (2 * n_1) by omega) (show (2 * n_1) ≤ 1024 by omega) (show pe + fl ≤ 24 by omega)) (cwV 1 B.1.2.2.2.2 gX12_adapt_X12_changeRate rfl rfl rfl (by decide +kernel) ⟨Nat.le_of_ble_eq_true rfl, Nat.le_of_ble_eq_true rfl⟩) h_3 rfl rfl rfl rfl (Nat.le_of_ble_eq_true rfl) dX12_adapt_46 ⟨Nat.le_of_ble_eq_true rfl, Nat.le_of_ble_eq_true rfl⟩ (fun r_4 Φ4 sz3 st3 hp3 hs3 => ?_)
        obtain ⟨⟨v_23, rfl⟩, hq3, ⟨n_9, n_10, b_17, b_18, hI4⟩, hF3⟩ := hp3
        subst sz3
        replace hs3 : st3 = [.int v_23] := hs3
        subst st3
        replace hI4 : Im G x (rd, NN, n_9, n_10, le, nx, il, qu, kn, ec, nu, va) Φ4 := hI4
        replace b_17 : n_9 ≤ fl := b_17
        replace b_18 : n_10 ≤ pe + fl := b_18
        exact z_ret_i B dX12_adapt_49 ⟨⟨_, rfl⟩, rfl, ⟨n_9, n_10, (show n_9 ≤ fl by omega), (show n_10 ≤ pe + fl by omega), hI4⟩, (fun b9 h9 => ((hF3 b9 (fun j9 h8 h7 => h9 j9 h8 (show j9 = 0 ∨ j9 = 5 ∨ j9 = 6 ∨ j9 = 7 by have h6 : j9 = 0 ∨ j9 = 5 ∨ j9 = 6 ∨ j9 = 7 := h7; omega))).trans ((fset_fr hΦ1 (fun h8 => h9 (0) h8 (show 0 = 0 ∨ 0 = 5 ∨ 0 = 6 ∨ 0 = 7 by omega))).trans rfl)))⟩
  · refine z_iconst (v := 0) B dX12_adapt_17 rfl ?_
    exact z_ret_i B dX12_adapt_18 ⟨⟨_, rfl⟩, rfl, ⟨fl, pe, (show fl ≤ fl by omega), (show pe ≤ pe + fl by omega), hI1⟩, (fun b9 h9 => ((fset_fr hΦ1 (fun h8 => h9 (0) h8 (show 0 = 0 ∨ 0 = 5 ∨ 0 = 6 ∨ 0 = 7 by omega))).trans rfl))⟩

set_option maxHeartbeats 4000000 in
set_option maxRecDepth 100000 in
theorem r_tick (G : EnvG) (l : Launch) (Φ : Hm) (sz x : Nat) (rd : (Nat → Int32) → Prop) (fl : Nat) (le : Nat) (nx : Nat) (il : Nat) (qu : Nat) (kn : Int32) (ec : Int32) (nu : Int32) (va : Int64)  (hx : G.2.2.2 ≤ x) (hI : Im G x (rd, NN, fl, 0, le, nx, il, qu, kn, ec, nu, va) Φ)  : Ct G l yX12_tick wsX12_tick ({ frames := 8, cells := 0, slots := 0, locals := 175 }) 0 0 [.ref x] Φ sz (fun v Φ1 sz1 => (∃ r9 : Int32, v = some (.int r9)) ∧ sz1 = sz ∧ (∃ (fl1 : Nat) (le1 : Nat) (qu1 : Nat), Im G x (rd, NN, fl1, 0, le1, nx, il, qu1, kn, ec, nu, va) Φ1) ∧ Fr x (fun j9 => j9 = 0 ∨ j9 = 3 ∨ j9 = 4 ∨ j9 = 5 ∨ j9 = 6 ∨ j9 = 7 ∨ j9 = 8 ∨ j9 = 9 ∨ j9 = 10) Φ Φ1) := by
  refine Ct.of (cc := cX12_tick) (maxL := 3) (ret := (some .int)) (by decide) rfl (Nat.le_of_ble_eq_true rfl) ?_
  intro p9 e9 s9 m9 w9 t9 k9 B
  show Z p9 l e9 _ s9 m9 _ w9 t9 k9 _ G 3 0 [(0, .ref x)] [] Φ sz 0 0
  refine z_aload_n B dX12_tick_0 rfl 0 rfl ?_
  refine z_dup B dX12_tick_1 rfl ?_
  obtain ⟨v_1, v_2, v_3, n_1, v_4, v_5, v_6, v_7, v_8, v_9, v_10, v_11, v_12, n_2, v_13, n_3, n_4, v_14, v_15, h_1, b_12, b_1, b_2, b_3, b_4, b_5, b_6, b_7, b_8, b_9, b_10, b_11⟩ := im0 hI
  replace b_1 : 1 ≤ n_1 := b_1
  replace b_2 : n_1 ≤ 1024 := b_2
  replace b_3 : fl ≤ 12 := b_3
  replace b_4 : 0 ≤ 24 := b_4
  replace b_5 : le ≤ 700 := b_5
  replace b_6 : qu ≤ 12 := b_6
  replace b_7 : n_2 ≤ 8 := b_7
  replace b_8 : n_3 ≤ 24 := b_8
  replace b_9 : n_4 ≤ 24 := b_9
  replace b_10 : il ≤ 700 := b_10
  replace b_11 : nx ≤ 701 := b_11
  have h_2 : Φ x = some (o_ 14 [.int v_1, .ref (x + 1), .ref (x + 2), .int v_2, .int v_3, .int (nI n_1), .int v_4, .int v_5, .ref (x + 3), .ref (x + 4), .int v_6, .long v_7, .ref (x + 5), .int (nI fl), .int v_8, .long v_9, .long v_10, .long v_11, .long v_12, .ref (x + 6), .ref (x + 7), .int (nI 0), .ref (x + 8), .int (nI le), .ref (x + 9), .ref (x + 10), .int (nI qu), .ref (x + 11), .ref (x + 12), .ref (x + 13), .ref (x + 14), .ref (x + 15), .ref (x + 16), .int (nI n_2), .long v_13, .ref (x + 17), .ref (x + 18), .ref (x + 19), .ref (x + 20), .ref (x + 21), .ref (x + 22), .int (nI n_3), .ref (x + 23), .ref (x + 24), .int (nI n_4), .ref (x + 25), .int (nI il), .int (nI nx), .int ec, .int v_14, .int kn, .int v_15, .int nu, .long va]) := h_1
  refine z_get (ref := "FlowExporterModel") (C := RX12) (T := TX12) (N := 54) (ci := 14) (v := .int v_2) B (by decide +kernel) rfl 3 (by decide) (by decide +kernel) rfl h_2 rfl dX12_tick_2 ?_
  refine z_iconst (v := 1) B dX12_tick_5 rfl ?_
  refine z_iadd B dX12_tick_6 ?_
  refine z_fi (fun v_16 => ?_)
  refine z_put (ref := "FlowExporterModel") (C := RX12) (T := TX12) (N := 54) (ci := 14) (v := .int v_16) B (by decide +kernel) tyX12 tyX12_ok nmX12 rfl 3 (by decide) (by decide +kernel) rfl (Or.inl rfl) h_2 hx rfl rfl (Nat.le_of_ble_eq_true rfl) dX12_tick_7 (fun Φ1 hΦ1 => ?_)
  have h_3 : Φ1 x = some (o_ 14 [.int v_1, .ref (x + 1), .ref (x + 2), .int v_16, .int v_3, .int (nI n_1), .int v_4, .int v_5, .ref (x + 3), .ref (x + 4), .int v_6, .long v_7, .ref (x + 5), .int (nI fl), .int v_8, .long v_9, .long v_10, .long v_11, .long v_12, .ref (x + 6), .ref (x + 7), .int (nI 0), .ref (x + 8), .int (nI le), .ref (x + 9), .ref (x + 10), .int (nI qu), .ref (x + 11), .ref (x + 12), .ref (x + 13), .ref (x + 14), .ref (x + 15), .ref (x + 16), .int (nI n_2), .long v_13, .ref (x + 17), .ref (x + 18), .ref (x + 19), .ref (x + 20), .ref (x + 21), .ref (x + 22), .int (nI n_3), .ref (x + 23), .ref (x + 24), .int (nI n_4), .ref (x + 25), .int (nI il), .int (nI nx), .int ec, .int v_14, .int kn, .int v_15, .int nu, .long va]) := fset_at hΦ1
  have hI1 : Im G x (rd, NN, fl, 0, le, nx, il, qu, kn, ec, nu, va) Φ1 := Im.put0 hI hΦ1 ⟨v_1, v_16, v_3, n_1, v_4, v_5, v_6, v_7, v_8, v_9, v_10, v_11, v_12, n_2, v_13, n_3, n_4, v_14, v_15, rfl, b_12, (show 1 ≤ n_1 by omega), (show n_1 ≤ 1024 by omega), (show fl ≤ 12 by omega), (show 0 ≤ 24 by omega), (show le ≤ 700 by omega), (show qu ≤ 12 by omega), (show n_2 ≤ 8 by omega), (show n_3 ≤ 24 by omega), (show n_4 ≤ 24 by omega), (show il ≤ 700 by omega), (show nx ≤ 701 by omega)⟩
  refine z_iconst (v := 0) B dX12_tick_10 rfl ?_
  refine z_istore_n (lv' := [(1, .int 0), (0, .ref x)]) B dX12_tick_11 rfl (Nat.le_of_ble_eq_true rfl) rfl ?_
  refine z_iconst (v := 0) B dX12_tick_12 rfl ?_
  refine z_istore_n (lv' := [(2, .int 0), (1, .int 0), (0, .ref x)]) B dX12_tick_13 rfl (Nat.le_of_ble_eq_true rfl) rfl ?_
  refine z_lv [0, 1, 2] rfl ?_
  refine z_loop (α := Nat × Int32 × Nat × Nat) (fun (a9 : Nat × Int32 × Nat × Nat) Φi => Im G x (rd, NN, a9.2.2.1, a9.2.2.2, le, nx, il, qu, kn, ec, nu, va) Φi ∧ Fr x (fun j9 => j9 = 0 ∨ j9 = 5 ∨ j9 = 6 ∨ j9 = 7) Φ1 Φi ∧ (a9.1 ≤ 12) ∧ (a9.2.2.2 + a9.2.2.1 ≤ 12) ∧ True) (fun a9 => [(2, .int (nI (a9.1))), (1, .int a9.2.1), (0, .ref x)]) (fun a9 => a9.2.2.1 - a9.1) ?_ (0, 0, fl, 0) ⟨hI1, fun _ _ => rfl, (show 0 ≤ 12 by omega), (show 0 + fl ≤ 12 by omega), trivial⟩
  rintro ⟨i_1, i_2, i_3, i_4⟩ Φl1 ⟨hI2, hF1, b_13, b_14, -⟩ ih1
  replace hI2 : Im G x (rd, NN, i_3, i_4, le, nx, il, qu, kn, ec, nu, va) Φl1 := hI2
  replace b_13 : i_1 ≤ 12 := b_13
  replace b_14 : i_4 + i_3 ≤ 12 := b_14
  show Z p9 l e9 _ s9 m9 _ w9 t9 k9 _ G 3 14 [(2, .int (nI i_1)), (1, .int i_2), (0, .ref x)] [] Φl1 _ _ _
  refine z_iload_n B dX12_tick_14 rfl 0 rfl ?_
  refine z_aload_n B dX12_tick_15 rfl 2 rfl ?_
  obtain ⟨v_17, v_18, v_19, n_5, v_20, v_21, v_22, v_23, v_24, v_25, v_26, v_27, v_28, n_6, v_29, n_7, n_8, v_30, v_31, h_4, b_26, b_15, b_16, b_17, b_18, b_19, b_20, b_21, b_22, b_23, b_24, b_25⟩ := im0 hI2
  replace b_15 : 1 ≤ n_5 := b_15
  replace b_16 : n_5 ≤ 1024 := b_16
  replace b_17 : i_3 ≤ 12 := b_17
  replace b_18 : i_4 ≤ 24 := b_18
  replace b_19 : le ≤ 700 := b_19
  replace b_20 : qu ≤ 12 := b_20
  replace b_21 : n_6 ≤ 8 := b_21
  replace b_22 : n_7 ≤ 24 := b_22
  replace b_23 : n_8 ≤ 24 := b_23
  replace b_24 : il ≤ 700 := b_24
  replace b_25 : nx ≤ 701 := b_25
  have h_5 : Φl1 x = some (o_ 14 [.int v_17, .ref (x + 1), .ref (x + 2), .int v_18, .int v_19, .int (nI n_5), .int v_20, .int v_21, .ref (x + 3), .ref (x + 4), .int v_22, .long v_23, .ref (x + 5), .int (nI i_3), .int v_24, .long v_25, .long v_26, .long v_27, .long v_28, .ref (x + 6), .ref (x + 7), .int (nI i_4), .ref (x + 8), .int (nI le), .ref (x + 9), .ref (x + 10), .int (nI qu), .ref (x + 11), .ref (x + 12), .ref (x + 13), .ref (x + 14), .ref (x + 15), .ref (x + 16), .int (nI n_6), .long v_29, .ref (x + 17), .ref (x + 18), .ref (x + 19), .ref (x + 20), .ref (x + 21), .ref (x + 22), .int (nI n_7), .ref (x + 23), .ref (x + 24), .int (nI n_8), .ref (x + 25), .int (nI il), .int (nI nx), .int ec, .int v_30, .int kn, .int v_31, .int nu, .long va]) := h_4
  refine z_get (ref := "FlowExporterModel") (C := RX12) (T := TX12) (N := 54) (ci := 14) (v := .int (nI i_3)) B (by decide +kernel) rfl 13 (by decide) (by decide +kernel) rfl h_5 rfl dX12_tick_16 ?_
  refine z_icmp_ge (tgt := 47) B dX12_tick_19 rfl (fun c_1 => ?_) (fun c_1 => ?_)
  · have e_1 : i_3 ≤ i_1 := (nI_leI (a := i_3) (b := i_1) (by omega) (by omega)).mp c_1
    refine z_aload_n B dX12_tick_47 rfl 2 rfl ?_
    refine z_get (ref := "FlowExporterModel") (C := RX12) (T := TX12) (N := 54) (ci := 14) (v := .int v_18) B (by decide +kernel) rfl 3 (by decide) (by decide +kernel) rfl h_5 rfl dX12_tick_48 ?_
    refine z_bipush (v := 100) B dX12_tick_51 rfl ?_
    refine z_irem B dX12_tick_53 (by decide) ?_
    refine z_fi (fun v_32 => ?_)
    refine z_if_ne (tgt := 64) B dX12_tick_54 rfl (fun c_2 => ?_) (fun c_2 => ?_)
    · refine z_aload_n B dX12_tick_64 rfl 2 rfl ?_
      refine z_callV (As := []) (rest := []) B (r_sendPending G l Φl1 sz x rd i_3 i_4 le nx il qu kn ec nu va  hx hI2 ) (cwV 0 B.1.2.2.2.2 gX12_tick_X12_sendPending rfl rfl rfl (by decide +kernel) ⟨Nat.le_of_ble_eq_true rfl, Nat.le_of_ble_eq_true rfl⟩) h_5 rfl rfl rfl rfl (Nat.le_of_ble_eq_true rfl) dX12_tick_65 ⟨Nat.le_of_ble_eq_true rfl, Nat.le_of_ble_eq_true rfl⟩ (fun r_1 Φ2 sz1 st1 hp1 hs1 => ?_)
      obtain ⟨rfl, hq1, ⟨n_9, n_10, hI3⟩, hF2⟩ := hp1
      subst sz1
      replace hs1 : st1 = [] := hs1
      subst st1
      replace hI3 : Im G x (rd, NN, i_3, 0, n_9, nx, il, n_10, kn, ec, nu, va) Φ2 := hI3
      refine z_iload_n B dX12_tick_68 rfl 1 rfl ?_
      exact z_ret_i B dX12_tick_69 ⟨⟨_, rfl⟩, rfl, ⟨i_3, n_9, n_10, hI3⟩, (fun b9 h9 => ((hF2 b9 (fun j9 h8 h7 => h9 j9 h8 (show j9 = 0 ∨ j9 = 3 ∨ j9 = 4 ∨ j9 = 5 ∨ j9 = 6 ∨ j9 = 7 ∨ j9 = 8 ∨ j9 = 9 ∨ j9 = 10 by have h6 : j9 = 0 ∨ j9 = 3 ∨ j9 = 4 ∨ j9 = 8 ∨ j9 = 9 ∨ j9 = 10 := h7; omega))).trans ((hF1 b9 (fun j9 h8 h7 => h9 j9 h8 (show j9 = 0 ∨ j9 = 3 ∨ j9 = 4 ∨ j9 = 5 ∨ j9 = 6 ∨ j9 = 7 ∨ j9 = 8 ∨ j9 = 9 ∨ j9 = 10 by have h6 : j9 = 0 ∨ j9 = 5 ∨ j9 = 6 ∨ j9 = 7 := h7; omega))).trans ((fset_fr hΦ1 (fun h8 => h9 (0) h8 (show 0 = 0 ∨ 0 = 3 ∨ 0 = 4 ∨ 0 = 5 ∨ 0 = 6 ∨ 0 = 7 ∨ 0 = 8 ∨ 0 = 9 ∨ 0 = 10 by omega))).trans rfl))))⟩
    · refine z_iload_n B dX12_tick_57 rfl 1 rfl ?_
      refine z_aload_n B dX12_tick_58 rfl 2 rfl ?_
      refine z_callV (As := []) (rest := [.int i_2]) B (r_adapt G l Φl1 sz x rd i_3 i_4 le nx il qu kn ec nu va  hx hI2 (show i_4 + i_3 ≤ 24 by omega)) (cwV 0 B.1.2.2.2.2 gX12_tick_X12_adapt rfl rfl rfl (by decide +kernel) ⟨Nat.le_of_ble_eq_true rfl, Nat.le_of_ble_eq_true rfl⟩) h_5 rfl rfl rfl rfl (Nat.le_of_ble_eq_true rfl) dX12_tick_59 ⟨Nat.le_of_ble_eq_true rfl, Nat.le_of_ble_eq_true rfl⟩ (fun r_2 Φ3 sz2 st2 hp2 hs2 => ?_)
      obtain ⟨⟨v_33, rfl⟩, hq2, ⟨n_11, n_12, b_27, b_28, hI4⟩, hF3⟩ := hp2
      subst sz2
      replace hs2 : st2 = [.int v_33, .int i_2] := hs2
      subst st2
      replace hI4 : Im G x (rd, NN, n_11, n_12, le, nx, il, qu, kn, ec, nu, va) Φ3 := hI4
      replace b_27 : n_11 ≤ i_3 := b_27
      replace b_28 : n_12 ≤ i_4 + i_3 := b_28
      refine z_iadd B dX12_tick_62 ?_
      refine z_fi (fun v_34 => ?_)
      refine z_istore_n (lv' := [(1, .int v_34), (2, .int (nI i_1)), (0, .ref x)]) B dX12_tick_63 rfl (Nat.le_of_ble_eq_true rfl) rfl ?_
      refine z_aload_n B dX12_tick_64 rfl 2 rfl ?_
      obtain ⟨v_35, v_36, v_37, n_13, v_38, v_39, v_40, v_41, v_42, v_43, v_44, v_45, v_46, n_14, v_47, n_15, n_16, v_48, v_49, h_6, b_40, b_29, b_30, b_31, b_32, b_33, b_34, b_35, b_36, b_37, b_38, b_39⟩ := im0 hI4
      replace b_29 : 1 ≤ n_13 := b_29
      replace b_30 : n_13 ≤ 1024 := b_30
      replace b_31 : n_11 ≤ 12 := b_31
      replace b_32 : n_12 ≤ 24 := b_32
      replace b_33 : le ≤ 700 := b_33
      replace b_34 : qu ≤ 12 := b_34
      replace b_35 : n_14 ≤ 8 := b_35
      replace b_36 : n_15 ≤ 24 := b_36
      replace b_37 : n_16 ≤ 24 := b_37
      replace b_38 : il ≤ 700 := b_38
      replace b_39 : nx ≤ 701 := b_39
      have h_7 : Φ3 x = some (o_ 14 [.int v_35, .ref (x + 1), .ref (x + 2), .int v_36, .int v_37, .int (nI n_13), .int v_38, .int v_39, .ref (x + 3), .ref (x + 4), .int v_40, .long v_41, .ref (x + 5), .int (nI n_11), .int v_42, .long v_43, .long v_44, .long v_45, .long v_46, .ref (x + 6), .ref (x + 7), .int (nI n_12), .ref (x + 8), .int (nI le), .ref (x + 9), .ref (x + 10), .int (nI qu), .ref (x + 11), .ref (x + 12), .ref (x + 13), .ref (x + 14), .ref (x + 15), .ref (x + 16), .int (nI n_14), .long v_47, .ref (x + 17), .ref (x + 18), .ref (x + 19), .ref (x + 20), .ref (x + 21), .ref (x + 22), .int (nI n_15), .ref (x + 23), .ref (x + 24), .int (nI n_16), .ref (x + 25), .int (nI il), .int (nI nx), .int ec, .int v_48, .int kn, .int v_49, .int nu, .long va]) := h_6
      refine z_callV (As := []) (rest := []) B (r_sendPending G l Φ3 sz x rd n_11 n_12 le nx il qu kn ec nu va  hx hI4 ) (cwV 0 B.1.2.2.2.2 gX12_tick_X12_sendPending rfl rfl rfl (by decide +kernel) ⟨Nat.le_of_ble_eq_true rfl, Nat.le_of_ble_eq_true rfl⟩) h_7 rfl rfl rfl rfl (Nat.le_of_ble_eq_true rfl) dX12_tick_65 ⟨Nat.le_of_ble_eq_true rfl, Nat.le_of_ble_eq_true rfl⟩ (fun r_3 Φ4 sz3 st3 hp3 hs3 => ?_)
      obtain ⟨rfl, hq3, ⟨n_17, n_18, hI5⟩, hF4⟩ := hp3
      subst sz3
      replace hs3 : st3 = [] := hs3
      subst st3
      replace hI5 : Im G x (rd, NN, n_11, 0, n_17, nx, il, n_18, kn, ec, nu, va) Φ4 := hI5
      refine z_iload_n B dX12_tick_68 rfl 0 rfl ?_
      exact z_ret_i B dX12_tick_69 ⟨⟨_, rfl⟩, rfl, ⟨n_11, n_17, n_18, hI5⟩, (fun b9 h9 => ((hF4 b9 (fun j9 h8 h7 => h9 j9 h8 (show j9 = 0 ∨ j9 = 3 ∨ j9 = 4 ∨ j9 = 5 ∨ j9 = 6 ∨ j9 = 7 ∨ j9 = 8 ∨ j9 = 9 ∨ j9 = 10 by have h6 : j9 = 0 ∨ j9 = 3 ∨ j9 = 4 ∨ j9 = 8 ∨ j9 = 9 ∨ j9 = 10 := h7; omega))).trans ((hF3 b9 (fun j9 h8 h7 => h9 j9 h8 (show j9 = 0 ∨ j9 = 3 ∨ j9 = 4 ∨ j9 = 5 ∨ j9 = 6 ∨ j9 = 7 ∨ j9 = 8 ∨ j9 = 9 ∨ j9 = 10 by have h6 : j9 = 0 ∨ j9 = 5 ∨ j9 = 6 ∨ j9 = 7 := h7; omega))).trans ((hF1 b9 (fun j9 h8 h7 => h9 j9 h8 (show j9 = 0 ∨ j9 = 3 ∨ j9 = 4 ∨ j9 = 5 ∨ j9 = 6 ∨ j9 = 7 ∨ j9 = 8 ∨ j9 = 9 ∨ j9 = 10 by have h6 : j9 = 0 ∨ j9 = 5 ∨ j9 = 6 ∨ j9 = 7 := h7; omega))).trans ((fset_fr hΦ1 (fun h8 => h9 (0) h8 (show 0 = 0 ∨ 0 = 3 ∨ 0 = 4 ∨ 0 = 5 ∨ 0 = 6 ∨ 0 = 7 ∨ 0 = 8 ∨ 0 = 9 ∨ 0 = 10 by omega))).trans rfl)))))⟩
  · have e_2 : ¬ (i_3 ≤ i_1) := fun h9 => c_1 ((nI_leI (a := i_3) (b := i_1) (by omega) (by omega)).mpr h9)
    refine z_aload_n B dX12_tick_22 rfl 2 rfl ?_
    refine z_iload_n B dX12_tick_23 rfl 0 rfl ?_
    refine z_callV (As := [.int (nI i_1)]) (rest := []) B (r_isOver G l Φl1 sz x rd i_3 i_4 le nx il qu kn ec nu va i_1 hx hI2 (show i_1 < 12 by omega)) (cwV 1 B.1.2.2.2.2 gX12_tick_X12_isOver rfl rfl rfl (by decide +kernel) ⟨Nat.le_of_ble_eq_true rfl, Nat.le_of_ble_eq_true rfl⟩) h_5 rfl rfl rfl rfl (Nat.le_of_ble_eq_true rfl) dX12_tick_24 ⟨Nat.le_of_ble_eq_true rfl, Nat.le_of_ble_eq_true rfl⟩ (fun r_4 Φ5 sz4 st4 hp4 hs4 => ?_)
    obtain ⟨⟨v_50, rfl, b_41⟩, hq4, hI6, hF5⟩ := hp4
    subst sz4
    replace hs4 : st4 = [.int v_50] := hs4
    subst st4
    replace hI6 : Im G x (rd, NN, i_3, i_4, le, nx, il, qu, kn, ec, nu, va) Φ5 := hI6
    refine z_if_eq (tgt := 41) B dX12_tick_27 rfl (fun c_3 => ?_) (fun c_3 => ?_)
    · refine z_iinc (k := 0) (v := nI (i_1 + 1)) (lv' := [(2, .int (nI (i_1 + 1))), (1, .int i_2), (0, .ref x)]) B dX12_tick_41 rfl (nI_add i_1 1) (Nat.le_of_ble_eq_true rfl) rfl ?_
      refine z_goto (tgt := 14) B dX12_tick_44 rfl ?_
      refine z_lv [0, 1, 2] rfl ?_
      exact ih1 (i_1 + 1, i_2, i_3, i_4) Φ5 (show i_3 - (i_1 + 1) < i_3 - i_1 by omega) ⟨hI6, (fun b9 h9 => ((hF5 b9 (fun j9 h8 h7 => (show False from h7).elim)).trans ((hF1 b9 (fun j9 h8 h7 => h9 j9 h8 (show j9 = 0 ∨ j9 = 5 ∨ j9 = 6 ∨ j9 = 7 by have h6 : j9 = 0 ∨ j9 = 5 ∨ j9 = 6 ∨ j9 = 7 := h7; omega))).trans rfl))), (show (i_1 + 1) ≤ 12 by omega), (show i_4 + i_3 ≤ 12 by omega), trivial⟩
    · refine z_aload_n B dX12_tick_30 rfl 2 rfl ?_
      refine z_iload_n B dX12_tick_31 rfl 0 rfl ?_
      have h_8 : Φ5 x = some (o_ 14 [.int v_17, .ref (x + 1), .ref (x + 2), .int v_18, .int v_19, .int (nI n_5), .int v_20, .int v_21, .ref (x + 3), .ref (x + 4), .int v_22, .long v_23, .ref (x + 5), .int (nI i_3), .int v_24, .long v_25, .long v_26, .long v_27, .long v_28, .ref (x + 6), .ref (x + 7), .int (nI i_4), .ref (x + 8), .int (nI le), .ref (x + 9), .ref (x + 10), .int (nI qu), .ref (x + 11), .ref (x + 12), .ref (x + 13), .ref (x + 14), .ref (x + 15), .ref (x + 16), .int (nI n_6), .long v_29, .ref (x + 17), .ref (x + 18), .ref (x + 19), .ref (x + 20), .ref (x + 21), .ref (x + 22), .int (nI n_7), .ref (x + 23), .ref (x + 24), .int (nI n_8), .ref (x + 25), .int (nI il), .int (nI nx), .int ec, .int v_30, .int kn, .int v_31, .int nu, .long va]) := ((hF5 x (fun j9 h8 h7 => (show False from h7).elim)).trans h_5)
      refine z_callV (As := [.int (nI i_1)]) (rest := []) B (r_export G l Φ5 sz x rd i_3 i_4 le nx il qu kn ec nu va i_1 hx hI6 (show i_1 < i_3 by omega) (show i_4 < 24 by omega)) (cwV 1 B.1.2.2.2.2 gX12_tick_X12_export rfl rfl rfl (by decide +kernel) ⟨Nat.le_of_ble_eq_true rfl, Nat.le_of_ble_eq_true rfl⟩) h_8 rfl rfl rfl rfl (Nat.le_of_ble_eq_true rfl) dX12_tick_32 ⟨Nat.le_of_ble_eq_true rfl, Nat.le_of_ble_eq_true rfl⟩ (fun r_5 Φ6 sz5 st5 hp5 hs5 => ?_)
      obtain ⟨rfl, hq5, ⟨n_19, n_20, b_42, b_43, hI7⟩, hF6⟩ := hp5
      subst sz5
      replace hs5 : st5 = [] := hs5
      subst st5
      replace hI7 : Im G x (rd, NN, n_19, n_20, le, nx, il, qu, kn, ec, nu, va) Φ6 := hI7
      replace b_42 : n_19 + 1 = i_3 := b_42
      replace b_43 : n_20 ≤ i_4 + 1 := b_43
      refine z_iinc (k := 1) (v := i_2 + 1) (lv' := [(1, .int (i_2 + 1)), (2, .int (nI i_1)), (0, .ref x)]) B dX12_tick_35 rfl rfl (Nat.le_of_ble_eq_true rfl) rfl ?_
      refine z_goto (tgt := 14) B dX12_tick_38 rfl ?_
      refine z_lv [1, 0, 2] rfl ?_
      exact ih1 (i_1, i_2 + 1, n_19, n_20) Φ6 (show n_19 - i_1 < i_3 - i_1 by omega) ⟨hI7, (fun b9 h9 => ((hF6 b9 (fun j9 h8 h7 => h9 j9 h8 (show j9 = 0 ∨ j9 = 5 ∨ j9 = 6 ∨ j9 = 7 by have h6 : j9 = 0 ∨ j9 = 5 ∨ j9 = 6 ∨ j9 = 7 := h7; omega))).trans ((hF5 b9 (fun j9 h8 h7 => (show False from h7).elim)).trans ((hF1 b9 (fun j9 h8 h7 => h9 j9 h8 (show j9 = 0 ∨ j9 = 5 ∨ j9 = 6 ∨ j9 = 7 by have h6 : j9 = 0 ∨ j9 = 5 ∨ j9 = 6 ∨ j9 = 7 := h7; omega))).trans rfl)))), (show i_1 ≤ 12 by omega), (show n_20 + n_19 ≤ 12 by omega), trivial⟩

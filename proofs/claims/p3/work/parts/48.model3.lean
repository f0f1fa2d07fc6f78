set_option maxHeartbeats 4000000 in
set_option maxRecDepth 100000 in
theorem r_isDue (G : EnvG) (l : Launch) (Φ : Hm) (sz x : Nat) (rd : (Nat → Int32) → Prop) (fl : Nat) (pe : Nat) (le : Nat) (nx : Nat) (il : Nat) (qu : Nat) (kn : Int32) (ec : Int32) (nu : Int32) (va : Int64) (a : Int32) (hx : G.2.2.2 ≤ x) (hI : Im G x (rd, NN, fl, pe, le, nx, il, qu, kn, ec, nu, va) Φ)  : Ct G l yX12_isDue wsX12_isDue ({ frames := 4, cells := 0, slots := 0, locals := 87 }) 0 0 [.ref x, .int a] Φ sz (fun v Φ1 sz1 => (∃ r9 : Int32, v = some (.int r9) ∧ (r9 = 0 ∨ r9 = 1)) ∧ sz1 = sz ∧ (Im G x (rd, NN, fl, pe, le, nx, il, qu, kn, ec, nu, va) Φ1) ∧ Fr x (fun j9 => j9 = 0) Φ Φ1) := by
  refine Ct.of (cc := cX12_isDue) (maxL := 2) (ret := (some .boolean)) (by decide) rfl (Nat.le_of_ble_eq_true rfl) ?_
  intro p9 e9 s9 m9 w9 t9 k9 B
  show Z p9 l e9 _ s9 m9 _ w9 t9 k9 _ G 2 0 [(0, .ref x), (1, .int a)] [] Φ sz 0 0
  refine z_aload_n B dX12_isDue_0 rfl 0 rfl ?_
  refine z_iconst (v := 0) B dX12_isDue_1 rfl ?_
  obtain ⟨v_1, v_2, v_3, n_1, v_4, v_5, v_6, v_7, v_8, v_9, v_10, v_11, v_12, n_2, v_13, n_3, n_4, v_14, v_15, h_1, b_12, b_1, b_2, b_3, b_4, b_5, b_6, b_7, b_8, b_9, b_10, b_11⟩ := im0 hI
  replace b_1 : 1 ≤ n_1 := b_1
  replace b_2 : n_1 ≤ 1024 := b_2
  replace b_3 : fl ≤ 12 := b_3
  replace b_4 : pe ≤ 24 := b_4
  replace b_5 : le ≤ 700 := b_5
  replace b_6 : qu ≤ 12 := b_6
  replace b_7 : n_2 ≤ 8 := b_7
  replace b_8 : n_3 ≤ 24 := b_8
  replace b_9 : n_4 ≤ 24 := b_9
  replace b_10 : il ≤ 700 := b_10
  replace b_11 : nx ≤ 701 := b_11
  have h_2 : Φ x = some (o_ 14 [.int v_1, .ref (x + 1), .ref (x + 2), .int v_2, .int v_3, .int (nI n_1), .int v_4, .int v_5, .ref (x + 3), .ref (x + 4), .int v_6, .long v_7, .ref (x + 5), .int (nI fl), .int v_8, .long v_9, .long v_10, .long v_11, .long v_12, .ref (x + 6), .ref (x + 7), .int (nI pe), .ref (x + 8), .int (nI le), .ref (x + 9), .ref (x + 10), .int (nI qu), .ref (x + 11), .ref (x + 12), .ref (x + 13), .ref (x + 14), .ref (x + 15), .ref (x + 16), .int (nI n_2), .long v_13, .ref (x + 17), .ref (x + 18), .ref (x + 19), .ref (x + 20), .ref (x + 21), .ref (x + 22), .int (nI n_3), .ref (x + 23), .ref (x + 24), .int (nI n_4), .ref (x + 25), .int (nI il), .int (nI nx), .int ec, .int v_14, .int kn, .int v_15, .int nu, .long va]) := h_1
  refine z_put (ref := "FlowExporterModel") (C := RX12) (T := TX12) (N := 54) (ci := 14) (v := .int 0) B (by decide +kernel) tyX12 tyX12_ok nmX12 rfl 0 (by decide) (by decide +kernel) rfl (Or.inl rfl) h_2 hx rfl rfl (Nat.le_of_ble_eq_true rfl) dX12_isDue_2 (fun Φ1 hΦ1 => ?_)
  have h_3 : Φ1 x = some (o_ 14 [.int 0, .ref (x + 1), .ref (x + 2), .int v_2, .int v_3, .int (nI n_1), .int v_4, .int v_5, .ref (x + 3), .ref (x + 4), .int v_6, .long v_7, .ref (x + 5), .int (nI fl), .int v_8, .long v_9, .long v_10, .long v_11, .long v_12, .ref (x + 6), .ref (x + 7), .int (nI pe), .ref (x + 8), .int (nI le), .ref (x + 9), .ref (x + 10), .int (nI qu), .ref (x + 11), .ref (x + 12), .ref (x + 13), .ref (x + 14), .ref (x + 15), .ref (x + 16), .int (nI n_2), .long v_13, .ref (x + 17), .ref (x + 18), .ref (x + 19), .ref (x + 20), .ref (x + 21), .ref (x + 22), .int (nI n_3), .ref (x + 23), .ref (x + 24), .int (nI n_4), .ref (x + 25), .int (nI il), .int (nI nx), .int ec, .int v_14, .int kn, .int v_15, .int nu, .long va]) := fset_at hΦ1
  have hI1 : Im G x (rd, NN, fl, pe, le, nx, il, qu, kn, ec, nu, va) Φ1 := Im.put0 hI hΦ1 ⟨0, v_2, v_3, n_1, v_4, v_5, v_6, v_7, v_8, v_9, v_10, v_11, v_12, n_2, v_13, n_3, n_4, v_14, v_15, rfl, b_12, (show 1 ≤ n_1 by omega), (show n_1 ≤ 1024 by omega), (show fl ≤ 12 by omega), (show pe ≤ 24 by omega), (show le ≤ 700 by omega), (show qu ≤ 12 by omega), (show n_2 ≤ 8 by omega), (show n_3 ≤ 24 by omega), (show n_4 ≤ 24 by omega), (show il ≤ 700 by omega), (show nx ≤ 701 by omega)⟩
  refine z_aload_n B dX12_isDue_5 rfl 0 rfl ?_
  refine z_aload_n B dX12_isDue_6 rfl 0 rfl ?_
  refine z_iload_n B dX12_isDue_7 rfl 1 rfl ?_
  refine z_callV (As := [.int a]) (rest := [.ref x]) B (r_isTemplate G l Φ1 sz x rd fl pe le nx il qu kn ec nu va a hx hI1 ) (cwV 1 B.1.2.2.2.2 gX12_isDue_X12_isTemplate rfl rfl rfl (by decide +kernel) ⟨Nat.le_of_ble_eq_true rfl, Nat.le_of_ble_eq_true rfl⟩) h_3 rfl rfl rfl rfl (Nat.le_of_ble_eq_true rfl) dX12_isDue_8 ⟨Nat.le_of_ble_eq_true rfl, Nat.le_of_ble_eq_true rfl⟩ (fun r_1 Φ2 sz1 st1 hp1 hs1 => ?_)
  obtain ⟨ha1, hq1, hI2, hF1⟩ := hp1
  subst sz1
  replace hI2 : Im G x (rd, NN, fl, pe, le, nx, il, qu, kn, ec, nu, va) Φ2 := hI2
  rcases ha1 with rfl | ⟨rfl, n_5, b_13, rfl⟩
  · replace hs1 : st1 = [.int 0, .ref x] := hs1
    subst st1
    refine z_if_ne (tgt := 18) B dX12_isDue_11 rfl (fun h9 => absurd (by decide) h9) (fun c_1 => ?_)
    refine z_iconst (v := 1) B dX12_isDue_14 rfl ?_
    refine z_goto (tgt := 19) B dX12_isDue_15 rfl ?_
    refine z_iconst (v := 1) B dX12_isDue_19 rfl ?_
    have h_4 : Φ2 x = some (o_ 14 [.int 0, .ref (x + 1), .ref (x + 2), .int v_2, .int v_3, .int (nI n_1), .int v_4, .int v_5, .ref (x + 3), .ref (x + 4), .int v_6, .long v_7, .ref (x + 5), .int (nI fl), .int v_8, .long v_9, .long v_10, .long v_11, .long v_12, .ref (x + 6), .ref (x + 7), .int (nI pe), .ref (x + 8), .int (nI le), .ref (x + 9), .ref (x + 10), .int (nI qu), .ref (x + 11), .ref (x + 12), .ref (x + 13), .ref (x + 14), .ref (x + 15), .ref (x + 16), .int (nI n_2), .long v_13, .ref (x + 17), .ref (x + 18), .ref (x + 19), .ref (x + 20), .ref (x + 21), .ref (x + 22), .int (nI n_3), .ref (x + 23), .ref (x + 24), .int (nI n_4), .ref (x + 25), .int (nI il), .int (nI nx), .int ec, .int v_14, .int kn, .int v_15, .int nu, .long va]) := ((hF1 x (fun j9 h8 h7 => (show False from h7).elim)).trans h_3)
    refine z_callV (As := [.int 1, .int 1]) (rest := []) B (r_throwsIf G l Φ2 sz x rd fl pe le nx il qu kn ec nu va 1 1 hx hI2 (by decide)) (cwV 2 B.1.2.2.2.2 gX12_isDue_X12_throwsIf rfl rfl rfl (by decide +kernel) ⟨Nat.le_of_ble_eq_true rfl, Nat.le_of_ble_eq_true rfl⟩) h_4 rfl rfl rfl rfl (Nat.le_of_ble_eq_true rfl) dX12_isDue_20 ⟨Nat.le_of_ble_eq_true rfl, Nat.le_of_ble_eq_true rfl⟩ (fun r_2 Φ3 sz2 st2 hp2 hs2 => ?_)
    obtain ⟨rfl, hq2, hI3, hF2⟩ := hp2
    subst sz2
    replace hs2 : st2 = [.int 1] := hs2
    subst st2
    replace hI3 : Im G x (rd, NN, fl, pe, le, nx, il, qu, kn, ec, nu, va) Φ3 := hI3
    refine z_if_ne (tgt := 38) B dX12_isDue_23 rfl (fun c_2 => ?_) (fun h9 => absurd h9 (by decide))
    refine z_iconst (v := 0) B dX12_isDue_38 rfl ?_
    exact z_ret_z B dX12_isDue_39 (by decide) ⟨⟨_, rfl, by decide⟩, rfl, hI3, (fun b9 h9 => ((hF2 b9 (fun j9 h8 h7 => h9 j9 h8 (show j9 = 0 by have h6 : j9 = 0 := h7; omega))).trans ((hF1 b9 (fun j9 h8 h7 => (show False from h7).elim)).trans ((fset_fr hΦ1 (fun h8 => h9 (0) h8 (show 0 = 0 by omega))).trans rfl))))⟩
  · replace hs1 : st1 = [.int 1, .ref x] := hs1
    subst st1
    replace b_13 : n_5 < 4 := b_13
    refine z_if_ne (tgt := 18) B dX12_isDue_11 rfl (fun c_3 => ?_) (fun h9 => absurd h9 (by decide))
    refine z_iconst (v := 0) B dX12_isDue_18 rfl ?_
    refine z_iconst (v := 1) B dX12_isDue_19 rfl ?_
    have h_5 : Φ2 x = some (o_ 14 [.int 0, .ref (x + 1), .ref (x + 2), .int v_2, .int v_3, .int (nI n_1), .int v_4, .int v_5, .ref (x + 3), .ref (x + 4), .int v_6, .long v_7, .ref (x + 5), .int (nI fl), .int v_8, .long v_9, .long v_10, .long v_11, .long v_12, .ref (x + 6), .ref (x + 7), .int (nI pe), .ref (x + 8), .int (nI le), .ref (x + 9), .ref (x + 10), .int (nI qu), .ref (x + 11), .ref (x + 12), .ref (x + 13), .ref (x + 14), .ref (x + 15), .ref (x + 16), .int (nI n_2), .long v_13, .ref (x + 17), .ref (x + 18), .ref (x + 19), .ref (x + 20), .ref (x + 21), .ref (x + 22), .int (nI n_3), .ref (x + 23), .ref (x + 24), .int (nI n_4), .ref (x + 25), .int (nI il), .int (nI nx), .int ec, .int v_14, .int kn, .int v_15, .int nu, .long va]) := ((hF1 x (fun j9 h8 h7 => (show False from h7).elim)).trans h_3)
    refine z_callV (As := [.int 0, .int 1]) (rest := []) B (r_throwsIf G l Φ2 sz x rd fl pe le nx il qu kn ec nu va 0 1 hx hI2 (by decide)) (cwV 2 B.1.2.2.2.2 gX12_isDue_X12_throwsIf rfl rfl rfl (by decide +kernel) ⟨Nat.le_of_ble_eq_true rfl, Nat.le_of_ble_eq_true rfl⟩) h_5 rfl rfl rfl rfl (Nat.le_of_ble_eq_true rfl) dX12_isDue_20 ⟨Nat.le_of_ble_eq_true rfl, Nat.le_of_ble_eq_true rfl⟩ (fun r_3 Φ4 sz3 st3 hp3 hs3 => ?_)
    obtain ⟨rfl, hq3, hI4, hF3⟩ := hp3
    subst sz3
    replace hs3 : st3 = [.int 0] := hs3
    subst st3
    replace hI4 : Im G x (rd, NN, fl, pe, le, nx, il, qu, kn, ec, nu, va) Φ4 := hI4
    refine z_if_ne (tgt := 38) B dX12_isDue_23 rfl (fun h9 => absurd (by decide) h9) (fun c_4 => ?_)
    refine z_aload_n B dX12_isDue_26 rfl 0 rfl ?_
    refine z_iload_n B dX12_isDue_27 rfl 1 rfl ?_
    obtain ⟨v_16, v_17, v_18, n_6, v_19, v_20, v_21, v_22, v_23, v_24, v_25, v_26, v_27, n_7, v_28, n_8, n_9, v_29, v_30, h_6, b_25, b_14, b_15, b_16, b_17, b_18, b_19, b_20, b_21, b_22, b_23, b_24⟩ := im0 hI4
    replace b_14 : 1 ≤ n_6 := b_14
    replace b_15 : n_6 ≤ 1024 := b_15
    replace b_16 : fl ≤ 12 := b_16
    replace b_17 : pe ≤ 24 := b_17
    replace b_18 : le ≤ 700 := b_18
    replace b_19 : qu ≤ 12 := b_19
    replace b_20 : n_7 ≤ 8 := b_20
    replace b_21 : n_8 ≤ 24 := b_21
    replace b_22 : n_9 ≤ 24 := b_22
    replace b_23 : il ≤ 700 := b_23
    replace b_24 : nx ≤ 701 := b_24
    have h_7 : Φ4 x = some (o_ 14 [.int v_16, .ref (x + 1), .ref (x + 2), .int v_17, .int v_18, .int (nI n_6), .int v_19, .int v_20, .ref (x + 3), .ref (x + 4), .int v_21, .long v_22, .ref (x + 5), .int (nI fl), .int v_23, .long v_24, .long v_25, .long v_26, .long v_27, .ref (x + 6), .ref (x + 7), .int (nI pe), .ref (x + 8), .int (nI le), .ref (x + 9), .ref (x + 10), .int (nI qu), .ref (x + 11), .ref (x + 12), .ref (x + 13), .ref (x + 14), .ref (x + 15), .ref (x + 16), .int (nI n_7), .long v_28, .ref (x + 17), .ref (x + 18), .ref (x + 19), .ref (x + 20), .ref (x + 21), .ref (x + 22), .int (nI n_8), .ref (x + 23), .ref (x + 24), .int (nI n_9), .ref (x + 25), .int (nI il), .int (nI nx), .int ec, .int v_29, .int kn, .int v_30, .int nu, .long va]) := h_6
    refine z_callV (As := [.int (nI n_5)]) (rest := []) B (r_due G l Φ4 sz x rd fl pe le nx il qu kn ec nu va n_5 hx hI4 (show n_5 < 4 by omega)) (cwV 1 B.1.2.2.2.2 gX12_isDue_X12_due rfl rfl rfl (by decide +kernel) ⟨Nat.le_of_ble_eq_true rfl, Nat.le_of_ble_eq_true rfl⟩) h_7 rfl rfl rfl rfl (Nat.le_of_ble_eq_true rfl) dX12_isDue_28 ⟨Nat.le_of_ble_eq_true rfl, Nat.le_of_ble_eq_true rfl⟩ (fun r_4 Φ5 sz4 st4 hp4 hs4 => ?_)
    obtain ⟨⟨v_31, rfl, b_26⟩, hq4, hI5, hF4⟩ := hp4
    subst sz4
    replace hs4 : st4 = [.int v_31] := hs4
    subst st4
    replace hI5 : Im G x (rd, NN, fl, pe, le, nx, il, qu, kn, ec, nu, va) Φ5 := hI5
    refine z_if_eq (tgt := 38) B dX12_isDue_31 rfl (fun c_5 => ?_) (fun c_5 => ?_)
    · refine z_iconst (v := 0) B dX12_isDue_38 rfl ?_
      exact z_ret_z B dX12_isDue_39 (by decide) ⟨⟨_, rfl, by decide⟩, rfl, hI5, (fun b9 h9 => ((hF4 b9 (fun j9 h8 h7 => (show False from h7).elim)).trans ((hF3 b9 (fun j9 h8 h7 => h9 j9 h8 (show j9 = 0 by have h6 : j9 = 0 := h7; omega))).trans ((hF1 b9 (fun j9 h8 h7 => (show False from h7).elim)).trans ((fset_fr hΦ1 (fun h8 => h9 (0) h8 (show 0 = 0 by omega))).trans rfl)))))⟩
    · refine z_iconst (v := 1) B dX12_isDue_34 rfl ?_
      refine z_goto (tgt := 39) B dX12_isDue_35 rfl ?_
      exact z_ret_z B dX12_isDue_39 (by decide) ⟨⟨_, rfl, by decide⟩, rfl, hI5, (fun b9 h9 => ((hF4 b9 (fun j9 h8 h7 => (show False from h7).elim)).trans ((hF3 b9 (fun j9 h8 h7 => h9 j9 h8 (show j9 = 0 by have h6 : j9 = 0 := h7; omega))).trans ((hF1 b9 (fun j9 h8 h7 => (show False from h7).elim)).trans ((fset_fr hΦ1 (fun h8 => h9 (0) h8 (show 0 = 0 by omega))).trans rfl)))))⟩

set_option maxHeartbeats 4000000 in
set_option maxRecDepth 100000 in
theorem r_setSupport (G : EnvG) (l : Launch) (Φ : Hm) (sz x : Nat) (rd : (Nat → Int32) → Prop) (fl : Nat) (pe : Nat) (le : Nat) (nx : Nat) (il : Nat) (qu : Nat) (kn : Int32) (ec : Int32) (nu : Int32) (va : Int64) (a : Int32) (b : Int32) (hx : G.2.2.2 ≤ x) (hI : Im G x (rd, NN, fl, pe, le, nx, il, qu, kn, ec, nu, va) Φ) (hb : b = 0 ∨ b = 1) : Ct G l yX12_setSupport wsX12_setSupport ({ frames := 2, cells := 0, slots := 0, locals := 45 }) 0 0 [.ref x, .int a, .int b] Φ sz (fun v Φ1 sz1 => (∃ r9 : Int32, v = some (.int r9) ∧ (r9 = 0 ∨ r9 = 1)) ∧ sz1 = sz ∧ (Im G x (rd, NN, fl, pe, le, nx, il, qu, kn, ec, nu, va) Φ1) ∧ Fr x (fun j9 => j9 = 0 ∨ j9 = 2 ∨ j9 = 3) Φ Φ1) := by
  refine Ct.of (cc := cX12_setSupport) (maxL := 5) (ret := (some .boolean)) (by decide) rfl (Nat.le_of_ble_eq_true rfl) ?_
  intro p9 e9 s9 m9 w9 t9 k9 B
  show Z p9 l e9 _ s9 m9 _ w9 t9 k9 _ G 5 0 [(0, .ref x), (1, .int a), (2, .int b)] [] Φ sz 0 0
  refine z_aload_n B dX12_setSupport_0 rfl 0 rfl ?_
  refine z_iconst (v := 0) B dX12_setSupport_1 rfl ?_
  obtain ⟨v_1, v_2, v_3, n_1, v_4, v_5, v_6, v_7, v_8, v_9, v_10, v_11, v_12, n_2, v_13, n_3, n_4, v_14, v_15, h_1, b_12, b_1, b_2, b_3, b_4, b_5, b_6, b_7, b_8, b_9, b_10, b_11⟩ := im0 hI
  replace b_1 : 1 ≤ n_1 := b_1
  replace b_2 : n_1 ≤ 1024 := b_2
  replace b_3 : fl ≤ 12 := b_3
  replace b_4 : pe ≤ 24 := b_4
  replace b_5 : le ≤ 700 := b_5
  replace b_6 : qu ≤ 12 := b_6
  replace b_7 : n_2 ≤ 8 := b_7
  replace b_8 : n_3 ≤ 24 := b_8
  replace b_9 : n_4 ≤ 24 := b_9
  replace b_10 : il ≤ 700 := b_10
  replace b_11 : nx ≤ 701 := b_11
  have h_2 : Φ x = some (o_ 14 [.int v_1, .ref (x + 1), .ref (x + 2), .int v_2, .int v_3, .int (nI n_1), .int v_4, .int v_5, .ref (x + 3), .ref (x + 4), .int v_6, .long v_7, .ref (x + 5), .int (nI fl), .int v_8, .long v_9, .long v_10, .long v_11, .long v_12, .ref (x + 6), .ref (x + 7), .int (nI pe), .ref (x + 8), .int (nI le), .ref (x + 9), .ref (x + 10), .int (nI qu), .ref (x + 11), .ref (x + 12), .ref (x + 13), .ref (x + 14), .ref (x + 15), .ref (x + 16), .int (nI n_2), .long v_13, .ref (x + 17), .ref (x + 18), .ref (x + 19), .ref (x + 20), .ref (x + 21), .ref (x + 22), .int (nI n_3), .ref (x + 23), .ref (x + 24), .int (nI n_4), .ref (x + 25), .int (nI il), .int (nI nx), .int ec, .int v_14, .int kn, .int v_15, .int nu, .long va]) := h_1
  refine z_put (ref := "FlowExporterModel") (C := RX12) (T := TX12) (N := 54) (ci := 14) (v := .int 0) B (by decide +kernel) tyX12 tyX12_ok nmX12 rfl 0 (by decide) (by decide +kernel) rfl (Or.inl rfl) h_2 hx rfl rfl (Nat.le_of_ble_eq_true rfl) dX12_setSupport_2 (fun Φ1 hΦ1 => ?_)
  have h_3 : Φ1 x = some (o_ 14 [.int 0, .ref (x + 1), .ref (x + 2), .int v_2, .int v_3, .int (nI n_1), .int v_4, .int v_5, .ref (x + 3), .ref (x + 4), .int v_6, .long v_7, .ref (x + 5), .int (nI fl), .int v_8, .long v_9, .long v_10, .long v_11, .long v_12, .ref (x + 6), .ref (x + 7), .int (nI pe), .ref (x + 8), .int (nI le), .ref (x + 9), .ref (x + 10), .int (nI qu), .ref (x + 11), .ref (x + 12), .ref (x + 13), .ref (x + 14), .ref (x + 15), .ref (x + 16), .int (nI n_2), .long v_13, .ref (x + 17), .ref (x + 18), .ref (x + 19), .ref (x + 20), .ref (x + 21), .ref (x + 22), .int (nI n_3), .ref (x + 23), .ref (x + 24), .int (nI n_4), .ref (x + 25), .int (nI il), .int (nI nx), .int ec, .int v_14, .int kn, .int v_15, .int nu, .long va]) := fset_at hΦ1
  have hI1 : Im G x (rd, NN, fl, pe, le, nx, il, qu, kn, ec, nu, va) Φ1 := Im.put0 hI hΦ1 ⟨0, v_2, v_3, n_1, v_4, v_5, v_6, v_7, v_8, v_9, v_10, v_11, v_12, n_2, v_13, n_3, n_4, v_14, v_15, rfl, b_12, (show 1 ≤ n_1 by omega), (show n_1 ≤ 1024 by omega), (show fl ≤ 12 by omega), (show pe ≤ 24 by omega), (show le ≤ 700 by omega), (show qu ≤ 12 by omega), (show n_2 ≤ 8 by omega), (show n_3 ≤ 24 by omega), (show n_4 ≤ 24 by omega), (show il ≤ 700 by omega), (show nx ≤ 701 by omega)⟩
  refine z_aload_n B dX12_setSupport_5 rfl 0 rfl ?_
  refine z_iload_n B dX12_setSupport_6 rfl 1 rfl ?_
  refine z_i2l (v := a.toInt64) B dX12_setSupport_7 rfl ?_
  refine z_lconst (v := 0) B dX12_setSupport_8 rfl ?_
  refine z_ldc2 (v := 8) B (by decide +kernel) dX12_setSupport_9 ?_
  by_cases hR1 : inP a.toInt64 0 8
  · obtain ⟨n_5, e_1, e_2, e_3, rfl⟩ := in_get (L := 0) (H := 8) (by decide) (by decide) hR1
    refine z_callS (As := [.long ((nI n_5).toInt64), .long 0, .long 8]) (rest := [.ref x]) B (c_inR1 G l Φ1 sz ((nI n_5).toInt64) 0 8 hR1 (fun v8 Φ8 sz8 => v8 = some (.int 1) ∧ sz8 = sz ∧ Im G x (rd, NN, fl, pe, le, nx, il, qu, kn, ec, nu, va) Φ8 ∧ Fr x (fun j9 => False) Φ1 Φ8) ⟨rfl, rfl, hI1, fun _ _ => rfl⟩) (va_cwS 3 B.1.2.2.2.2 gX12_setSupport_X12_inRange rfl rfl rfl (by decide +kernel) ⟨Nat.le_of_ble_eq_true rfl, Nat.le_of_ble_eq_true rfl⟩) rfl rfl (Nat.le_of_ble_eq_true rfl) dX12_setSupport_12 ⟨Nat.le_of_ble_eq_true rfl, Nat.le_of_ble_eq_true rfl⟩ (fun r_1 Φ2 sz1 st1 hp1 hs1 => ?_)
    obtain ⟨rfl, hq1, hI2, hF1⟩ := hp1
    subst sz1
    replace hs1 : st1 = [.int 1, .ref x] := hs1
    subst st1
    refine z_if_ne (tgt := 22) B dX12_setSupport_15 rfl (fun c_1 => ?_) (fun h9 => absurd h9 (by decide))
    refine z_iconst (v := 0) B dX12_setSupport_22 rfl ?_
    refine z_iconst (v := 1) B dX12_setSupport_23 rfl ?_
    have h_4 : Φ2 x = some (o_ 14 [.int 0, .ref (x + 1), .ref (x + 2), .int v_2, .int v_3, .int (nI n_1), .int v_4, .int v_5, .ref (x + 3), .ref (x + 4), .int v_6, .long v_7, .ref (x + 5), .int (nI fl), .int v_8, .long v_9, .long v_10, .long v_11, .long v_12, .ref (x + 6), .ref (x + 7), .int (nI pe), .ref (x + 8), .int (nI le), .ref (x + 9), .ref (x + 10), .int (nI qu), .ref (x + 11), .ref (x + 12), .ref (x + 13), .ref (x + 14), .ref (x + 15), .ref (x + 16), .int (nI n_2), .long v_13, .ref (x + 17), .ref (x + 18), .ref (x + 19), .ref (x + 20), .ref (x + 21), .ref (x + 22), .int (nI n_3), .ref (x + 23), .ref (x + 24), .int (nI n_4), .ref (x + 25), .int (nI il), .int (nI nx), .int ec, .int v_14, .int kn, .int v_15, .int nu, .long va]) := ((hF1 x (fun j9 h8 h7 => (show False from h7).elim)).trans h_3)
    refine z_callV (As := [.int 0, .int 1]) (rest := []) B (r_throwsIf G l Φ2 sz x rd fl pe le nx il qu kn ec nu va 0 1 hx hI2 (by decide)) (cwV 2 B.1.2.2.2.2 gX12_setSupport_X12_throwsIf rfl rfl rfl (by decide +kernel) ⟨Nat.le_of_ble_eq_true rfl, Nat.le_of_ble_eq_true rfl⟩) h_4 rfl rfl rfl rfl (Nat.le_of_ble_eq_true rfl) dX12_setSupport_24 ⟨Nat.le_of_ble_eq_true rfl, Nat.le_of_ble_eq_true rfl⟩ (fun r_2 Φ3 sz2 st2 hp2 hs2 => ?_)
    obtain ⟨rfl, hq2, hI3, hF2⟩ := hp2
    subst sz2
    replace hs2 : st2 = [.int 0] := hs2
    subst st2
    replace hI3 : Im G x (rd, NN, fl, pe, le, nx, il, qu, kn, ec, nu, va) Φ3 := hI3
    refine z_if_eq (tgt := 32) B dX12_setSupport_27 rfl (fun c_2 => ?_) (fun h9 => absurd (by decide) h9)
    refine z_aload_n B dX12_setSupport_32 rfl 0 rfl ?_
    refine z_iload_n B dX12_setSupport_33 rfl 1 rfl ?_
    obtain ⟨v_16, v_17, v_18, n_6, v_19, v_20, v_21, v_22, v_23, v_24, v_25, v_26, v_27, n_7, v_28, n_8, n_9, v_29, v_30, h_5, b_24, b_13, b_14, b_15, b_16, b_17, b_18, b_19, b_20, b_21, b_22, b_23⟩ := im0 hI3
    replace b_13 : 1 ≤ n_6 := b_13
    replace b_14 : n_6 ≤ 1024 := b_14
    replace b_15 : fl ≤ 12 := b_15
    replace b_16 : pe ≤ 24 := b_16
    replace b_17 : le ≤ 700 := b_17
    replace b_18 : qu ≤ 12 := b_18
    replace b_19 : n_7 ≤ 8 := b_19
    replace b_20 : n_8 ≤ 24 := b_20
    replace b_21 : n_9 ≤ 24 := b_21
    replace b_22 : il ≤ 700 := b_22
    replace b_23 : nx ≤ 701 := b_23
    have h_6 : Φ3 x = some (o_ 14 [.int v_16, .ref (x + 1), .ref (x + 2), .int v_17, .int v_18, .int (nI n_6), .int v_19, .int v_20, .ref (x + 3), .ref (x + 4), .int v_21, .long v_22, .ref (x + 5), .int (nI fl), .int v_23, .long v_24, .long v_25, .long v_26, .long v_27, .ref (x + 6), .ref (x + 7), .int (nI pe), .ref (x + 8), .int (nI le), .ref (x + 9), .ref (x + 10), .int (nI qu), .ref (x + 11), .ref (x + 12), .ref (x + 13), .ref (x + 14), .ref (x + 15), .ref (x + 16), .int (nI n_7), .long v_28, .ref (x + 17), .ref (x + 18), .ref (x + 19), .ref (x + 20), .ref (x + 21), .ref (x + 22), .int (nI n_8), .ref (x + 23), .ref (x + 24), .int (nI n_9), .ref (x + 25), .int (nI il), .int (nI nx), .int ec, .int v_29, .int kn, .int v_30, .int nu, .long va]) := h_5
    refine z_callV (As := [.int (nI n_5)]) (rest := []) B (r_isSupported G l Φ3 sz x rd fl pe le nx il qu kn ec nu va (nI n_5) hx hI3 ) (cwV 1 B.1.2.2.2.2 gX12_setSupport_X12_isSupported rfl rfl rfl (by decide +kernel) ⟨Nat.le_of_ble_eq_true rfl, Nat.le_of_ble_eq_true rfl⟩) h_6 rfl rfl rfl rfl (Nat.le_of_ble_eq_true rfl) dX12_setSupport_34 ⟨Nat.le_of_ble_eq_true rfl, Nat.le_of_ble_eq_true rfl⟩ (fun r_3 Φ4 sz3 st3 hp3 hs3 => ?_)
    obtain ⟨⟨v_31, rfl, b_25⟩, hq3, hI4, hF3⟩ := hp3
    subst sz3
    replace hs3 : st3 = [.int v_31] := hs3
    subst st3
    replace hI4 : Im G x (rd, NN, fl, pe, le, nx, il, qu, kn, ec, nu, va) Φ4 := hI4
    refine z_istore_n (lv' := [(3, .int v_31), (0, .ref x), (1, .int (nI n_5)), (2, .int b)]) B dX12_setSupport_37 rfl (Nat.le_of_ble_eq_true rfl) rfl ?_
    refine z_iload_n B dX12_setSupport_38 rfl 0 rfl ?_
    refine z_iload_n B dX12_setSupport_39 rfl 3 rfl ?_
    refine z_icmp_ne (tgt := 45) B dX12_setSupport_40 rfl (fun c_3 => ?_) (fun c_3 => ?_)
    · refine z_aload_n B dX12_setSupport_45 rfl 1 rfl ?_
      have h_7 : Φ4 x = some (o_ 14 [.int v_16, .ref (x + 1), .ref (x + 2), .int v_17, .int v_18, .int (nI n_6), .int v_19, .int v_20, .ref (x + 3), .ref (x + 4), .int v_21, .long v_22, .ref (x + 5), .int (nI fl), .int v_23, .long v_24, .long v_25, .long v_26, .long v_27, .ref (x + 6), .ref (x + 7), .int (nI pe), .ref (x + 8), .int (nI le), .ref (x + 9), .ref (x + 10), .int (nI qu), .ref (x + 11), .ref (x + 12), .ref (x + 13), .ref (x + 14), .ref (x + 15), .ref (x + 16), .int (nI n_7), .long v_28, .ref (x + 17), .ref (x + 18), .ref (x + 19), .ref (x + 20), .ref (x + 21), .ref (x + 22), .int (nI n_8), .ref (x + 23), .ref (x + 24), .int (nI n_9), .ref (x + 25), .int (nI il), .int (nI nx), .int ec, .int v_29, .int kn, .int v_30, .int nu, .long va]) := ((hF3 x (fun j9 h8 h7 => (show False from h7).elim)).trans h_6)
      refine z_get (ref := "FlowExporterModel") (C := RX12) (T := TX12) (N := 54) (ci := 14) (v := .ref (x + 2)) B (by decide +kernel) rfl 2 (by decide) (by decide +kernel) rfl h_7 rfl dX12_setSupport_46 ?_
      refine z_bipush (v := 9) B dX12_setSupport_49 rfl ?_
      refine z_dup2_11 B dX12_setSupport_51 rfl rfl ?_
      obtain ⟨f_1, h_8, r_4⟩ := imk (k := 2) hI4
      replace r_4 : NN f_1 := r_4
      have h_9 : Φ4 (x + 2) = some (ai_ G 307 f_1) := h_8
      refine z_iald B h_9 (vin rfl) dX12_setSupport_52 ?_
      refine z_fi (fun v_32 => ?_)
      refine z_iconst (v := 1) B dX12_setSupport_53 rfl ?_
      refine z_iload_n B dX12_setSupport_54 rfl 2 rfl ?_
      refine z_ishl B dX12_setSupport_55 ?_
      refine z_fi (fun v_33 => ?_)
      refine z_ixor B dX12_setSupport_56 ?_
      refine z_fi (fun v_34 => ?_)
      refine z_iast B h_9 (Nat.le_trans hx (Nat.le_add_right x 2)) (vin rfl) dX12_setSupport_57 (fun Φ5 hΦ2 => ?_)
      have h_10 : Φ5 (x + 2) = some (ai_ G 307 (upd f_1 (9 : Int32).toNatClampNeg v_34)) := fset_at hΦ2
      have hI5 : Im G x (rd, NN, fl, pe, le, nx, il, qu, kn, ec, nu, va) Φ5 := Im.put2 (nw1 := NN) hI4 hΦ2 (NN.free r_4 (by decide))
      refine z_iconst (v := 0) B dX12_setSupport_58 rfl ?_
      refine z_istore (lv' := [(4, .int 0), (3, .int v_31), (0, .ref x), (1, .int (nI n_5)), (2, .int b)]) B dX12_setSupport_59 (Nat.le_of_ble_eq_true rfl) rfl ?_
      refine z_lv [0, 1, 2, 3, 4] rfl ?_
      refine z_loop (α := Nat) (fun (a9 : Nat) Φi => Im G x (rd, NN, fl, pe, le, nx, il, qu, kn, ec, nu, va) Φi ∧ Fr x (fun j9 => j9 = 0 ∨ j9 = 2 ∨ j9 = 3) Φ5 Φi ∧ (a9 ≤ 4) ∧ True) (fun a9 => [(4, .int (nI a9)), (3, .int v_31), (0, .ref x), (1, .int (nI n_5)), (2, .int b)]) (fun a9 => 4 - a9) ?_ (0) ⟨hI5, fun _ _ => rfl, (show 0 ≤ 4 by omega), trivial⟩
      rintro i_1 Φl1 ⟨hI6, hF4, b_26, -⟩ ih1
      replace hI6 : Im G x (rd, NN, fl, pe, le, nx, il, qu, kn, ec, nu, va) Φl1 := hI6
      replace b_26 : i_1 ≤ 4 := b_26
      show Z p9 l e9 _ s9 m9 _ w9 t9 k9 _ G 5 61 [(4, .int (nI i_1)), (3, .int v_31), (0, .ref x), (1, .int (nI n_5)), (2, .int b)] [] Φl1 _ _ _
      refine z_iload B dX12_setSupport_61 0 rfl ?_
      refine z_aload_n B dX12_setSupport_63 rfl 2 rfl ?_
      obtain ⟨v_35, v_36, v_37, n_10, v_38, v_39, v_40, v_41, v_42, v_43, v_44, v_45, v_46, n_11, v_47, n_12, n_13, v_48, v_49, h_11, b_38, b_27, b_28, b_29, b_30, b_31, b_32, b_33, b_34, b_35, b_36, b_37⟩ := im0 hI6
      replace b_27 : 1 ≤ n_10 := b_27
      replace b_28 : n_10 ≤ 1024 := b_28
      replace b_29 : fl ≤ 12 := b_29
      replace b_30 : pe ≤ 24 := b_30
      replace b_31 : le ≤ 700 := b_31
      replace b_32 : qu ≤ 12 := b_32
      replace b_33 : n_11 ≤ 8 := b_33
      replace b_34 : n_12 ≤ 24 := b_34
      replace b_35 : n_13 ≤ 24 := b_35
      replace b_36 : il ≤ 700 := b_36
      replace b_37 : nx ≤ 701 := b_37
      have h_12 : Φl1 x = some (o_ 14 [.int v_35, .ref (x + 1), .ref (x + 2), .int v_36, .int v_37, .int (nI n_10), .int v_38, .int v_39, .ref (x + 3), .ref (x + 4), .int v_40, .long v_41, .ref (x + 5), .int (nI fl), .int v_42, .long v_43, .long v_44, .long v_45, .long v_46, .ref (x + 6), .ref (x + 7), .int (nI pe), .ref (x + 8), .int (nI le), .ref (x + 9), .ref (x + 10), .int (nI qu), .ref (x + 11), .ref (x + 12), .ref (x + 13), .ref (x + 14), .ref (x + 15), .ref (x + 16), .int (nI n_11), .long v_47, .ref (x + 17), .ref (x + 18), .ref (x + 19), .ref (x + 20), .ref (x + 21), .ref (x + 22), .int (nI n_12), .ref (x + 23), .ref (x + 24), .int (nI n_13), .ref (x + 25), .int (nI il), .int (nI nx), .int ec, .int v_48, .int kn, .int v_49, .int nu, .long va]) := h_11
      refine z_get (ref := "FlowExporterModel") (C := RX12) (T := TX12) (N := 54) (ci := 14) (v := .ref (x + 2)) B (by decide +kernel) rfl 2 (by decide) (by decide +kernel) rfl h_12 rfl dX12_setSupport_64 ?_
      refine z_bipush (v := 10) B dX12_setSupport_67 rfl ?_
      obtain ⟨f_2, h_13, r_5⟩ := imk (k := 2) hI6
      replace r_5 : NN f_2 := r_5
      have h_14 : Φl1 (x + 2) = some (ai_ G 307 f_2) := h_13
      refine z_iald B h_14 (vin rfl) dX12_setSupport_69 ?_
      obtain ⟨n_14, b_39, e_4⟩ := r_5.2.2.2.2.1
      refine z_top (st1 := [.int (nI n_14), .int (nI i_1)]) (congrArg (fun w9 : Int32 => ([.int w9, .int (nI i_1)] : List Value)) (e_4)) ?_
      refine z_icmp_ge (tgt := 101) B dX12_setSupport_70 rfl (fun c_4 => ?_) (fun c_4 => ?_)
      · have e_5 : n_14 ≤ i_1 := (nI_leI (a := n_14) (b := i_1) (by omega) (by omega)).mp c_4
        refine z_iload_n B dX12_setSupport_101 rfl 1 rfl ?_
        exact z_ret_z B dX12_setSupport_102 b_25 ⟨⟨_, rfl, b_25⟩, rfl, hI6, (fun b9 h9 => ((hF4 b9 (fun j9 h8 h7 => h9 j9 h8 (show j9 = 0 ∨ j9 = 2 ∨ j9 = 3 by have h6 : j9 = 0 ∨ j9 = 2 ∨ j9 = 3 := h7; omega))).trans ((fset_fr hΦ2 (fun h8 => h9 (2) h8 (show 2 = 0 ∨ 2 = 2 ∨ 2 = 3 by omega))).trans ((hF3 b9 (fun j9 h8 h7 => (show False from h7).elim)).trans ((hF2 b9 (fun j9 h8 h7 => h9 j9 h8 (show j9 = 0 ∨ j9 = 2 ∨ j9 = 3 by have h6 : j9 = 0 := h7; omega))).trans ((hF1 b9 (fun j9 h8 h7 => (show False from h7).elim)).trans ((fset_fr hΦ1 (fun h8 => h9 (0) h8 (show 0 = 0 ∨ 0 = 2 ∨ 0 = 3 by omega))).trans rfl)))))))⟩
      · have e_6 : ¬ (n_14 ≤ i_1) := fun h9 => c_4 ((nI_leI (a := n_14) (b := i_1) (by omega) (by omega)).mpr h9)
        refine z_aload_n B dX12_setSupport_73 rfl 2 rfl ?_
        refine z_iload B dX12_setSupport_74 0 rfl ?_
        refine z_callV (As := [.int (nI i_1)]) (rest := []) B (r_fieldsOf G l Φl1 sz x rd fl pe le nx il qu kn ec nu va i_1 hx hI6 (show i_1 < 4 by omega)) (cwV 1 B.1.2.2.2.2 gX12_setSupport_X12_fieldsOf rfl rfl rfl (by decide +kernel) ⟨Nat.le_of_ble_eq_true rfl, Nat.le_of_ble_eq_true rfl⟩) h_12 rfl rfl rfl rfl (Nat.le_of_ble_eq_true rfl) dX12_setSupport_76 ⟨Nat.le_of_ble_eq_true rfl, Nat.le_of_ble_eq_true rfl⟩ (fun r_6 Φ6 sz4 st4 hp4 hs4 => ?_)
        obtain ⟨⟨v_50, rfl⟩, hq4, hI7, hF5⟩ := hp4
        subst sz4
        replace hs4 : st4 = [.int v_50] := hs4
        subst st4
        replace hI7 : Im G x (rd, NN, fl, pe, le, nx, il, qu, kn, ec, nu, va) Φ6 := hI7
        refine z_iload_n B dX12_setSupport_79 rfl 3 rfl ?_
        refine z_ishr B dX12_setSupport_80 ?_
        refine z_fi (fun v_51 => ?_)
        refine z_iconst (v := 1) B dX12_setSupport_81 rfl ?_
        refine z_iand B dX12_setSupport_82 ?_
        refine z_fi (fun v_52 => ?_)
        refine z_iconst (v := 1) B dX12_setSupport_83 rfl ?_
        refine z_icmp_ne (tgt := 95) B dX12_setSupport_84 rfl (fun c_5 => ?_) (fun c_5 => ?_)
        · refine z_iinc (k := 0) (v := nI (i_1 + 1)) (lv' := [(4, .int (nI (i_1 + 1))), (3, .int v_31), (0, .ref x), (1, .int (nI n_5)), (2, .int b)]) B dX12_setSupport_95 rfl (nI_add i_1 1) (Nat.le_of_ble_eq_true rfl) rfl ?_
          refine z_goto (tgt := 61) B dX12_setSupport_98 rfl ?_
          refine z_lv [0, 1, 2, 3, 4] rfl ?_
          exact ih1 (i_1 + 1) Φ6 (show 4 - (i_1 + 1) < 4 - i_1 by omega) ⟨hI7, (fun b9 h9 => ((hF5 b9 (fun j9 h8 h7 => (show False from h7).elim)).trans ((hF4 b9 (fun j9 h8 h7 => h9 j9 h8 (show j9 = 0 ∨ j9 = 2 ∨ j9 = 3 by have h6 : j9 = 0 ∨ j9 = 2 ∨ j9 = 3 := h7; omega))).trans rfl))), (show (i_1 + 1) ≤ 4 by omega), trivial⟩
        · refine z_aload_n B dX12_setSupport_87 rfl 2 rfl ?_
          have h_15 : Φ6 x = some (o_ 14 [.int v_35, .ref (x + 1), .ref (x + 2), .int v_36, .int v_37, .int (nI n_10), .int v_38, .int v_39, .ref (x + 3), .ref (x + 4), .int v_40, .long v_41, .ref (x + 5), .int (nI fl), .int v_42, .long v_43, .long v_44, .long v_45, .long v_46, .ref (x + 6), .ref (x + 7), .int (nI pe), .ref (x + 8), .int (nI le), .ref (x + 9), .ref (x + 10), .int (nI qu), .ref (x + 11), .ref (x + 12), .ref (x + 13), .ref (x + 14), .ref (x + 15), .ref (x + 16), .int (nI n_11), .long v_47, .ref (x + 17), .ref (x + 18), .ref (x + 19), .ref (x + 20), .ref (x + 21), .ref (x + 22), .int (nI n_12), .ref (x + 23), .ref (x + 24), .int (nI n_13), .ref (x + 25), .int (nI il), .int (nI nx), .int ec, .int v_48, .int kn, .int v_49, .int nu, .long va]) := ((hF5 x (fun j9 h8 h7 => (show False from h7).elim)).trans h_12)
          refine z_get (ref := "FlowExporterModel") (C := RX12) (T := TX12) (N := 54) (ci := 14) (v := .ref (x + 3)) B (by decide +kernel) rfl 8 (by decide) (by decide +kernel) rfl h_15 rfl dX12_setSupport_88 ?_
          refine z_iload B dX12_setSupport_91 0 rfl ?_
          refine z_iconst (v := (-1)) B dX12_setSupport_93 rfl ?_
          obtain ⟨f_3, h_16⟩ := imk (k := 3) hI7
          have h_17 : Φ6 (x + 3) = some (ai_ G 4 f_3) := h_16
          refine z_iast B h_17 (Nat.le_trans hx (Nat.le_add_right x 3)) (vp_in_nI (by omega) (by omega)) dX12_setSupport_94 (fun Φ7 hΦ3 => ?_)
          have h_18 : Φ7 (x + 3) = some (ai_ G 4 (upd f_3 (nI i_1).toNatClampNeg (-1))) := fset_at hΦ3
          have hI8 : Im G x (rd, NN, fl, pe, le, nx, il, qu, kn, ec, nu, va) Φ7 := Im.put (k := 3) hI7 hΦ3 ⟨_, rfl⟩
          refine z_iinc (k := 0) (v := nI (i_1 + 1)) (lv' := [(4, .int (nI (i_1 + 1))), (3, .int v_31), (0, .ref x), (1, .int (nI n_5)), (2, .int b)]) B dX12_setSupport_95 rfl (nI_add i_1 1) (Nat.le_of_ble_eq_true rfl) rfl ?_
          refine z_goto (tgt := 61) B dX12_setSupport_98 rfl ?_
          refine z_lv [0, 1, 2, 3, 4] rfl ?_
          exact ih1 (i_1 + 1) Φ7 (show 4 - (i_1 + 1) < 4 - i_1 by omega) ⟨hI8, (fun b9 h9 => ((fset_fr hΦ3 (fun h8 => h9 (3) h8 (show 3 = 0 ∨ 3 = 2 ∨ 3 = 3 by omega))).trans ((hF5 b9 (fun j9 h8 h7 => (show False from h7).elim)).trans ((hF4 b9 (fun j9 h8 h7 => h9 j9 h8 (show j9 = 0 ∨ j9 = 2 ∨ j9 = 3 by have h6 : j9 = 0 ∨ j9 = 2 ∨ j9 = 3 := h7; omega))).trans rfl)))), (show (i_1 + 1) ≤ 4 by omega), trivial⟩
    · refine z_iload_n B dX12_setSupport_43 rfl 0 rfl ?_
      exact z_ret_z B dX12_setSupport_44 b_25 ⟨⟨_, rfl, b_25⟩, rfl, hI4, (fun b9 h9 => ((hF3 b9 (fun j9 h8 h7 => (show False from h7).elim)).trans ((hF2 b9 (fun j9 h8 h7 => h9 j9 h8 (show j9 = 0 ∨ j9 = 2 ∨ j9 = 3 by have h6 : j9 = 0 := h7; omega))).trans ((hF1 b9 (fun j9 h8 h7 => (show False from h7).elim)).trans ((fset_fr hΦ1 (fun h8 => h9 (0) h8 (show 0 = 0 ∨ 0 = 2 ∨ 0 = 3 by omega))).trans rfl)))))⟩
  · refine z_callS (As := [.long a.toInt64, .long 0, .long 8]) (rest := [.ref x]) B (c_inR0 G l Φ1 sz a.toInt64 0 8 hR1 (fun v8 Φ8 sz8 => v8 = some (.int 0) ∧ sz8 = sz ∧ Im G x (rd, NN, fl, pe, le, nx, il, qu, kn, ec, nu, va) Φ8 ∧ Fr x (fun j9 => False) Φ1 Φ8) ⟨rfl, rfl, hI1, fun _ _ => rfl⟩) (va_cwS 3 B.1.2.2.2.2 gX12_setSupport_X12_inRange rfl rfl rfl (by decide +kernel) ⟨Nat.le_of_ble_eq_true rfl, Nat.le_of_ble_eq_true rfl⟩) rfl rfl (Nat.le_of_ble_eq_true rfl) dX12_setSupport_12 ⟨Nat.le_of_ble_eq_true rfl, Nat.le_of_ble_eq_true rfl⟩ (fun r_8 Φ8 sz5 st5 hp5 hs5 => ?_)
    obtain ⟨rfl, hq5, hI9, hF6⟩ := hp5
    subst sz5
    replace hs5 : st5 = [.int 0, .ref x] := hs5
    subst st5
    refine z_if_ne (tgt := 22) B dX12_setSupport_15 rfl (fun h9 => absurd (by decide) h9) (fun c_6 => ?_)
    refine z_iconst (v := 1) B dX12_setSupport_18 rfl ?_
    refine z_goto (tgt := 23) B dX12_setSupport_19 rfl ?_
    refine z_iconst (v := 1) B dX12_setSupport_23 rfl ?_
    have h_19 : Φ8 x = some (o_ 14 [.int 0, .ref (x + 1), .ref (x + 2), .int v_2, .int v_3, .int (nI n_1), .int v_4, .int v_5, .ref (x + 3), .ref (x + 4), .int v_6, .long v_7, .ref (x + 5), .int (nI fl), .int v_8, .long v_9, .long v_10, .long v_11, .long v_12, .ref (x + 6), .ref (x + 7), .int (nI pe), .ref (x + 8), .int (nI le), .ref (x + 9), .ref (x + 10), .int (nI qu), .ref (x + 11), .ref (x + 12), .ref (x + 13), .ref (x + 14), .ref (x + 15), .ref (x + 16), .int (nI n_2), .long v_13, .ref (x + 17), .ref (x + 18), .ref (x + 19), .ref (x + 20), .ref (x + 21), .ref (x + 22), .int (nI n_3), .ref (x + 23), .ref (x + 24), .int (nI n_4), .ref (x + 25), .int (nI il), .int (nI nx), .int ec, .int v_14, .int kn, .int v_15, .int nu, .long va]) := ((hF6 x (fun j9 h8 h7 => (show False from h7).elim)).trans h_3)
    refine z_callV (As := [.int 1, .int 1]) (rest := []) B (r_throwsIf G l Φ8 sz x rd fl pe le nx il qu kn ec nu va 1 1 hx hI9 (by decide)) (cwV 2 B.1.2.2.2.2 gX12_setSupport_X12_throwsIf rfl rfl rfl (by decide +kernel) ⟨Nat.le_of_ble_eq_true rfl, Nat.le_of_ble_eq_true rfl⟩) h_19 rfl rfl rfl rfl (Nat.le_of_ble_eq_true rfl) dX12_setSupport_24 ⟨Nat.le_of_ble_eq_true rfl, Nat.le_of_ble_eq_true rfl⟩ (fun r_9 Φ9 sz6 st6 hp6 hs6 => ?_)
    obtain ⟨rfl, hq6, hI10, hF7⟩ := hp6
    subst sz6
    replace hs6 : st6 = [.int 1] := hs6
    subst st6
    replace hI10 : Im G x (rd, NN, fl, pe, le, nx, il, qu, kn, ec, nu, va) Φ9 := hI10
    refine z_if_eq (tgt := 32) B dX12_setSupport_27 rfl (fun h9 => absurd h9 (by decide)) (fun c_7 => ?_)
    refine z_iconst (v := 0) B dX12_setSupport_30 rfl ?_
    exact z_ret_z B dX12_setSupport_31 (by decide) ⟨⟨_, rfl, by decide⟩, rfl, hI10, (fun b9 h9 => ((hF7 b9 (fun j9 h8 h7 => h9 j9 h8 (show j9 = 0 ∨ j9 = 2 ∨ j9 = 3 by have h6 : j9 = 0 := h7; omega))).trans ((hF6 b9 (fun j9 h8 h7 => (show False from h7).elim)).trans ((fset_fr hΦ1 (fun h8 => h9 (0) h8 (show 0 = 0 ∨ 0 = 2 ∨ 0 = 3 by omega))).trans rfl))))⟩

set_option maxHeartbeats 4000000 in
set_option maxRecDepth 100000 in
theorem r_requestTemplates (G : EnvG) (l : Launch) (Φ : Hm) (sz x : Nat) (rd : (Nat → Int32) → Prop) (fl : Nat) (pe : Nat) (le : Nat) (nx : Nat) (il : Nat) (qu : Nat) (kn : Int32) (ec : Int32) (nu : Int32) (va : Int64)  (hx : G.2.2.2 ≤ x) (hI : Im G x (rd, NN, fl, pe, le, nx, il, qu, kn, ec, nu, va) Φ)  : Ct G l yX12_requestTemplates wsX12_requestTemplates ({ frames := 0, cells := 0, slots := 0, locals := 0 }) 0 0 [.ref x] Φ sz (fun v Φ1 sz1 => (v = none) ∧ sz1 = sz ∧ (Im G x (rd, NN, fl, pe, le, nx, il, qu, kn, ec, nu, va) Φ1) ∧ Fr x (fun j9 => j9 = 0 ∨ j9 = 3) Φ Φ1) := by
  refine Ct.of (cc := cX12_requestTemplates) (maxL := 2) (ret := none) (by decide) rfl (Nat.le_of_ble_eq_true rfl) ?_
  intro p9 e9 s9 m9 w9 t9 k9 B
  show Z p9 l e9 _ s9 m9 _ w9 t9 k9 _ G 2 0 [(0, .ref x)] [] Φ sz 0 0
  refine z_aload_n B dX12_requestTemplates_0 rfl 0 rfl ?_
  refine z_iconst (v := 0) B dX12_requestTemplates_1 rfl ?_
  obtain ⟨v_1, v_2, v_3, n_1, v_4, v_5, v_6, v_7, v_8, v_9, v_10, v_11, v_12, n_2, v_13, n_3, n_4, v_14, v_15, h_1, b_12, b_1, b_2, b_3, b_4, b_5, b_6, b_7, b_8, b_9, b_10, b_11⟩ := im0 hI
  replace b_1 : 1 ≤ n_1 := b_1
  replace b_2 : n_1 ≤ 1024 := b_2
  replace b_3 : fl ≤ 12 := b_3
  replace b_4 : pe ≤ 24 := b_4
  replace b_5 : le ≤ 700 := b_5
  replace b_6 : qu ≤ 12 := b_6
  replace b_7 : n_2 ≤ 8 := b_7
  replace b_8 : n_3 ≤ 24 := b_8
  replace b_9 : n_4 ≤ 24 := b_9
  replace b_10 : il ≤ 700 := b_10
  replace b_11 : nx ≤ 701 := b_11
  have h_2 : Φ x = some (o_ 14 [.int v_1, .ref (x + 1), .ref (x + 2), .int v_2, .int v_3, .int (nI n_1), .int v_4, .int v_5, .ref (x + 3), .ref (x + 4), .int v_6, .long v_7, .ref (x + 5), .int (nI fl), .int v_8, .long v_9, .long v_10, .long v_11, .long v_12, .ref (x + 6), .ref (x + 7), .int (nI pe), .ref (x + 8), .int (nI le), .ref (x + 9), .ref (x + 10), .int (nI qu), .ref (x + 11), .ref (x + 12), .ref (x + 13), .ref (x + 14), .ref (x + 15), .ref (x + 16), .int (nI n_2), .long v_13, .ref (x + 17), .ref (x + 18), .ref (x + 19), .ref (x + 20), .ref (x + 21), .ref (x + 22), .int (nI n_3), .ref (x + 23), .ref (x + 24), .int (nI n_4), .ref (x + 25), .int (nI il), .int (nI nx), .int ec, .int v_14, .int kn, .int v_15, .int nu, .long va]) := h_1
  refine z_put (ref := "FlowExporterModel") (C := RX12) (T := TX12) (N := 54) (ci := 14) (v := .int 0) B (by decide +kernel) tyX12 tyX12_ok nmX12 rfl 0 (by decide) (by decide +kernel) rfl (Or.inl rfl) h_2 hx rfl rfl (Nat.le_of_ble_eq_true rfl) dX12_requestTemplates_2 (fun Φ1 hΦ1 => ?_)
  have h_3 : Φ1 x = some (o_ 14 [.int 0, .ref (x + 1), .ref (x + 2), .int v_2, .int v_3, .int (nI n_1), .int v_4, .int v_5, .ref (x + 3), .ref (x + 4), .int v_6, .long v_7, .ref (x + 5), .int (nI fl), .int v_8, .long v_9, .long v_10, .long v_11, .long v_12, .ref (x + 6), .ref (x + 7), .int (nI pe), .ref (x + 8), .int (nI le), .ref (x + 9), .ref (x + 10), .int (nI qu), .ref (x + 11), .ref (x + 12), .ref (x + 13), .ref (x + 14), .ref (x + 15), .ref (x + 16), .int (nI n_2), .long v_13, .ref (x + 17), .ref (x + 18), .ref (x + 19), .ref (x + 20), .ref (x + 21), .ref (x + 22), .int (nI n_3), .ref (x + 23), .ref (x + 24), .int (nI n_4), .ref (x + 25), .int (nI il), .int (nI nx), .int ec, .int v_14, .int kn, .int v_15, .int nu, .long va]) := fset_at hΦ1
  have hI1 : Im G x (rd, NN, fl, pe, le, nx, il, qu, kn, ec, nu, va) Φ1 := Im.put0 hI hΦ1 ⟨0, v_2, v_3, n_1, v_4, v_5, v_6, v_7, v_8, v_9, v_10, v_11, v_12, n_2, v_13, n_3, n_4, v_14, v_15, rfl, b_12, (show 1 ≤ n_1 by omega), (show n_1 ≤ 1024 by omega), (show fl ≤ 12 by omega), (show pe ≤ 24 by omega), (show le ≤ 700 by omega), (show qu ≤ 12 by omega), (show n_2 ≤ 8 by omega), (show n_3 ≤ 24 by omega), (show n_4 ≤ 24 by omega), (show il ≤ 700 by omega), (show nx ≤ 701 by omega)⟩
  refine z_iconst (v := 0) B dX12_requestTemplates_5 rfl ?_
  refine z_istore_n (lv' := [(1, .int 0), (0, .ref x)]) B dX12_requestTemplates_6 rfl (Nat.le_of_ble_eq_true rfl) rfl ?_
  refine z_lv [0, 1] rfl ?_
  refine z_loop (α := Nat) (fun (a9 : Nat) Φi => Im G x (rd, NN, fl, pe, le, nx, il, qu, kn, ec, nu, va) Φi ∧ Fr x (fun j9 => j9 = 0 ∨ j9 = 3) Φ1 Φi ∧ (a9 ≤ 4) ∧ True) (fun a9 => [(1, .int (nI a9)), (0, .ref x)]) (fun a9 => 4 - a9) ?_ (0) ⟨hI1, fun _ _ => rfl, (show 0 ≤ 4 by omega), trivial⟩
  rintro i_1 Φl1 ⟨hI2, hF1, b_13, -⟩ ih1
  replace hI2 : Im G x (rd, NN, fl, pe, le, nx, il, qu, kn, ec, nu, va) Φl1 := hI2
  replace b_13 : i_1 ≤ 4 := b_13
  show Z p9 l e9 _ s9 m9 _ w9 t9 k9 _ G 2 7 [(1, .int (nI i_1)), (0, .ref x)] [] Φl1 _ _ _
  refine z_iload_n B dX12_requestTemplates_7 rfl 0 rfl ?_
  refine z_iconst (v := 4) B dX12_requestTemplates_8 rfl ?_
  refine z_icmp_ge (tgt := 25) B dX12_requestTemplates_9 rfl (fun c_1 => ?_) (fun c_1 => ?_)
  · have e_1 : 4 ≤ i_1 := (nI_leI (a := 4) (b := i_1) (by omega) (by omega)).mp c_1
    exact z_ret_v B dX12_requestTemplates_25 ⟨rfl, rfl, hI2, (fun b9 h9 => ((hF1 b9 (fun j9 h8 h7 => h9 j9 h8 (show j9 = 0 ∨ j9 = 3 by have h6 : j9 = 0 ∨ j9 = 3 := h7; omega))).trans ((fset_fr hΦ1 (fun h8 => h9 (0) h8 (show 0 = 0 ∨ 0 = 3 by omega))).trans rfl)))⟩
  · have e_2 : ¬ (4 ≤ i_1) := fun h9 => c_1 ((nI_leI (a := 4) (b := i_1) (by omega) (by omega)).mpr h9)
    refine z_aload_n B dX12_requestTemplates_12 rfl 1 rfl ?_
    obtain ⟨v_16, v_17, v_18, n_5, v_19, v_20, v_21, v_22, v_23, v_24, v_25, v_26, v_27, n_6, v_28, n_7, n_8, v_29, v_30, h_4, b_25, b_14, b_15, b_16, b_17, b_18, b_19, b_20, b_21, b_22, b_23, b_24⟩ := im0 hI2
    replace b_14 : 1 ≤ n_5 := b_14
    replace b_15 : n_5 ≤ 1024 := b_15
    replace b_16 : fl ≤ 12 := b_16
    replace b_17 : pe ≤ 24 := b_17
    replace b_18 : le ≤ 700 := b_18
    replace b_19 : qu ≤ 12 := b_19
    replace b_20 : n_6 ≤ 8 := b_20
    replace b_21 : n_7 ≤ 24 := b_21
    replace b_22 : n_8 ≤ 24 := b_22
    replace b_23 : il ≤ 700 := b_23
    replace b_24 : nx ≤ 701 := b_24
    have h_5 : Φl1 x = some (o_ 14 [.int v_16, .ref (x + 1), .ref (x + 2), .int v_17, .int v_18, .int (nI n_5), .int v_19, .int v_20, .ref (x + 3), .ref (x + 4), .int v_21, .long v_22, .ref (x + 5), .int (nI fl), .int v_23, .long v_24, .long v_25, .long v_26, .long v_27, .ref (x + 6), .ref (x + 7), .int (nI pe), .ref (x + 8), .int (nI le), .ref (x + 9), .ref (x + 10), .int (nI qu), .ref (x + 11), .ref (x + 12), .ref (x + 13), .ref (x + 14), .ref (x + 15), .ref (x + 16), .int (nI n_6), .long v_28, .ref (x + 17), .ref (x + 18), .ref (x + 19), .ref (x + 20), .ref (x + 21), .ref (x + 22), .int (nI n_7), .ref (x + 23), .ref (x + 24), .int (nI n_8), .ref (x + 25), .int (nI il), .int (nI nx), .int ec, .int v_29, .int kn, .int v_30, .int nu, .long va]) := h_4
    refine z_get (ref := "FlowExporterModel") (C := RX12) (T := TX12) (N := 54) (ci := 14) (v := .ref (x + 3)) B (by decide +kernel) rfl 8 (by decide) (by decide +kernel) rfl h_5 rfl dX12_requestTemplates_13 ?_
    refine z_iload_n B dX12_requestTemplates_16 rfl 0 rfl ?_
    refine z_iconst (v := (-1)) B dX12_requestTemplates_17 rfl ?_
    obtain ⟨f_1, h_6⟩ := imk (k := 3) hI2
    have h_7 : Φl1 (x + 3) = some (ai_ G 4 f_1) := h_6
    refine z_iast B h_7 (Nat.le_trans hx (Nat.le_add_right x 3)) (vp_in_nI (by omega) (by omega)) dX12_requestTemplates_18 (fun Φ2 hΦ2 => ?_)
    have h_8 : Φ2 (x + 3) = some (ai_ G 4 (upd f_1 (nI i_1).toNatClampNeg (-1))) := fset_at hΦ2
    have hI3 : Im G x (rd, NN, fl, pe, le, nx, il, qu, kn, ec, nu, va) Φ2 := Im.put (k := 3) hI2 hΦ2 ⟨_, rfl⟩
    refine z_iinc (k := 0) (v := nI (i_1 + 1)) (lv' := [(1, .int (nI (i_1 + 1))), (0, .ref x)]) B dX12_requestTemplates_19 rfl (nI_add i_1 1) (Nat.le_of_ble_eq_true rfl) rfl ?_
    refine z_goto (tgt := 7) B dX12_requestTemplates_22 rfl ?_
    refine z_lv [0, 1] rfl ?_
    exact ih1 (i_1 + 1) Φ2 (show 4 - (i_1 + 1) < 4 - i_1 by omega) ⟨hI3, (fun b9 h9 => ((fset_fr hΦ2 (fun h8 => h9 (3) h8 (show 3 = 0 ∨ 3 = 3 by omega))).trans ((hF1 b9 (fun j9 h8 h7 => h9 j9 h8 (show j9 = 0 ∨ j9 = 3 by have h6 : j9 = 0 ∨ j9 = 3 := h7; omega))).trans rfl))), (show (i_1 + 1) ≤ 4 by omega), trivial⟩

set_option maxHeartbeats 4000000 in
set_option maxRecDepth 100000 in
theorem r_startExporter (G : EnvG) (l : Launch) (Φ : Hm) (sz x : Nat) (rd : (Nat → Int32) → Prop) (fl : Nat) (pe : Nat) (le : Nat) (nx : Nat) (il : Nat) (qu : Nat) (kn : Int32) (ec : Int32) (nu : Int32) (va : Int64)  (hx : G.2.2.2 ≤ x) (hI : Im G x (rd, NN, fl, pe, le, nx, il, qu, kn, ec, nu, va) Φ)  : Ct G l yX12_startExporter wsX12_startExporter ({ frames := 0, cells := 0, slots := 0, locals := 0 }) 0 0 [.ref x] Φ sz (fun v Φ1 sz1 => (v = none) ∧ sz1 = sz ∧ (Im G x (rd, NN, 0, 0, le, nx, il, qu, kn, ec, nu, va) Φ1) ∧ Fr x (fun j9 => j9 = 0 ∨ j9 = 3) Φ Φ1) := by
  refine Ct.of (cc := cX12_startExporter) (maxL := 2) (ret := none) (by decide) rfl (Nat.le_of_ble_eq_true rfl) ?_
  intro p9 e9 s9 m9 w9 t9 k9 B
  show Z p9 l e9 _ s9 m9 _ w9 t9 k9 _ G 2 0 [(0, .ref x)] [] Φ sz 0 0
  refine z_aload_n B dX12_startExporter_0 rfl 0 rfl ?_
  refine z_iconst (v := 0) B dX12_startExporter_1 rfl ?_
  obtain ⟨v_1, v_2, v_3, n_1, v_4, v_5, v_6, v_7, v_8, v_9, v_10, v_11, v_12, n_2, v_13, n_3, n_4, v_14, v_15, h_1, b_12, b_1, b_2, b_3, b_4, b_5, b_6, b_7, b_8, b_9, b_10, b_11⟩ := im0 hI
  replace b_1 : 1 ≤ n_1 := b_1
  replace b_2 : n_1 ≤ 1024 := b_2
  replace b_3 : fl ≤ 12 := b_3
  replace b_4 : pe ≤ 24 := b_4
  replace b_5 : le ≤ 700 := b_5
  replace b_6 : qu ≤ 12 := b_6
  replace b_7 : n_2 ≤ 8 := b_7
  replace b_8 : n_3 ≤ 24 := b_8
  replace b_9 : n_4 ≤ 24 := b_9
  replace b_10 : il ≤ 700 := b_10
  replace b_11 : nx ≤ 701 := b_11
  have h_2 : Φ x = some (o_ 14 [.int v_1, .ref (x + 1), .ref (x + 2), .int v_2, .int v_3, .int (nI n_1), .int v_4, .int v_5, .ref (x + 3), .ref (x + 4), .int v_6, .long v_7, .ref (x + 5), .int (nI fl), .int v_8, .long v_9, .long v_10, .long v_11, .long v_12, .ref (x + 6), .ref (x + 7), .int (nI pe), .ref (x + 8), .int (nI le), .ref (x + 9), .ref (x + 10), .int (nI qu), .ref (x + 11), .ref (x + 12), .ref (x + 13), .ref (x + 14), .ref (x + 15), .ref (x + 16), .int (nI n_2), .long v_13, .ref (x + 17), .ref (x + 18), .ref (x + 19), .ref (x + 20), .ref (x + 21), .ref (x + 22), .int (nI n_3), .ref (x + 23), .ref (x + 24), .int (nI n_4), .ref (x + 25), .int (nI il), .int (nI nx), .int ec, .int v_14, .int kn, .int v_15, .int nu, .long va]) := h_1
  refine z_put (ref := "FlowExporterModel") (C := RX12) (T := TX12) (N := 54) (ci := 14) (v := .int 0) B (by decide +kernel) tyX12 tyX12_ok nmX12 rfl 13 (by decide) (by decide +kernel) rfl (Or.inl rfl) h_2 hx rfl rfl (Nat.le_of_ble_eq_true rfl) dX12_startExporter_2 (fun Φ1 hΦ1 => ?_)
  have h_3 : Φ1 x = some (o_ 14 [.int v_1, .ref (x + 1), .ref (x + 2), .int v_2, .int v_3, .int (nI n_1), .int v_4, .int v_5, .ref (x + 3), .ref (x + 4), .int v_6, .long v_7, .ref (x + 5), .int 0, .int v_8, .long v_9, .long v_10, .long v_11, .long v_12, .ref (x + 6), .ref (x + 7), .int (nI pe), .ref (x + 8), .int (nI le), .ref (x + 9), .ref (x + 10), .int (nI qu), .ref (x + 11), .ref (x + 12), .ref (x + 13), .ref (x + 14), .ref (x + 15), .ref (x + 16), .int (nI n_2), .long v_13, .ref (x + 17), .ref (x + 18), .ref (x + 19), .ref (x + 20), .ref (x + 21), .ref (x + 22), .int (nI n_3), .ref (x + 23), .ref (x + 24), .int (nI n_4), .ref (x + 25), .int (nI il), .int (nI nx), .int ec, .int v_14, .int kn, .int v_15, .int nu, .long va]) := fset_at hΦ1
  have hI1 : Im G x (rd, NN, 0, pe, le, nx, il, qu, kn, ec, nu, va) Φ1 := Im.put0 hI hΦ1 ⟨v_1, v_2, v_3, n_1, v_4, v_5, v_6, v_7, v_8, v_9, v_10, v_11, v_12, n_2, v_13, n_3, n_4, v_14, v_15, rfl, b_12, (show 1 ≤ n_1 by omega), (show n_1 ≤ 1024 by omega), (show 0 ≤ 12 by omega), (show pe ≤ 24 by omega), (show le ≤ 700 by omega), (show qu ≤ 12 by omega), (show n_2 ≤ 8 by omega), (show n_3 ≤ 24 by omega), (show n_4 ≤ 24 by omega), (show il ≤ 700 by omega), (show nx ≤ 701 by omega)⟩
  refine z_aload_n B dX12_startExporter_5 rfl 0 rfl ?_
  refine z_iconst (v := 0) B dX12_startExporter_6 rfl ?_
  refine z_put (ref := "FlowExporterModel") (C := RX12) (T := TX12) (N := 54) (ci := 14) (v := .int 0) B (by decide +kernel) tyX12 tyX12_ok nmX12 rfl 21 (by decide) (by decide +kernel) rfl (Or.inl rfl) h_3 hx rfl rfl (Nat.le_of_ble_eq_true rfl) dX12_startExporter_7 (fun Φ2 hΦ2 => ?_)
  have h_4 : Φ2 x = some (o_ 14 [.int v_1, .ref (x + 1), .ref (x + 2), .int v_2, .int v_3, .int (nI n_1), .int v_4, .int v_5, .ref (x + 3), .ref (x + 4), .int v_6, .long v_7, .ref (x + 5), .int 0, .int v_8, .long v_9, .long v_10, .long v_11, .long v_12, .ref (x + 6), .ref (x + 7), .int 0, .ref (x + 8), .int (nI le), .ref (x + 9), .ref (x + 10), .int (nI qu), .ref (x + 11), .ref (x + 12), .ref (x + 13), .ref (x + 14), .ref (x + 15), .ref (x + 16), .int (nI n_2), .long v_13, .ref (x + 17), .ref (x + 18), .ref (x + 19), .ref (x + 20), .ref (x + 21), .ref (x + 22), .int (nI n_3), .ref (x + 23), .ref (x + 24), .int (nI n_4), .ref (x + 25), .int (nI il), .int (nI nx), .int ec, .int v_14, .int kn, .int v_15, .int nu, .long va]) := fset_at hΦ2
  have hI2 : Im G x (rd, NN, 0, 0, le, nx, il, qu, kn, ec, nu, va) Φ2 := Im.put0 hI1 hΦ2 ⟨v_1, v_2, v_3, n_1, v_4, v_5, v_6, v_7, v_8, v_9, v_10, v_11, v_12, n_2, v_13, n_3, n_4, v_14, v_15, rfl, b_12, (show 1 ≤ n_1 by omega), (show n_1 ≤ 1024 by omega), (show 0 ≤ 12 by omega), (show 0 ≤ 24 by omega), (show le ≤ 700 by omega), (show qu ≤ 12 by omega), (show n_2 ≤ 8 by omega), (show n_3 ≤ 24 by omega), (show n_4 ≤ 24 by omega), (show il ≤ 700 by omega), (show nx ≤ 701 by omega)⟩
  refine z_aload_n B dX12_startExporter_10 rfl 0 rfl ?_
  refine z_lconst (v := 0) B dX12_startExporter_11 rfl ?_
  refine z_put (ref := "FlowExporterModel") (C := RX12) (T := TX12) (N := 54) (ci := 14) (v := .long 0) B (by decide +kernel) tyX12 tyX12_ok nmX12 rfl 11 (by decide) (by decide +kernel) rfl (Or.inl rfl) h_4 hx rfl rfl (Nat.le_of_ble_eq_true rfl) dX12_startExporter_12 (fun Φ3 hΦ3 => ?_)
  have h_5 : Φ3 x = some (o_ 14 [.int v_1, .ref (x + 1), .ref (x + 2), .int v_2, .int v_3, .int (nI n_1), .int v_4, .int v_5, .ref (x + 3), .ref (x + 4), .int v_6, .long 0, .ref (x + 5), .int 0, .int v_8, .long v_9, .long v_10, .long v_11, .long v_12, .ref (x + 6), .ref (x + 7), .int 0, .ref (x + 8), .int (nI le), .ref (x + 9), .ref (x + 10), .int (nI qu), .ref (x + 11), .ref (x + 12), .ref (x + 13), .ref (x + 14), .ref (x + 15), .ref (x + 16), .int (nI n_2), .long v_13, .ref (x + 17), .ref (x + 18), .ref (x + 19), .ref (x + 20), .ref (x + 21), .ref (x + 22), .int (nI n_3), .ref (x + 23), .ref (x + 24), .int (nI n_4), .ref (x + 25), .int (nI il), .int (nI nx), .int ec, .int v_14, .int kn, .int v_15, .int nu, .long va]) := fset_at hΦ3
  have hI3 : Im G x (rd, NN, 0, 0, le, nx, il, qu, kn, ec, nu, va) Φ3 := Im.put0 hI2 hΦ3 ⟨v_1, v_2, v_3, n_1, v_4, v_5, v_6, 0, v_8, v_9, v_10, v_11, v_12, n_2, v_13, n_3, n_4, v_14, v_15, rfl, b_12, (show 1 ≤ n_1 by omega), (show n_1 ≤ 1024 by omega), (show 0 ≤ 12 by omega), (show 0 ≤ 24 by omega), (show le ≤ 700 by omega), (show qu ≤ 12 by omega), (show n_2 ≤ 8 by omega), (show n_3 ≤ 24 by omega), (show n_4 ≤ 24 by omega), (show il ≤ 700 by omega), (show nx ≤ 701 by omega)⟩
  refine z_iconst (v := 0) B dX12_startExporter_15 rfl ?_
  refine z_istore_n (lv' := [(1, .int 0), (0, .ref x)]) B dX12_startExporter_16 rfl (Nat.le_of_ble_eq_true rfl) rfl ?_
  refine z_lv [0, 1] rfl ?_
  refine z_loop (α := Nat) (fun (a9 : Nat) Φi => Im G x (rd, NN, 0, 0, le, nx, il, qu, kn, ec, nu, va) Φi ∧ Fr x (fun j9 => j9 = 0 ∨ j9 = 3) Φ3 Φi ∧ (a9 ≤ 4) ∧ True) (fun a9 => [(1, .int (nI a9)), (0, .ref x)]) (fun a9 => 4 - a9) ?_ (0) ⟨hI3, fun _ _ => rfl, (show 0 ≤ 4 by omega), trivial⟩
  rintro i_1 Φl1 ⟨hI4, hF1, b_13, -⟩ ih1
  replace hI4 : Im G x (rd, NN, 0, 0, le, nx, il, qu, kn, ec, nu, va) Φl1 := hI4
  replace b_13 : i_1 ≤ 4 := b_13
  show Z p9 l e9 _ s9 m9 _ w9 t9 k9 _ G 2 17 [(1, .int (nI i_1)), (0, .ref x)] [] Φl1 _ _ _
  refine z_iload_n B dX12_startExporter_17 rfl 0 rfl ?_
  refine z_iconst (v := 4) B dX12_startExporter_18 rfl ?_
  refine z_icmp_ge (tgt := 35) B dX12_startExporter_19 rfl (fun c_1 => ?_) (fun c_1 => ?_)
  · have e_1 : 4 ≤ i_1 := (nI_leI (a := 4) (b := i_1) (by omega) (by omega)).mp c_1
    exact z_ret_v B dX12_startExporter_35 ⟨rfl, rfl, hI4, (fun b9 h9 => ((hF1 b9 (fun j9 h8 h7 => h9 j9 h8 (show j9 = 0 ∨ j9 = 3 by have h6 : j9 = 0 ∨ j9 = 3 := h7; omega))).trans ((fset_fr hΦ3 (fun h8 => h9 (0) h8 (show 0 = 0 ∨ 0 = 3 by omega))).trans ((fset_fr hΦ2 (fun h8 => h9 (0) h8 (show 0 = 0 ∨ 0 = 3 by omega))).trans ((fset_fr hΦ1 (fun h8 => h9 (0) h8 (show 0 = 0 ∨ 0 = 3 by omega))).trans rfl)))))⟩
  · have e_2 : ¬ (4 ≤ i_1) := fun h9 => c_1 ((nI_leI (a := 4) (b := i_1) (by omega) (by omega)).mpr h9)
    refine z_aload_n B dX12_startExporter_22 rfl 1 rfl ?_
    obtain ⟨v_16, v_17, v_18, n_5, v_19, v_20, v_21, v_22, v_23, v_24, v_25, v_26, v_27, n_6, v_28, n_7, n_8, v_29, v_30, h_6, b_25, b_14, b_15, b_16, b_17, b_18, b_19, b_20, b_21, b_22, b_23, b_24⟩ := im0 hI4
    replace b_14 : 1 ≤ n_5 := b_14
    replace b_15 : n_5 ≤ 1024 := b_15
    replace b_16 : 0 ≤ 12 := b_16
    replace b_17 : 0 ≤ 24 := b_17
    replace b_18 : le ≤ 700 := b_18
    replace b_19 : qu ≤ 12 := b_19
    replace b_20 : n_6 ≤ 8 := b_20
    replace b_21 : n_7 ≤ 24 := b_21
    replace b_22 : n_8 ≤ 24 := b_22
    replace b_23 : il ≤ 700 := b_23
    replace b_24 : nx ≤ 701 := b_24
    have h_7 : Φl1 x = some (o_ 14 [.int v_16, .ref (x + 1), .ref (x + 2), .int v_17, .int v_18, .int (nI n_5), .int v_19, .int v_20, .ref (x + 3), .ref (x + 4), .int v_21, .long v_22, .ref (x + 5), .int (nI 0), .int v_23, .long v_24, .long v_25, .long v_26, .long v_27, .ref (x + 6), .ref (x + 7), .int (nI 0), .ref (x + 8), .int (nI le), .ref (x + 9), .ref (x + 10), .int (nI qu), .ref (x + 11), .ref (x + 12), .ref (x + 13), .ref (x + 14), .ref (x + 15), .ref (x + 16), .int (nI n_6), .long v_28, .ref (x + 17), .ref (x + 18), .ref (x + 19), .ref (x + 20), .ref (x + 21), .ref (x + 22), .int (nI n_7), .ref (x + 23), .ref (x + 24), .int (nI n_8), .ref (x + 25), .int (nI il), .int (nI nx), .int ec, .int v_29, .int kn, .int v_30, .int nu, .long va]) := h_6
    refine z_get (ref := "FlowExporterModel") (C := RX12) (T := TX12) (N := 54) (ci := 14) (v := .ref (x + 3)) B (by decide +kernel) rfl 8 (by decide) (by decide +kernel) rfl h_7 rfl dX12_startExporter_23 ?_
    refine z_iload_n B dX12_startExporter_26 rfl 0 rfl ?_
    refine z_iconst (v := (-1)) B dX12_startExporter_27 rfl ?_
    obtain ⟨f_1, h_8⟩ := imk (k := 3) hI4
    have h_9 : Φl1 (x + 3) = some (ai_ G 4 f_1) := h_8
    refine z_iast B h_9 (Nat.le_trans hx (Nat.le_add_right x 3)) (vp_in_nI (by omega) (by omega)) dX12_startExporter_28 (fun Φ4 hΦ4 => ?_)
    have h_10 : Φ4 (x + 3) = some (ai_ G 4 (upd f_1 (nI i_1).toNatClampNeg (-1))) := fset_at hΦ4
    have hI5 : Im G x (rd, NN, 0, 0, le, nx, il, qu, kn, ec, nu, va) Φ4 := Im.put (k := 3) hI4 hΦ4 ⟨_, rfl⟩
    refine z_iinc (k := 0) (v := nI (i_1 + 1)) (lv' := [(1, .int (nI (i_1 + 1))), (0, .ref x)]) B dX12_startExporter_29 rfl (nI_add i_1 1) (Nat.le_of_ble_eq_true rfl) rfl ?_
    refine z_goto (tgt := 17) B dX12_startExporter_32 rfl ?_
    refine z_lv [0, 1] rfl ?_
    exact ih1 (i_1 + 1) Φ4 (show 4 - (i_1 + 1) < 4 - i_1 by omega) ⟨hI5, (fun b9 h9 => ((fset_fr hΦ4 (fun h8 => h9 (3) h8 (show 3 = 0 ∨ 3 = 3 by omega))).trans ((hF1 b9 (fun j9 h8 h7 => h9 j9 h8 (show j9 = 0 ∨ j9 = 3 by have h6 : j9 = 0 ∨ j9 = 3 := h7; omega))).trans rfl))), (show (i_1 + 1) ≤ 4 by omega), trivial⟩

set_option maxHeartbeats 4000000 in
set_option maxRecDepth 100000 in
theorem r_startCollector (G : EnvG) (l : Launch) (Φ : Hm) (sz x : Nat) (rd : (Nat → Int32) → Prop) (fl : Nat) (pe : Nat) (le : Nat) (nx : Nat) (il : Nat) (qu : Nat) (kn : Int32) (ec : Int32) (nu : Int32) (va : Int64)  (hx : G.2.2.2 ≤ x) (hI : Im G x (rd, NN, fl, pe, le, nx, il, qu, kn, ec, nu, va) Φ)  : Ct G l yX12_startCollector wsX12_startCollector ({ frames := 0, cells := 0, slots := 0, locals := 0 }) 0 0 [.ref x] Φ sz (fun v Φ1 sz1 => (v = none) ∧ sz1 = sz ∧ (Im G x (rd, NN, fl, pe, le, nx, il, qu, kn, ec, nu, va) Φ1) ∧ Fr x (fun j9 => j9 = 0 ∨ j9 = 12) Φ Φ1) := by
  refine Ct.of (cc := cX12_startCollector) (maxL := 2) (ret := none) (by decide) rfl (Nat.le_of_ble_eq_true rfl) ?_
  intro p9 e9 s9 m9 w9 t9 k9 B
  show Z p9 l e9 _ s9 m9 _ w9 t9 k9 _ G 2 0 [(0, .ref x)] [] Φ sz 0 0
  refine z_iconst (v := 0) B dX12_startCollector_0 rfl ?_
  refine z_istore_n (lv' := [(1, .int 0), (0, .ref x)]) B dX12_startCollector_1 rfl (Nat.le_of_ble_eq_true rfl) rfl ?_
  refine z_lv [0, 1] rfl ?_
  refine z_loop (α := Nat) (fun (a9 : Nat) Φi => Im G x (rd, NN, fl, pe, le, nx, il, qu, kn, ec, nu, va) Φi ∧ Fr x (fun j9 => j9 = 0 ∨ j9 = 12) Φ Φi ∧ (a9 ≤ 4) ∧ True) (fun a9 => [(1, .int (nI a9)), (0, .ref x)]) (fun a9 => 4 - a9) ?_ (0) ⟨hI, fun _ _ => rfl, (show 0 ≤ 4 by omega), trivial⟩
  rintro i_1 Φl1 ⟨hI1, hF1, b_1, -⟩ ih1
  replace hI1 : Im G x (rd, NN, fl, pe, le, nx, il, qu, kn, ec, nu, va) Φl1 := hI1
  replace b_1 : i_1 ≤ 4 := b_1
  show Z p9 l e9 _ s9 m9 _ w9 t9 k9 _ G 2 2 [(1, .int (nI i_1)), (0, .ref x)] [] Φl1 _ _ _
  refine z_iload_n B dX12_startCollector_2 rfl 0 rfl ?_
  refine z_iconst (v := 4) B dX12_startCollector_3 rfl ?_
  refine z_icmp_ge (tgt := 20) B dX12_startCollector_4 rfl (fun c_1 => ?_) (fun c_1 => ?_)
  · have e_1 : 4 ≤ i_1 := (nI_leI (a := 4) (b := i_1) (by omega) (by omega)).mp c_1
    refine z_aload_n B dX12_startCollector_20 rfl 1 rfl ?_
    refine z_iconst (v := 0) B dX12_startCollector_21 rfl ?_
    obtain ⟨v_1, v_2, v_3, n_1, v_4, v_5, v_6, v_7, v_8, v_9, v_10, v_11, v_12, n_2, v_13, n_3, n_4, v_14, v_15, h_1, b_13, b_2, b_3, b_4, b_5, b_6, b_7, b_8, b_9, b_10, b_11, b_12⟩ := im0 hI1
    replace b_2 : 1 ≤ n_1 := b_2
    replace b_3 : n_1 ≤ 1024 := b_3
    replace b_4 : fl ≤ 12 := b_4
    replace b_5 : pe ≤ 24 := b_5
    replace b_6 : le ≤ 700 := b_6
    replace b_7 : qu ≤ 12 := b_7
    replace b_8 : n_2 ≤ 8 := b_8
    replace b_9 : n_3 ≤ 24 := b_9
    replace b_10 : n_4 ≤ 24 := b_10
    replace b_11 : il ≤ 700 := b_11
    replace b_12 : nx ≤ 701 := b_12
    have h_2 : Φl1 x = some (o_ 14 [.int v_1, .ref (x + 1), .ref (x + 2), .int v_2, .int v_3, .int (nI n_1), .int v_4, .int v_5, .ref (x + 3), .ref (x + 4), .int v_6, .long v_7, .ref (x + 5), .int (nI fl), .int v_8, .long v_9, .long v_10, .long v_11, .long v_12, .ref (x + 6), .ref (x + 7), .int (nI pe), .ref (x + 8), .int (nI le), .ref (x + 9), .ref (x + 10), .int (nI qu), .ref (x + 11), .ref (x + 12), .ref (x + 13), .ref (x + 14), .ref (x + 15), .ref (x + 16), .int (nI n_2), .long v_13, .ref (x + 17), .ref (x + 18), .ref (x + 19), .ref (x + 20), .ref (x + 21), .ref (x + 22), .int (nI n_3), .ref (x + 23), .ref (x + 24), .int (nI n_4), .ref (x + 25), .int (nI il), .int (nI nx), .int ec, .int v_14, .int kn, .int v_15, .int nu, .long va]) := h_1
    refine z_put (ref := "FlowExporterModel") (C := RX12) (T := TX12) (N := 54) (ci := 14) (v := .int 0) B (by decide +kernel) tyX12 tyX12_ok nmX12 rfl 33 (by decide) (by decide +kernel) rfl (Or.inl rfl) h_2 hx rfl rfl (Nat.le_of_ble_eq_true rfl) dX12_startCollector_22 (fun Φ1 hΦ1 => ?_)
    have h_3 : Φ1 x = some (o_ 14 [.int v_1, .ref (x + 1), .ref (x + 2), .int v_2, .int v_3, .int (nI n_1), .int v_4, .int v_5, .ref (x + 3), .ref (x + 4), .int v_6, .long v_7, .ref (x + 5), .int (nI fl), .int v_8, .long v_9, .long v_10, .long v_11, .long v_12, .ref (x + 6), .ref (x + 7), .int (nI pe), .ref (x + 8), .int (nI le), .ref (x + 9), .ref (x + 10), .int (nI qu), .ref (x + 11), .ref (x + 12), .ref (x + 13), .ref (x + 14), .ref (x + 15), .ref (x + 16), .int 0, .long v_13, .ref (x + 17), .ref (x + 18), .ref (x + 19), .ref (x + 20), .ref (x + 21), .ref (x + 22), .int (nI n_3), .ref (x + 23), .ref (x + 24), .int (nI n_4), .ref (x + 25), .int (nI il), .int (nI nx), .int ec, .int v_14, .int kn, .int v_15, .int nu, .long va]) := fset_at hΦ1
    have hI2 : Im G x (rd, NN, fl, pe, le, nx, il, qu, kn, ec, nu, va) Φ1 := Im.put0 hI1 hΦ1 ⟨v_1, v_2, v_3, n_1, v_4, v_5, v_6, v_7, v_8, v_9, v_10, v_11, v_12, 0, v_13, n_3, n_4, v_14, v_15, rfl, b_13, (show 1 ≤ n_1 by omega), (show n_1 ≤ 1024 by omega), (show fl ≤ 12 by omega), (show pe ≤ 24 by omega), (show le ≤ 700 by omega), (show qu ≤ 12 by omega), (show 0 ≤ 8 by omega), (show n_3 ≤ 24 by omega), (show n_4 ≤ 24 by omega), (show il ≤ 700 by omega), (show nx ≤ 701 by omega)⟩
    refine z_aload_n B dX12_startCollector_25 rfl 1 rfl ?_
    refine z_ldc2 (v := (-1)) B (by decide +kernel) dX12_startCollector_26 ?_
    refine z_put (ref := "FlowExporterModel") (C := RX12) (T := TX12) (N := 54) (ci := 14) (v := .long (-1)) B (by decide +kernel) tyX12 tyX12_ok nmX12 rfl 34 (by decide) (by decide +kernel) rfl (Or.inl rfl) h_3 hx rfl rfl (Nat.le_of_ble_eq_true rfl) dX12_startCollector_29 (fun Φ2 hΦ2 => ?_)
    have h_4 : Φ2 x = some (o_ 14 [.int v_1, .ref (x + 1), .ref (x + 2), .int v_2, .int v_3, .int (nI n_1), .int v_4, .int v_5, .ref (x + 3), .ref (x + 4), .int v_6, .long v_7, .ref (x + 5), .int (nI fl), .int v_8, .long v_9, .long v_10, .long v_11, .long v_12, .ref (x + 6), .ref (x + 7), .int (nI pe), .ref (x + 8), .int (nI le), .ref (x + 9), .ref (x + 10), .int (nI qu), .ref (x + 11), .ref (x + 12), .ref (x + 13), .ref (x + 14), .ref (x + 15), .ref (x + 16), .int 0, .long (-1), .ref (x + 17), .ref (x + 18), .ref (x + 19), .ref (x + 20), .ref (x + 21), .ref (x + 22), .int (nI n_3), .ref (x + 23), .ref (x + 24), .int (nI n_4), .ref (x + 25), .int (nI il), .int (nI nx), .int ec, .int v_14, .int kn, .int v_15, .int nu, .long va]) := fset_at hΦ2
    have hI3 : Im G x (rd, NN, fl, pe, le, nx, il, qu, kn, ec, nu, va) Φ2 := Im.put0 hI2 hΦ2 ⟨v_1, v_2, v_3, n_1, v_4, v_5, v_6, v_7, v_8, v_9, v_10, v_11, v_12, 0, (-1), n_3, n_4, v_14, v_15, rfl, b_13, (show 1 ≤ n_1 by omega), (show n_1 ≤ 1024 by omega), (show fl ≤ 12 by omega), (show pe ≤ 24 by omega), (show le ≤ 700 by omega), (show qu ≤ 12 by omega), (show 0 ≤ 8 by omega), (show n_3 ≤ 24 by omega), (show n_4 ≤ 24 by omega), (show il ≤ 700 by omega), (show nx ≤ 701 by omega)⟩
    exact z_ret_v B dX12_startCollector_32 ⟨rfl, rfl, hI3, (fun b9 h9 => ((fset_fr hΦ2 (fun h8 => h9 (0) h8 (show 0 = 0 ∨ 0 = 12 by omega))).trans ((fset_fr hΦ1 (fun h8 => h9 (0) h8 (show 0 = 0 ∨ 0 = 12 by omega))).trans ((hF1 b9 (fun j9 h8 h7 => h9 j9 h8 (show j9 = 0 ∨ j9 = 12 by have h6 : j9 = 0 ∨ j9 = 12 := h7; omega))).trans rfl))))⟩
  · have e_2 : ¬ (4 ≤ i_1) := fun h9 => c_1 ((nI_leI (a := 4) (b := i_1) (by omega) (by omega)).mpr h9)
    refine z_aload_n B dX12_startCollector_7 rfl 1 rfl ?_
    obtain ⟨v_16, v_17, v_18, n_5, v_19, v_20, v_21, v_22, v_23, v_24, v_25, v_26, v_27, n_6, v_28, n_7, n_8, v_29, v_30, h_5, b_25, b_14, b_15, b_16, b_17, b_18, b_19, b_20, b_21, b_22, b_23, b_24⟩ := im0 hI1
    replace b_14 : 1 ≤ n_5 := b_14
    replace b_15 : n_5 ≤ 1024 := b_15
    replace b_16 : fl ≤ 12 := b_16
    replace b_17 : pe ≤ 24 := b_17
    replace b_18 : le ≤ 700 := b_18
    replace b_19 : qu ≤ 12 := b_19
    replace b_20 : n_6 ≤ 8 := b_20
    replace b_21 : n_7 ≤ 24 := b_21
    replace b_22 : n_8 ≤ 24 := b_22
    replace b_23 : il ≤ 700 := b_23
    replace b_24 : nx ≤ 701 := b_24
    have h_6 : Φl1 x = some (o_ 14 [.int v_16, .ref (x + 1), .ref (x + 2), .int v_17, .int v_18, .int (nI n_5), .int v_19, .int v_20, .ref (x + 3), .ref (x + 4), .int v_21, .long v_22, .ref (x + 5), .int (nI fl), .int v_23, .long v_24, .long v_25, .long v_26, .long v_27, .ref (x + 6), .ref (x + 7), .int (nI pe), .ref (x + 8), .int (nI le), .ref (x + 9), .ref (x + 10), .int (nI qu), .ref (x + 11), .ref (x + 12), .ref (x + 13), .ref (x + 14), .ref (x + 15), .ref (x + 16), .int (nI n_6), .long v_28, .ref (x + 17), .ref (x + 18), .ref (x + 19), .ref (x + 20), .ref (x + 21), .ref (x + 22), .int (nI n_7), .ref (x + 23), .ref (x + 24), .int (nI n_8), .ref (x + 25), .int (nI il), .int (nI nx), .int ec, .int v_29, .int kn, .int v_30, .int nu, .long va]) := h_5
    refine z_get (ref := "FlowExporterModel") (C := RX12) (T := TX12) (N := 54) (ci := 14) (v := .ref (x + 12)) B (by decide +kernel) rfl 28 (by decide) (by decide +kernel) rfl h_6 rfl dX12_startCollector_8 ?_
    refine z_iload_n B dX12_startCollector_11 rfl 0 rfl ?_
    refine z_iconst (v := 0) B dX12_startCollector_12 rfl ?_
    obtain ⟨f_1, h_7, r_1⟩ := imk (k := 12) hI1
    replace r_1 : Rw 9 f_1 := r_1
    have h_8 : Φl1 (x + 12) = some (ai_ G 4 f_1) := h_7
    refine z_iast B h_8 (Nat.le_trans hx (Nat.le_add_right x 12)) (vp_in_nI (by omega) (by omega)) dX12_startCollector_13 (fun Φ3 hΦ3 => ?_)
    have h_9 : Φ3 (x + 12) = some (ai_ G 4 (upd f_1 (nI i_1).toNatClampNeg 0)) := fset_at hΦ3
    have hI4 : Im G x (rd, NN, fl, pe, le, nx, il, qu, kn, ec, nu, va) Φ3 := Im.put (k := 12) hI1 hΦ3 ⟨_, rfl, Rw.up (n := 0) r_1 (show 0 ≤ 9 by omega)⟩
    refine z_iinc (k := 0) (v := nI (i_1 + 1)) (lv' := [(1, .int (nI (i_1 + 1))), (0, .ref x)]) B dX12_startCollector_14 rfl (nI_add i_1 1) (Nat.le_of_ble_eq_true rfl) rfl ?_
    refine z_goto (tgt := 2) B dX12_startCollector_17 rfl ?_
    refine z_lv [0, 1] rfl ?_
    exact ih1 (i_1 + 1) Φ3 (show 4 - (i_1 + 1) < 4 - i_1 by omega) ⟨hI4, (fun b9 h9 => ((fset_fr hΦ3 (fun h8 => h9 (12) h8 (show 12 = 0 ∨ 12 = 12 by omega))).trans ((hF1 b9 (fun j9 h8 h7 => h9 j9 h8 (show j9 = 0 ∨ j9 = 12 by have h6 : j9 = 0 ∨ j9 = 12 := h7; omega))).trans rfl))), (show (i_1 + 1) ≤ 4 by omega), trivial⟩

set_option maxHeartbeats 4000000 in
set_option maxRecDepth 100000 in
theorem r_restartExporter (G : EnvG) (l : Launch) (Φ : Hm) (sz x : Nat) (rd : (Nat → Int32) → Prop) (fl : Nat) (pe : Nat) (le : Nat) (nx : Nat) (il : Nat) (qu : Nat) (kn : Int32) (ec : Int32) (nu : Int32) (va : Int64)  (hx : G.2.2.2 ≤ x) (hI : Im G x (rd, NN, fl, pe, le, nx, il, qu, kn, ec, nu, va) Φ)  : Ct G l yX12_restartExporter wsX12_restartExporter ({ frames := 1, cells := 0, slots := 0, locals := 21 }) 0 0 [.ref x] Φ sz (fun v Φ1 sz1 => (∃ r9 : Int32, v = some (.int r9)) ∧ sz1 = sz ∧ (Im G x (rd, NN, 0, 0, le, nx, il, qu, kn, ec, nu, va) Φ1) ∧ Fr x (fun j9 => j9 = 0 ∨ j9 = 3) Φ Φ1) := by
  refine Ct.of (cc := cX12_restartExporter) (maxL := 2) (ret := (some .int)) (by decide) rfl (Nat.le_of_ble_eq_true rfl) ?_
  intro p9 e9 s9 m9 w9 t9 k9 B
  show Z p9 l e9 _ s9 m9 _ w9 t9 k9 _ G 2 0 [(0, .ref x)] [] Φ sz 0 0
  refine z_aload_n B dX12_restartExporter_0 rfl 0 rfl ?_
  refine z_iconst (v := 0) B dX12_restartExporter_1 rfl ?_
  obtain ⟨v_1, v_2, v_3, n_1, v_4, v_5, v_6, v_7, v_8, v_9, v_10, v_11, v_12, n_2, v_13, n_3, n_4, v_14, v_15, h_1, b_12, b_1, b_2, b_3, b_4, b_5, b_6, b_7, b_8, b_9, b_10, b_11⟩ := im0 hI
  replace b_1 : 1 ≤ n_1 := b_1
  replace b_2 : n_1 ≤ 1024 := b_2
  replace b_3 : fl ≤ 12 := b_3
  replace b_4 : pe ≤ 24 := b_4
  replace b_5 : le ≤ 700 := b_5
  replace b_6 : qu ≤ 12 := b_6
  replace b_7 : n_2 ≤ 8 := b_7
  replace b_8 : n_3 ≤ 24 := b_8
  replace b_9 : n_4 ≤ 24 := b_9
  replace b_10 : il ≤ 700 := b_10
  replace b_11 : nx ≤ 701 := b_11
  have h_2 : Φ x = some (o_ 14 [.int v_1, .ref (x + 1), .ref (x + 2), .int v_2, .int v_3, .int (nI n_1), .int v_4, .int v_5, .ref (x + 3), .ref (x + 4), .int v_6, .long v_7, .ref (x + 5), .int (nI fl), .int v_8, .long v_9, .long v_10, .long v_11, .long v_12, .ref (x + 6), .ref (x + 7), .int (nI pe), .ref (x + 8), .int (nI le), .ref (x + 9), .ref (x + 10), .int (nI qu), .ref (x + 11), .ref (x + 12), .ref (x + 13), .ref (x + 14), .ref (x + 15), .ref (x + 16), .int (nI n_2), .long v_13, .ref (x + 17), .ref (x + 18), .ref (x + 19), .ref (x + 20), .ref (x + 21), .ref (x + 22), .int (nI n_3), .ref (x + 23), .ref (x + 24), .int (nI n_4), .ref (x + 25), .int (nI il), .int (nI nx), .int ec, .int v_14, .int kn, .int v_15, .int nu, .long va]) := h_1
  refine z_put (ref := "FlowExporterModel") (C := RX12) (T := TX12) (N := 54) (ci := 14) (v := .int 0) B (by decide +kernel) tyX12 tyX12_ok nmX12 rfl 0 (by decide) (by decide +kernel) rfl (Or.inl rfl) h_2 hx rfl rfl (Nat.le_of_ble_eq_true rfl) dX12_restartExporter_2 (fun Φ1 hΦ1 => ?_)
  have h_3 : Φ1 x = some (o_ 14 [.int 0, .ref (x + 1), .ref (x + 2), .int v_2, .int v_3, .int (nI n_1), .int v_4, .int v_5, .ref (x + 3), .ref (x + 4), .int v_6, .long v_7, .ref (x + 5), .int (nI fl), .int v_8, .long v_9, .long v_10, .long v_11, .long v_12, .ref (x + 6), .ref (x + 7), .int (nI pe), .ref (x + 8), .int (nI le), .ref (x + 9), .ref (x + 10), .int (nI qu), .ref (x + 11), .ref (x + 12), .ref (x + 13), .ref (x + 14), .ref (x + 15), .ref (x + 16), .int (nI n_2), .long v_13, .ref (x + 17), .ref (x + 18), .ref (x + 19), .ref (x + 20), .ref (x + 21), .ref (x + 22), .int (nI n_3), .ref (x + 23), .ref (x + 24), .int (nI n_4), .ref (x + 25), .int (nI il), .int (nI nx), .int ec, .int v_14, .int kn, .int v_15, .int nu, .long va]) := fset_at hΦ1
  have hI1 : Im G x (rd, NN, fl, pe, le, nx, il, qu, kn, ec, nu, va) Φ1 := Im.put0 hI hΦ1 ⟨0, v_2, v_3, n_1, v_4, v_5, v_6, v_7, v_8, v_9, v_10, v_11, v_12, n_2, v_13, n_3, n_4, v_14, v_15, rfl, b_12, (show 1 ≤ n_1 by omega), (show n_1 ≤ 1024 by omega), (show fl ≤ 12 by omega), (show pe ≤ 24 by omega), (show le ≤ 700 by omega), (show qu ≤ 12 by omega), (show n_2 ≤ 8 by omega), (show n_3 ≤ 24 by omega), (show n_4 ≤ 24 by omega), (show il ≤ 700 by omega), (show nx ≤ 701 by omega)⟩
  refine z_aload_n B dX12_restartExporter_5 rfl 0 rfl ?_
  refine z_get (ref := "FlowExporterModel") (C := RX12) (T := TX12) (N := 54) (ci := 14) (v := .int (nI fl)) B (by decide +kernel) rfl 13 (by decide) (by decide +kernel) rfl h_3 rfl dX12_restartExporter_6 ?_
  refine z_istore_n (lv' := [(1, .int (nI fl)), (0, .ref x)]) B dX12_restartExporter_9 rfl (Nat.le_of_ble_eq_true rfl) rfl ?_
  refine z_aload_n B dX12_restartExporter_10 rfl 1 rfl ?_
  refine z_callV (As := []) (rest := []) B (r_startExporter G l Φ1 sz x rd fl pe le nx il qu kn ec nu va  hx hI1 ) (cwV 0 B.1.2.2.2.2 gX12_restartExporter_X12_startExporter rfl rfl rfl (by decide +kernel) ⟨Nat.le_of_ble_eq_true rfl, Nat.le_of_ble_eq_true rfl⟩) h_3 rfl rfl rfl rfl (Nat.le_of_ble_eq_true rfl) dX12_restartExporter_11 ⟨Nat.le_of_ble_eq_true rfl, Nat.le_of_ble_eq_true rfl⟩ (fun r_1 Φ2 sz1 st1 hp1 hs1 => ?_)
  obtain ⟨rfl, hq1, hI2, hF1⟩ := hp1
  subst sz1
  replace hs1 : st1 = [] := hs1
  subst st1
  replace hI2 : Im G x (rd, NN, 0, 0, le, nx, il, qu, kn, ec, nu, va) Φ2 := hI2
  refine z_iload_n B dX12_restartExporter_14 rfl 0 rfl ?_
  exact z_ret_i B dX12_restartExporter_15 ⟨⟨_, rfl⟩, rfl, hI2, (fun b9 h9 => ((hF1 b9 (fun j9 h8 h7 => h9 j9 h8 (show j9 = 0 ∨ j9 = 3 by have h6 : j9 = 0 ∨ j9 = 3 := h7; omega))).trans ((fset_fr hΦ1 (fun h8 => h9 (0) h8 (show 0 = 0 ∨ 0 = 3 by omega))).trans rfl)))⟩

section ZP
variable {p : Program} {l : Launch} {e : Env} {R : Room} {s : State} {m : MethodId} {args : Array Value} {below : List Frame} {meth : Method} {c : Code} {Q : State → Prop} {G : EnvG} {nL pc : Nat} {lv : List (Nat × Value)} {rest : List Value} {Φ : Hm} {sz cells slots : Nat}
variable {cc : ByteArray} {own : String} {ws : List Cond} {ret : Option FieldType} {nm : String}
theorem z_fbits (B : Bd p s m args meth c G cc nL own ws ret nm) {index : Nat} {q : UInt32} (h1 : Cond.methodLink own index ⟨"java/lang/Float", "floatToRawIntBits", "(F)I"⟩ ∈ ws) (h2 : Cond.native ⟨"java/lang/Float", "floatToRawIntBits", "(F)I"⟩ ∈ ws) (h3 : Cond.static ⟨"java/lang/Float", "floatToRawIntBits", "(F)I"⟩ ∈ ws) (h4 : Cond.initialized "java/lang/Float" ∈ ws) (hR : 1 ≤ R.frames ∧ (rest.map fun v => v.category).sum + 15 ≤ R.locals) (hdg : decode cc pc = .ok (.invokestatic index, 3)) (kk : Z p l e R s m args below meth c Q G nL (pc + 3) lv (.int q.toInt32 :: rest) Φ sz cells slots) : Z p l e R s m args below meth c Q G nL pc lv (.float q :: rest) Φ sz cells slots := by
  intro H locs ls hl hP hS
  exact vn_f2i B.1.1 B.1.2.1 (by rw [B.1.2.2.1]; exact hl.1.symm) B.1.2.2.2.1 (B.1.2.2.2.2 _ h1) (B.1.2.2.2.2 _ h2) (B.1.2.2.2.2 _ h3) (B.1.2.2.2.2 _ h4) hR.1 hR.2 hdg (kk H locs ls hl hP hS)
theorem z_dbits (B : Bd p s m args meth c G cc nL own ws ret nm) {index : Nat} {q : UInt64} (h1 : Cond.methodLink own index ⟨"java/lang/Double", "doubleToRawLongBits", "(D)J"⟩ ∈ ws) (h2 : Cond.native ⟨"java/lang/Double", "doubleToRawLongBits", "(D)J"⟩ ∈ ws) (h3 : Cond.static ⟨"java/lang/Double", "doubleToRawLongBits", "(D)J"⟩ ∈ ws) (h4 : Cond.initialized "java/lang/Double" ∈ ws) (hR : 1 ≤ R.frames ∧ (rest.map fun v => v.category).sum + 15 ≤ R.locals) (hdg : decode cc pc = .ok (.invokestatic index, 3)) (kk : Z p l e R s m args below meth c Q G nL (pc + 3) lv (.long q.toInt64 :: rest) Φ sz cells slots) : Z p l e R s m args below meth c Q G nL pc lv (.double q :: rest) Φ sz cells slots := by
  intro H locs ls hl hP hS
  exact vn_d2l B.1.1 B.1.2.1 (by rw [B.1.2.2.1]; exact hl.1.symm) B.1.2.2.2.1 (B.1.2.2.2.2 _ h1) (B.1.2.2.2.2 _ h2) (B.1.2.2.2.2 _ h3) (B.1.2.2.2.2 _ h4) hR.1 hR.2 hdg (kk H locs ls hl hP hS)
theorem z_bitsd (B : Bd p s m args meth c G cc nL own ws ret nm) {index : Nat} {q : Int64} (hv : vn_snl2d q = false) (h1 : Cond.methodLink own index ⟨"java/lang/Double", "longBitsToDouble", "(J)D"⟩ ∈ ws) (h2 : Cond.native ⟨"java/lang/Double", "longBitsToDouble", "(J)D"⟩ ∈ ws) (h3 : Cond.static ⟨"java/lang/Double", "longBitsToDouble", "(J)D"⟩ ∈ ws) (h4 : Cond.initialized "java/lang/Double" ∈ ws) (hR : 1 ≤ R.frames ∧ (rest.map fun v => v.category).sum + 15 ≤ R.locals) (hdg : decode cc pc = .ok (.invokestatic index, 3)) (kk : Z p l e R s m args below meth c Q G nL (pc + 3) lv (.double q.toUInt64 :: rest) Φ sz cells slots) : Z p l e R s m args below meth c Q G nL pc lv (.long q :: rest) Φ sz cells slots := by
  intro H locs ls hl hP hS
  exact vn_l2d B.1.1 B.1.2.1 (by rw [B.1.2.2.1]; exact hl.1.symm) B.1.2.2.2.1 (B.1.2.2.2.2 _ h1) (B.1.2.2.2.2 _ h2) (B.1.2.2.2.2 _ h3) (B.1.2.2.2.2 _ h4) hv hR.1 hR.2 hdg (kk H locs ls hl hP hS)
end ZP
theorem Ct.ofF {G : EnvG} {l : Launch} {y : MethodName} {ws ws' : List Cond} {rm : Room} {mc ms : Nat} {av : List Value} {Φ : Hm} {sz : Nat} {P : Option Value → Hm → Nat → Prop} {cc : ByteArray} {maxL : Nat} {ret : Option FieldType} (hy : plainFor y = true) (hw : ws = Cond.code y cc maxL ret :: ws') (hlen : (lg_sl av).length ≤ maxL)
    (body : ∀ (p : Program) (e : Env) (s : State) (m : MethodId) (below : List Frame) (meth : Method) (c : Code), Bd p s m av.toArray meth c G cc maxL y.cls ws ret y.name → Z p l e rm s m av.toArray below meth c (MQ below (QU G P) av.toArray s mc ms (fun q => G.2.2.2 ≤ q)) G maxL 0 (lv_args 0 av) [] Φ sz 0 0) : Ct G l y ws rm mc ms av Φ sz P := by
  refine va_MetF (cc := cc) (maxL := maxL) (ret := ret) hy hw ?_
  intro p e s m args below meth c s₁ B hml hv
  obtain ⟨rfl, hP, hK, hS, hn⟩ := hv
  have hl := lv_entry av hlen
  rw [lg_entry_eq]
  refine body p e s m below meth c ⟨⟨B.exec, B.bytes, hml, findClass_of_methodNamed B.named, atoms_spec (ws := ws) B.pre⟩, B.returns, B.notSynchronized, (name_of_methodNamed B.named B.method).1, hK, hS, by rw [hP.1]; exact hn⟩ s.heap [] _ hl hP va_S.rf
theorem c_J_isNaN (G : EnvG) (l : Launch) (Φ : Hm) (sz : Nat) (q : UInt32) (P : Option Value → Hm → Nat → Prop) (hP : ∀ r : Int32, P (some (.int r)) Φ sz) : Ct G l yJxf58ca_isNaN_12338 wsJxf58ca_isNaN_12338 ({ frames := 0, cells := 0, slots := 0, locals := 0 }) 0 0 [.float q] Φ sz P := by
  refine Ct.ofF (cc := cJxf58ca_isNaN_12338) (maxL := 1) (ret := (some .boolean)) (by decide +kernel) rfl (Nat.le_of_ble_eq_true rfl) ?_
  intro p9 e9 s9 m9 w9 t9 k9 B
  show Z p9 l e9 _ s9 m9 _ w9 t9 k9 _ G 1 0 [(0, .float q)] [] Φ (sz) 0 0
  refine z_fload_n B dJxf58ca_isNaN_12338_0 rfl 0 rfl ?_
  refine z_fload_n B dJxf58ca_isNaN_12338_1 rfl 0 rfl ?_
  refine z_fcmp B dJxf58ca_isNaN_12338_2 ?_
  refine z_if_eq (tgt := 10) B dJxf58ca_isNaN_12338_3 rfl (fun c_1 => ?_) (fun c_1 => ?_)
  · refine z_iconst (v := 0) B dJxf58ca_isNaN_12338_10 rfl ?_
    exact z_ret_z B dJxf58ca_isNaN_12338_11 (by decide) (hP _)
  · refine z_iconst (v := 1) B dJxf58ca_isNaN_12338_6 rfl ?_
    refine z_goto (tgt := 11) B dJxf58ca_isNaN_12338_7 rfl ?_
    exact z_ret_z B dJxf58ca_isNaN_12338_11 (by decide) (hP _)
theorem c_J_f2i (G : EnvG) (l : Launch) (Φ : Hm) (sz : Nat) (q : UInt32) (P : Option Value → Hm → Nat → Prop) (hP : ∀ r : Int32, P (some (.int r)) Φ sz) : Ct G l yJxf58ca_floatToIntBits_5c35a wsJxf58ca_floatToIntBits_5c35a ({ frames := 1, cells := 0, slots := 0, locals := 20 }) 0 0 [.float q] Φ sz P := by
  refine Ct.ofF (cc := cJxf58ca_floatToIntBits_5c35a) (maxL := 1) (ret := (some .int)) (by decide +kernel) rfl (Nat.le_of_ble_eq_true rfl) ?_
  intro p9 e9 s9 m9 w9 t9 k9 B
  show Z p9 l e9 _ s9 m9 _ w9 t9 k9 _ G 1 0 [(0, .float q)] [] Φ (sz) 0 0
  refine z_fload_n B dJxf58ca_floatToIntBits_5c35a_0 rfl 0 rfl ?_
  refine z_callS (As := [.float q]) (rest := []) B (c_J_isNaN G l Φ sz q (fun v Φ1 sz1 => (∃ r : Int32, v = some (.int r)) ∧ Φ1 = Φ ∧ sz1 = sz) (fun r => ⟨⟨r, rfl⟩, rfl, rfl⟩)) (va_cwS 1 B.1.2.2.2.2 gJxf58ca_floatToIntBits_5c35a_Jxf58ca_isNaN_12338 rfl rfl rfl (by decide +kernel) ⟨Nat.le_of_ble_eq_true rfl, Nat.le_of_ble_eq_true rfl⟩) rfl rfl (Nat.le_of_ble_eq_true rfl) dJxf58ca_floatToIntBits_5c35a_1 ⟨Nat.le_of_ble_eq_true rfl, Nat.le_of_ble_eq_true rfl⟩ (fun v1 Φ1 sz1 st1 hp1 hs1 => ?_)
  obtain ⟨⟨r, rfl⟩, h2, h3⟩ := hp1
  subst h2
  subst h3
  subst hs1
  refine z_if_ne (tgt := 12) B dJxf58ca_floatToIntBits_5c35a_4 rfl (fun c_1 => ?_) (fun c_1 => ?_)
  · refine z_ldc (v := 2143289344) B (by decide +kernel) dJxf58ca_floatToIntBits_5c35a_12 ?_
    exact z_ret_i B dJxf58ca_floatToIntBits_5c35a_14 (hP _)
  · refine z_fload_n B dJxf58ca_floatToIntBits_5c35a_7 rfl 0 rfl ?_
    refine z_fbits B (by decide +kernel) (by decide +kernel) (by decide +kernel) (by decide +kernel) ⟨Nat.le_of_ble_eq_true rfl, Nat.le_of_ble_eq_true rfl⟩ dJxf58ca_floatToIntBits_5c35a_8 ?_
    exact z_ret_i B dJxf58ca_floatToIntBits_5c35a_11 (hP _)
theorem i2f_nn {a : Int32} (h : ¬ a = 0) : nn32 (Jvm.FP.Core.i2f a) := by
  have hw := i2f_w h
  intro e
  rw [e] at hw
  exact hw

theorem m8_lt {j : Nat} (hj : j < 1000) : (nI (8 * j) - 8 < 0 → j = 0) ∧ (¬ nI (8 * j) - 8 < 0 → 1 ≤ j) := by
  by_cases h : j = 0
  · subst h
    exact ⟨fun _ => rfl, fun q => absurd (show nI (8 * 0) - 8 < 0 by decide) q⟩
  · have e : nI (8 * j) - 8 = nI (8 * j - 8) := by
      show nI (8 * j) - nI 8 = nI (8 * j - 8)
      exact nI_sub (by omega)
    refine ⟨fun q => ?_, fun _ => by omega⟩
    rw [e] at q
    exact absurd q (nI_pos (by omega))
theorem m8_dec {j : Nat} (h : 1 ≤ j) : nI (8 * j) - 8 + (-8) = nI (8 * (j - 1)) - 8 := by
  have e : nI (8 * j) - 8 = nI (8 * (j - 1)) := by
    show nI (8 * j) - nI 8 = nI (8 * (j - 1))
    rw [nI_sub (by omega)]
    exact congrArg nI (by omega)
  rw [e]
  exact (Int32.sub_eq_add_neg _ _).symm
theorem lsm_s {f : Nat → Int32} {b q n : Nat} (h : f (b + q) = nI n) (hn : n < 2 ^ 31) : lsm f b (q + 1) = lsm f b q + lnN n := by
  show lsm f b q + lnN (f (b + q)).toNatClampNeg = _
  rw [h, nI_clamp hn]
theorem toL {n : Nat} (h : n < 2 ^ 31) : (nI n).toInt64 = Int64.ofNat n := by
  apply Int64.toInt_inj.mp
  rw [natL h, Int64.toInt_ofNat_of_lt (by omega)]
theorem ofL {n : Nat} (h : n < 2 ^ 31) : (Int64.ofNat n).toInt32 = nI n := by
  rw [← toL h]
  exact Int32.toInt32_toInt64 _
theorem CC.up {f : Nat → Int64} {i : Nat} {v : Int64} (h : CC f) (hi : i % 8 ≠ 3) : CC (vp_updL f i v) := by
  intro j hj
  obtain ⟨n, h1, h2⟩ := h j hj
  refine ⟨n, h1, ?_⟩
  show (if 8 * j + 3 = i then v else f (8 * j + 3)) = _
  rw [if_neg (by omega)]
  exact h2
theorem CC.up3 {f : Nat → Int64} {i n : Nat} {v : Int64} (h : CC f) (hn : n ≤ 255) (hv : v = Int64.ofNat n) : CC (vp_updL f i v) := by
  intro j hj
  show ∃ n : Nat, n ≤ 255 ∧ (if 8 * j + 3 = i then v else f (8 * j + 3)) = _
  by_cases e : 8 * j + 3 = i
  · rw [if_pos e]
    exact ⟨n, hn, hv⟩
  · rw [if_neg e]
    exact h j hj
theorem CC.sh {f : Nat → Int64} {i k : Nat} (h : CC f) (hk : k = i + 8) (hi : i + 8 < 96) : CC (vp_updL f i (f k)) := by
  subst hk
  intro j hj
  show ∃ n : Nat, n ≤ 255 ∧ (if 8 * j + 3 = i then f (i + 8) else f (8 * j + 3)) = _
  by_cases e : 8 * j + 3 = i
  · rw [if_pos e]
    have q := h (j + 1) (by omega)
    rw [show 8 * (j + 1) + 3 = i + 8 by omega] at q
    exact q
  · rw [if_neg e]
    exact h j hj
/-- a key lies in the cache -/
def rK (f : Nat → Int64) (n : Nat) (a b d g : Int32) : Prop := f (8 * n) = a.toInt64 ∧ f (8 * n + 1) = b.toInt64 ∧ f (8 * n + 2) = d.toInt64 ∧ f (8 * n + 3) = g.toInt64
def InC (f : Nat → Int64) (fl : Nat) (a b d g : Int32) : Prop := ∃ n, n < fl ∧ rK f n a b d g
theorem rK.up {f : Nat → Int64} {n i : Nat} {v : Int64} {a b d g : Int32} (h : rK f n a b d g) (hi : 4 ≤ i % 8 ∨ i / 8 ≠ n) : rK (vp_updL f i v) n a b d g := by
  obtain ⟨h1, h2, h3, h4⟩ := h
  refine ⟨?_, ?_, ?_, ?_⟩
  · show (if 8 * n = i then v else f (8 * n)) = _
    rw [if_neg (by omega)]; exact h1
  · show (if 8 * n + 1 = i then v else f (8 * n + 1)) = _
    rw [if_neg (by omega)]; exact h2
  · show (if 8 * n + 2 = i then v else f (8 * n + 2)) = _
    rw [if_neg (by omega)]; exact h3
  · show (if 8 * n + 3 = i then v else f (8 * n + 3)) = _
    rw [if_neg (by omega)]; exact h4
theorem rK.new {f : Nat → Int64} {n i0 i1 i2 i3 : Nat} {a b d g : Int32} (h0 : i0 = 8 * n) (h1 : i1 = 8 * n + 1) (h2 : i2 = 8 * n + 2) (h3 : i3 = 8 * n + 3) : rK (vp_updL (vp_updL (vp_updL (vp_updL f i0 a.toInt64) i1 b.toInt64) i2 d.toInt64) i3 g.toInt64) n a b d g := by
  subst h0 h1 h2 h3
  refine ⟨?_, ?_, ?_, ?_⟩
  · show (if 8 * n = 8 * n + 3 then _ else if 8 * n = 8 * n + 2 then _ else if 8 * n = 8 * n + 1 then _ else if 8 * n = 8 * n then _ else _) = _
    rw [if_neg (by omega), if_neg (by omega), if_neg (by omega), if_pos rfl]
  · show (if 8 * n + 1 = 8 * n + 3 then _ else if 8 * n + 1 = 8 * n + 2 then _ else if 8 * n + 1 = 8 * n + 1 then _ else _) = _
    rw [if_neg (by omega), if_neg (by omega), if_pos rfl]
  · show (if 8 * n + 2 = 8 * n + 3 then _ else if 8 * n + 2 = 8 * n + 2 then _ else _) = _
    rw [if_neg (by omega), if_pos rfl]
  · show (if 8 * n + 3 = 8 * n + 3 then _ else _) = _
    rw [if_pos rfl]
theorem lcmp_eq {x y : Int64} (h : lg_cmp x y = 0) : x = y := (lg_cmp_eq x y).mp h

set_option maxHeartbeats 4000000 in
set_option maxRecDepth 100000 in
theorem r_rateBits (G : EnvG) (l : Launch) (Φ : Hm) (sz x : Nat) (rd : (Nat → Int32) → Prop) (fl : Nat) (pe : Nat) (le : Nat) (nx : Nat) (il : Nat) (qu : Nat) (kn : Int32) (ec : Int32) (nu : Int32) (va : Int64)  (hx : G.2.2.2 ≤ x) (hI : Im G x (rd, NN, fl, pe, le, nx, il, qu, kn, ec, nu, va) Φ)  : Ct G l yX12_rateBits wsX12_rateBits ({ frames := 2, cells := 0, slots := 0, locals := 40 }) 0 0 [.ref x] Φ sz (fun v Φ1 sz1 => (∃ r9 : Int32, v = some (.int r9)) ∧ sz1 = sz ∧ (Im G x (rd, NN, fl, pe, le, nx, il, qu, kn, ec, nu, va) Φ1) ∧ Fr x (fun j9 => j9 = 0) Φ Φ1) := by
  refine Ct.of (cc := cX12_rateBits) (maxL := 1) (ret := (some .int)) (by decide) rfl (Nat.le_of_ble_eq_true rfl) ?_
  intro p9 e9 s9 m9 w9 t9 k9 B
  show Z p9 l e9 _ s9 m9 _ w9 t9 k9 _ G 1 0 [(0, .ref x)] [] Φ sz 0 0
  refine z_aload_n B dX12_rateBits_0 rfl 0 rfl ?_
  refine z_iconst (v := 0) B dX12_rateBits_1 rfl ?_
  obtain ⟨v_1, v_2, v_3, n_1, v_4, v_5, v_6, v_7, v_8, v_9, v_10, v_11, v_12, n_2, v_13, n_3, n_4, v_14, v_15, h_1, b_12, b_1, b_2, b_3, b_4, b_5, b_6, b_7, b_8, b_9, b_10, b_11⟩ := im0 hI
  replace b_1 : 1 ≤ n_1 := b_1
  replace b_2 : n_1 ≤ 1024 := b_2
  replace b_3 : fl ≤ 12 := b_3
  replace b_4 : pe ≤ 24 := b_4
  replace b_5 : le ≤ 700 := b_5
  replace b_6 : qu ≤ 12 := b_6
  replace b_7 : n_2 ≤ 8 := b_7
  replace b_8 : n_3 ≤ 24 := b_8
  replace b_9 : n_4 ≤ 24 := b_9
  replace b_10 : il ≤ 700 := b_10
  replace b_11 : nx ≤ 701 := b_11
  have h_2 : Φ x = some (o_ 14 [.int v_1, .ref (x + 1), .ref (x + 2), .int v_2, .int v_3, .int (nI n_1), .int v_4, .int v_5, .ref (x + 3), .ref (x + 4), .int v_6, .long v_7, .ref (x + 5), .int (nI fl), .int v_8, .long v_9, .long v_10, .long v_11, .long v_12, .ref (x + 6), .ref (x + 7), .int (nI pe), .ref (x + 8), .int (nI le), .ref (x + 9), .ref (x + 10), .int (nI qu), .ref (x + 11), .ref (x + 12), .ref (x + 13), .ref (x + 14), .ref (x + 15), .ref (x + 16), .int (nI n_2), .long v_13, .ref (x + 17), .ref (x + 18), .ref (x + 19), .ref (x + 20), .ref (x + 21), .ref (x + 22), .int (nI n_3), .ref (x + 23), .ref (x + 24), .int (nI n_4), .ref (x + 25), .int (nI il), .int (nI nx), .int ec, .int v_14, .int kn, .int v_15, .int nu, .long va]) := h_1
  refine z_put (ref := "FlowExporterModel") (C := RX12) (T := TX12) (N := 54) (ci := 14) (v := .int 0) B (by decide +kernel) tyX12 tyX12_ok nmX12 rfl 0 (by decide) (by decide +kernel) rfl (Or.inl rfl) h_2 hx rfl rfl (Nat.le_of_ble_eq_true rfl) dX12_rateBits_2 (fun Φ1 hΦ1 => ?_)
  have h_3 : Φ1 x = some (o_ 14 [.int 0, .ref (x + 1), .ref (x + 2), .int v_2, .int v_3, .int (nI n_1), .int v_4, .int v_5, .ref (x + 3), .ref (x + 4), .int v_6, .long v_7, .ref (x + 5), .int (nI fl), .int v_8, .long v_9, .long v_10, .long v_11, .long v_12, .ref (x + 6), .ref (x + 7), .int (nI pe), .ref (x + 8), .int (nI le), .ref (x + 9), .ref (x + 10), .int (nI qu), .ref (x + 11), .ref (x + 12), .ref (x + 13), .ref (x + 14), .ref (x + 15), .ref (x + 16), .int (nI n_2), .long v_13, .ref (x + 17), .ref (x + 18), .ref (x + 19), .ref (x + 20), .ref (x + 21), .ref (x + 22), .int (nI n_3), .ref (x + 23), .ref (x + 24), .int (nI n_4), .ref (x + 25), .int (nI il), .int (nI nx), .int ec, .int v_14, .int kn, .int v_15, .int nu, .long va]) := fset_at hΦ1
  have hI1 : Im G x (rd, NN, fl, pe, le, nx, il, qu, kn, ec, nu, va) Φ1 := Im.put0 hI hΦ1 ⟨0, v_2, v_3, n_1, v_4, v_5, v_6, v_7, v_8, v_9, v_10, v_11, v_12, n_2, v_13, n_3, n_4, v_14, v_15, rfl, b_12, (show 1 ≤ n_1 by omega), (show n_1 ≤ 1024 by omega), (show fl ≤ 12 by omega), (show pe ≤ 24 by omega), (show le ≤ 700 by omega), (show qu ≤ 12 by omega), (show n_2 ≤ 8 by omega), (show n_3 ≤ 24 by omega), (show n_4 ≤ 24 by omega), (show il ≤ 700 by omega), (show nx ≤ 701 by omega)⟩
  refine z_fconst1 B dX12_rateBits_5 ?_
  refine z_aload_n B dX12_rateBits_6 rfl 0 rfl ?_
  refine z_get (ref := "FlowExporterModel") (C := RX12) (T := TX12) (N := 54) (ci := 14) (v := .int (nI n_1)) B (by decide +kernel) rfl 5 (by decide) (by decide +kernel) rfl h_3 rfl dX12_rateBits_7 ?_
  refine z_i2f B dX12_rateBits_10 ?_
  refine z_fdiv B dX12_rateBits_11 (vf32_of (inv_nn (i2f_nn (fun h9 => absurd ((nI_eq (a := n_1) (b := 0) (by omega) (by omega)).mp h9) (by omega))))) ?_
  refine z_ff (fun v_16 => ?_)
  refine z_callS (As := [.float v_16]) (rest := []) B (c_J_f2i G l Φ1 sz v_16 (fun v8 Φ8 sz8 => (∃ r9 : Int32, v8 = some (.int r9)) ∧ sz8 = sz ∧ Im G x (rd, NN, fl, pe, le, nx, il, qu, kn, ec, nu, va) Φ8 ∧ Fr x (fun j9 => False) Φ1 Φ8) (fun r9 => ⟨⟨r9, rfl⟩, rfl, hI1, fun _ _ => rfl⟩)) (va_cwS 1 B.1.2.2.2.2 gX12_rateBits_Jxf58ca_floatToIntBits_5c35a rfl rfl rfl (by decide +kernel) ⟨Nat.le_of_ble_eq_true rfl, Nat.le_of_ble_eq_true rfl⟩) rfl rfl (Nat.le_of_ble_eq_true rfl) dX12_rateBits_12 ⟨Nat.le_of_ble_eq_true rfl, Nat.le_of_ble_eq_true rfl⟩ (fun r_1 Φ2 sz1 st1 hp1 hs1 => ?_)
  obtain ⟨⟨v_17, rfl⟩, hq1, hI2, hF1⟩ := hp1
  subst sz1
  replace hs1 : st1 = [.int v_17] := hs1
  subst st1
  exact z_ret_i B dX12_rateBits_15 ⟨⟨_, rfl⟩, rfl, hI2, (fun b9 h9 => ((hF1 b9 (fun j9 h8 h7 => (show False from h7).elim)).trans ((fset_fr hΦ1 (fun h8 => h9 (0) h8 (show 0 = 0 by omega))).trans rfl)))⟩

set_option maxHeartbeats 4000000 in
set_option maxRecDepth 100000 in
theorem r_contentOf (G : EnvG) (l : Launch) (Φ : Hm) (sz x : Nat) (rd : (Nat → Int32) → Prop) (fl : Nat) (pe : Nat) (le : Nat) (nx : Nat) (il : Nat) (qu : Nat) (kn : Int32) (ec : Int32) (nu : Int32) (va : Int64) (f : Nat) (d : Nat) (hx : G.2.2.2 ≤ x) (hI : Im G x (rd, NN, fl, pe, le, nx, il, qu, kn, ec, nu, va) Φ) (hf : f < 12) (hd : d ≤ 8) : Ct G l yX12_contentOf wsX12_contentOf ({ frames := 2, cells := 0, slots := 0, locals := 40 }) 0 0 [.ref x, .int (nI f), .int (nI d)] Φ sz (fun v Φ1 sz1 => (∃ r9 : Int64, v = some (.long r9)) ∧ sz1 = sz ∧ (Im G x (rd, NN, fl, pe, le, nx, il, qu, kn, ec, nu, va) Φ1) ∧ Fr x (fun j9 => False) Φ Φ1) := by
  refine Ct.of (cc := cX12_contentOf) (maxL := 3) (ret := (some .long)) (by decide) rfl (Nat.le_of_ble_eq_true rfl) ?_
  intro p9 e9 s9 m9 w9 t9 k9 B
  show Z p9 l e9 _ s9 m9 _ w9 t9 k9 _ G 3 0 [(0, .ref x), (1, .int (nI f)), (2, .int (nI d))] [] Φ sz 0 0
  refine z_iload_n B dX12_contentOf_0 rfl 2 rfl ?_
  refine z_bipush (v := 8) B dX12_contentOf_1 rfl ?_
  refine z_icmp_ne (tgt := 20) B dX12_contentOf_3 rfl (fun c_1 => ?_) (fun c_1 => ?_)
  · have e_1 : ¬ (d = 8) := fun h9 => c_1 ((nI_eq (a := d) (b := 8) (by omega) (by omega)).mpr h9)
    refine z_aload_n B dX12_contentOf_20 rfl 0 rfl ?_
    obtain ⟨v_1, v_2, v_3, n_1, v_4, v_5, v_6, v_7, v_8, v_9, v_10, v_11, v_12, n_2, v_13, n_3, n_4, v_14, v_15, h_1, b_12, b_1, b_2, b_3, b_4, b_5, b_6, b_7, b_8, b_9, b_10, b_11⟩ := im0 hI
    replace b_1 : 1 ≤ n_1 := b_1
    replace b_2 : n_1 ≤ 1024 := b_2
    replace b_3 : fl ≤ 12 := b_3
    replace b_4 : pe ≤ 24 := b_4
    replace b_5 : le ≤ 700 := b_5
    replace b_6 : qu ≤ 12 := b_6
    replace b_7 : n_2 ≤ 8 := b_7
    replace b_8 : n_3 ≤ 24 := b_8
    replace b_9 : n_4 ≤ 24 := b_9
    replace b_10 : il ≤ 700 := b_10
    replace b_11 : nx ≤ 701 := b_11
    have h_2 : Φ x = some (o_ 14 [.int v_1, .ref (x + 1), .ref (x + 2), .int v_2, .int v_3, .int (nI n_1), .int v_4, .int v_5, .ref (x + 3), .ref (x + 4), .int v_6, .long v_7, .ref (x + 5), .int (nI fl), .int v_8, .long v_9, .long v_10, .long v_11, .long v_12, .ref (x + 6), .ref (x + 7), .int (nI pe), .ref (x + 8), .int (nI le), .ref (x + 9), .ref (x + 10), .int (nI qu), .ref (x + 11), .ref (x + 12), .ref (x + 13), .ref (x + 14), .ref (x + 15), .ref (x + 16), .int (nI n_2), .long v_13, .ref (x + 17), .ref (x + 18), .ref (x + 19), .ref (x + 20), .ref (x + 21), .ref (x + 22), .int (nI n_3), .ref (x + 23), .ref (x + 24), .int (nI n_4), .ref (x + 25), .int (nI il), .int (nI nx), .int ec, .int v_14, .int kn, .int v_15, .int nu, .long va]) := h_1
    refine z_get (ref := "FlowExporterModel") (C := RX12) (T := TX12) (N := 54) (ci := 14) (v := .ref (x + 5)) B (by decide +kernel) rfl 12 (by decide) (by decide +kernel) rfl h_2 rfl dX12_contentOf_21 ?_
    refine z_bipush (v := 8) B dX12_contentOf_24 rfl ?_
    refine z_iload_n B dX12_contentOf_26 rfl 1 rfl ?_
    refine z_imul B dX12_contentOf_27 ?_
    refine z_top (st1 := [.int (nI (8 * f)), .ref (x + 5)]) (congrArg (fun w9 : Int32 => ([.int w9, .ref (x + 5)] : List Value)) (nI_mul 8 f)) ?_
    refine z_iload_n B dX12_contentOf_28 rfl 2 rfl ?_
    refine z_iadd B dX12_contentOf_29 ?_
    refine z_top (st1 := [.int (nI (8 * f + d)), .ref (x + 5)]) (congrArg (fun w9 : Int32 => ([.int w9, .ref (x + 5)] : List Value)) (nI_add (8 * f) d)) ?_
    obtain ⟨f_1, h_3, r_1⟩ := imk (k := 5) hI
    replace r_1 : CC f_1 := r_1
    have h_4 : Φ (x + 5) = some (al_ G 96 f_1) := h_3
    refine z_lald B h_4 (vp_in_nI (by omega) (by omega)) dX12_contentOf_30 ?_
    refine z_fl (fun v_16 => ?_)
    exact z_ret_l B dX12_contentOf_31 ⟨⟨_, rfl⟩, rfl, hI, (fun b9 h9 => rfl)⟩
  · have e_2 : d = 8 := (nI_eq (a := d) (b := 8) (by omega) (by omega)).mp c_1
    refine z_fconst1 B dX12_contentOf_6 ?_
    refine z_aload_n B dX12_contentOf_7 rfl 0 rfl ?_
    obtain ⟨v_17, v_18, v_19, n_5, v_20, v_21, v_22, v_23, v_24, v_25, v_26, v_27, v_28, n_6, v_29, n_7, n_8, v_30, v_31, h_5, b_24, b_13, b_14, b_15, b_16, b_17, b_18, b_19, b_20, b_21, b_22, b_23⟩ := im0 hI
    replace b_13 : 1 ≤ n_5 := b_13
    replace b_14 : n_5 ≤ 1024 := b_14
    replace b_15 : fl ≤ 12 := b_15
    replace b_16 : pe ≤ 24 := b_16
    replace b_17 : le ≤ 700 := b_17
    replace b_18 : qu ≤ 12 := b_18
    replace b_19 : n_6 ≤ 8 := b_19
    replace b_20 : n_7 ≤ 24 := b_20
    replace b_21 : n_8 ≤ 24 := b_21
    replace b_22 : il ≤ 700 := b_22
    replace b_23 : nx ≤ 701 := b_23
    have h_6 : Φ x = some (o_ 14 [.int v_17, .ref (x + 1), .ref (x + 2), .int v_18, .int v_19, .int (nI n_5), .int v_20, .int v_21, .ref (x + 3), .ref (x + 4), .int v_22, .long v_23, .ref (x + 5), .int (nI fl), .int v_24, .long v_25, .long v_26, .long v_27, .long v_28, .ref (x + 6), .ref (x + 7), .int (nI pe), .ref (x + 8), .int (nI le), .ref (x + 9), .ref (x + 10), .int (nI qu), .ref (x + 11), .ref (x + 12), .ref (x + 13), .ref (x + 14), .ref (x + 15), .ref (x + 16), .int (nI n_6), .long v_29, .ref (x + 17), .ref (x + 18), .ref (x + 19), .ref (x + 20), .ref (x + 21), .ref (x + 22), .int (nI n_7), .ref (x + 23), .ref (x + 24), .int (nI n_8), .ref (x + 25), .int (nI il), .int (nI nx), .int ec, .int v_30, .int kn, .int v_31, .int nu, .long va]) := h_5
    refine z_get (ref := "FlowExporterModel") (C := RX12) (T := TX12) (N := 54) (ci := 14) (v := .int (nI n_5)) B (by decide +kernel) rfl 5 (by decide) (by decide +kernel) rfl h_6 rfl dX12_contentOf_8 ?_
    refine z_i2f B dX12_contentOf_11 ?_
    refine z_fdiv B dX12_contentOf_12 (vf32_of (inv_nn (i2f_nn (fun h9 => absurd ((nI_eq (a := n_5) (b := 0) (by omega) (by omega)).mp h9) (by omega))))) ?_
    refine z_ff (fun v_32 => ?_)
    refine z_callS (As := [.float v_32]) (rest := []) B (c_J_f2i G l Φ sz v_32 (fun v8 Φ8 sz8 => (∃ r9 : Int32, v8 = some (.int r9)) ∧ sz8 = sz ∧ Im G x (rd, NN, fl, pe, le, nx, il, qu, kn, ec, nu, va) Φ8 ∧ Fr x (fun j9 => False) Φ Φ8) (fun r9 => ⟨⟨r9, rfl⟩, rfl, hI, fun _ _ => rfl⟩)) (va_cwS 1 B.1.2.2.2.2 gX12_contentOf_Jxf58ca_floatToIntBits_5c35a rfl rfl rfl (by decide +kernel) ⟨Nat.le_of_ble_eq_true rfl, Nat.le_of_ble_eq_true rfl⟩) rfl rfl (Nat.le_of_ble_eq_true rfl) dX12_contentOf_13 ⟨Nat.le_of_ble_eq_true rfl, Nat.le_of_ble_eq_true rfl⟩ (fun r_2 Φ1 sz1 st1 hp1 hs1 => ?_)
    obtain ⟨⟨v_33, rfl⟩, hq1, hI1, hF1⟩ := hp1
    subst sz1
    replace hs1 : st1 = [.int v_33] := hs1
    subst st1
    refine z_i2l (v := v_33.toInt64) B dX12_contentOf_16 rfl ?_
    refine z_goto (tgt := 31) B dX12_contentOf_17 rfl ?_
    exact z_ret_l B dX12_contentOf_31 ⟨⟨_, rfl⟩, rfl, hI1, (fun b9 h9 => ((hF1 b9 (fun j9 h8 h7 => (show False from h7).elim)).trans rfl))⟩

set_option maxHeartbeats 4000000 in
set_option maxRecDepth 100000 in
theorem r_find (G : EnvG) (l : Launch) (Φ : Hm) (sz x : Nat) (rd : (Nat → Int32) → Prop) (fl : Nat) (pe : Nat) (le : Nat) (nx : Nat) (il : Nat) (qu : Nat) (kn : Int32) (ec : Int32) (nu : Int32) (va : Int64) (a : Int32) (b : Int32) (d : Int32) (f : Int32) (hx : G.2.2.2 ≤ x) (hI : Im G x (rd, NN, fl, pe, le, nx, il, qu, kn, ec, nu, va) Φ)  : Ct G l yX12_find wsX12_find ({ frames := 2, cells := 0, slots := 0, locals := 58 }) 0 0 [.ref x, .int a, .int b, .int d, .int f] Φ sz (fun v Φ1 sz1 => (∃ r9 : Int32, v = some (.int r9)) ∧ sz1 = sz ∧ (Im G x (rd, NN, fl, pe, le, nx, il, qu, kn, ec, nu, va) Φ1) ∧ Fr x (fun j9 => j9 = 0) Φ Φ1) := by
  refine Ct.of (cc := cX12_find) (maxL := 5) (ret := (some .int)) (by decide) rfl (Nat.le_of_ble_eq_true rfl) ?_
  intro p9 e9 s9 m9 w9 t9 k9 B
  show Z p9 l e9 _ s9 m9 _ w9 t9 k9 _ G 5 0 [(0, .ref x), (1, .int a), (2, .int b), (3, .int d), (4, .int f)] [] Φ sz 0 0
  refine z_aload_n B dX12_find_0 rfl 0 rfl ?_
  refine z_iconst (v := 0) B dX12_find_1 rfl ?_
  obtain ⟨v_1, v_2, v_3, n_1, v_4, v_5, v_6, v_7, v_8, v_9, v_10, v_11, v_12, n_2, v_13, n_3, n_4, v_14, v_15, h_1, b_12, b_1, b_2, b_3, b_4, b_5, b_6, b_7, b_8, b_9, b_10, b_11⟩ := im0 hI
  replace b_1 : 1 ≤ n_1 := b_1
  replace b_2 : n_1 ≤ 1024 := b_2
  replace b_3 : fl ≤ 12 := b_3
  replace b_4 : pe ≤ 24 := b_4
  replace b_5 : le ≤ 700 := b_5
  replace b_6 : qu ≤ 12 := b_6
  replace b_7 : n_2 ≤ 8 := b_7
  replace b_8 : n_3 ≤ 24 := b_8
  replace b_9 : n_4 ≤ 24 := b_9
  replace b_10 : il ≤ 700 := b_10
  replace b_11 : nx ≤ 701 := b_11
  have h_2 : Φ x = some (o_ 14 [.int v_1, .ref (x + 1), .ref (x + 2), .int v_2, .int v_3, .int (nI n_1), .int v_4, .int v_5, .ref (x + 3), .ref (x + 4), .int v_6, .long v_7, .ref (x + 5), .int (nI fl), .int v_8, .long v_9, .long v_10, .long v_11, .long v_12, .ref (x + 6), .ref (x + 7), .int (nI pe), .ref (x + 8), .int (nI le), .ref (x + 9), .ref (x + 10), .int (nI qu), .ref (x + 11), .ref (x + 12), .ref (x + 13), .ref (x + 14), .ref (x + 15), .ref (x + 16), .int (nI n_2), .long v_13, .ref (x + 17), .ref (x + 18), .ref (x + 19), .ref (x + 20), .ref (x + 21), .ref (x + 22), .int (nI n_3), .ref (x + 23), .ref (x + 24), .int (nI n_4), .ref (x + 25), .int (nI il), .int (nI nx), .int ec, .int v_14, .int kn, .int v_15, .int nu, .long va]) := h_1
  refine z_put (ref := "FlowExporterModel") (C := RX12) (T := TX12) (N := 54) (ci := 14) (v := .int 0) B (by decide +kernel) tyX12 tyX12_ok nmX12 rfl 0 (by decide) (by decide +kernel) rfl (Or.inl rfl) h_2 hx rfl rfl (Nat.le_of_ble_eq_true rfl) dX12_find_2 (fun Φ1 hΦ1 => ?_)
  have h_3 : Φ1 x = some (o_ 14 [.int 0, .ref (x + 1), .ref (x + 2), .int v_2, .int v_3, .int (nI n_1), .int v_4, .int v_5, .ref (x + 3), .ref (x + 4), .int v_6, .long v_7, .ref (x + 5), .int (nI fl), .int v_8, .long v_9, .long v_10, .long v_11, .long v_12, .ref (x + 6), .ref (x + 7), .int (nI pe), .ref (x + 8), .int (nI le), .ref (x + 9), .ref (x + 10), .int (nI qu), .ref (x + 11), .ref (x + 12), .ref (x + 13), .ref (x + 14), .ref (x + 15), .ref (x + 16), .int (nI n_2), .long v_13, .ref (x + 17), .ref (x + 18), .ref (x + 19), .ref (x + 20), .ref (x + 21), .ref (x + 22), .int (nI n_3), .ref (x + 23), .ref (x + 24), .int (nI n_4), .ref (x + 25), .int (nI il), .int (nI nx), .int ec, .int v_14, .int kn, .int v_15, .int nu, .long va]) := fset_at hΦ1
  have hI1 : Im G x (rd, NN, fl, pe, le, nx, il, qu, kn, ec, nu, va) Φ1 := Im.put0 hI hΦ1 ⟨0, v_2, v_3, n_1, v_4, v_5, v_6, v_7, v_8, v_9, v_10, v_11, v_12, n_2, v_13, n_3, n_4, v_14, v_15, rfl, b_12, (show 1 ≤ n_1 by omega), (show n_1 ≤ 1024 by omega), (show fl ≤ 12 by omega), (show pe ≤ 24 by omega), (show le ≤ 700 by omega), (show qu ≤ 12 by omega), (show n_2 ≤ 8 by omega), (show n_3 ≤ 24 by omega), (show n_4 ≤ 24 by omega), (show il ≤ 700 by omega), (show nx ≤ 701 by omega)⟩
  refine z_aload_n B dX12_find_5 rfl 0 rfl ?_
  refine z_iload_n B dX12_find_6 rfl 1 rfl ?_
  refine z_i2l (v := a.toInt64) B dX12_find_7 rfl ?_
  refine z_iload_n B dX12_find_8 rfl 2 rfl ?_
  refine z_i2l (v := b.toInt64) B dX12_find_9 rfl ?_
  refine z_iload_n B dX12_find_10 rfl 3 rfl ?_
  refine z_i2l (v := d.toInt64) B dX12_find_11 rfl ?_
  refine z_iload B dX12_find_12 4 rfl ?_
  refine z_i2l (v := f.toInt64) B dX12_find_14 rfl ?_
  refine z_callV (As := [.long a.toInt64, .long b.toInt64, .long d.toInt64, .long f.toInt64]) (rest := []) B (r_keyOf G l Φ1 sz x rd fl pe le nx il qu kn ec nu va a.toInt64 b.toInt64 d.toInt64 f.toInt64 hx hI1 ) (cwV 4 B.1.2.2.2.2 gX12_find_X12_keyOf rfl rfl rfl (by decide +kernel) ⟨Nat.le_of_ble_eq_true rfl, Nat.le_of_ble_eq_true rfl⟩) h_3 rfl rfl rfl rfl (Nat.le_of_ble_eq_true rfl) dX12_find_15 ⟨Nat.le_of_ble_eq_true rfl, Nat.le_of_ble_eq_true rfl⟩ (fun r_1 Φ2 sz1 st1 hp1 hs1 => ?_)
  obtain ⟨ha1, hq1, hI2, hF1⟩ := hp1
  subst sz1
  replace hI2 : Im G x (rd, NN, fl, pe, le, nx, il, qu, kn, ec, nu, va) Φ2 := hI2
  rcases ha1 with rfl | ⟨n_5, b_13, rfl⟩
  · replace hs1 : st1 = [.int (-1)] := hs1
    subst st1
    exact z_ret_i B dX12_find_18 ⟨⟨_, rfl⟩, rfl, hI2, (fun b9 h9 => ((hF1 b9 (fun j9 h8 h7 => (show False from h7).elim)).trans ((fset_fr hΦ1 (fun h8 => h9 (0) h8 (show 0 = 0 by omega))).trans rfl)))⟩
  · replace hs1 : st1 = [.int (nI n_5)] := hs1
    subst st1
    replace b_13 : n_5 < 24 := b_13
    exact z_ret_i B dX12_find_18 ⟨⟨_, rfl⟩, rfl, hI2, (fun b9 h9 => ((hF1 b9 (fun j9 h8 h7 => (show False from h7).elim)).trans ((fset_fr hΦ1 (fun h8 => h9 (0) h8 (show 0 = 0 by omega))).trans rfl)))⟩

set_option maxHeartbeats 4000000 in
set_option maxRecDepth 100000 in
theorem r_raw (G : EnvG) (l : Launch) (Φ : Hm) (sz x : Nat) (rd : (Nat → Int32) → Prop) (fl : Nat) (pe : Nat) (le : Nat) (nx : Nat) (il : Nat) (qu : Nat) (kn : Int32) (ec : Int32) (nu : Int32) (va : Int64) (a : Int32) (b : Int32) (hx : G.2.2.2 ≤ x) (hI : Im G x (rd, NN, fl, pe, le, nx, il, qu, kn, ec, nu, va) Φ)  : Ct G l yX12_raw wsX12_raw ({ frames := 2, cells := 0, slots := 0, locals := 46 }) 0 0 [.ref x, .int a, .int b] Φ sz (fun v Φ1 sz1 => (∃ r9 : Int64, v = some (.long r9)) ∧ sz1 = sz ∧ (Im G x (rd, NN, fl, pe, le, nx, il, qu, kn, ec, nu, va) Φ1) ∧ Fr x (fun j9 => j9 = 0) Φ Φ1) := by
  refine Ct.of (cc := cX12_raw) (maxL := 3) (ret := (some .long)) (by decide) rfl (Nat.le_of_ble_eq_true rfl) ?_
  intro p9 e9 s9 m9 w9 t9 k9 B
  show Z p9 l e9 _ s9 m9 _ w9 t9 k9 _ G 3 0 [(0, .ref x), (1, .int a), (2, .int b)] [] Φ sz 0 0
  refine z_aload_n B dX12_raw_0 rfl 0 rfl ?_
  refine z_iconst (v := 0) B dX12_raw_1 rfl ?_
  obtain ⟨v_1, v_2, v_3, n_1, v_4, v_5, v_6, v_7, v_8, v_9, v_10, v_11, v_12, n_2, v_13, n_3, n_4, v_14, v_15, h_1, b_12, b_1, b_2, b_3, b_4, b_5, b_6, b_7, b_8, b_9, b_10, b_11⟩ := im0 hI
  replace b_1 : 1 ≤ n_1 := b_1
  replace b_2 : n_1 ≤ 1024 := b_2
  replace b_3 : fl ≤ 12 := b_3
  replace b_4 : pe ≤ 24 := b_4
  replace b_5 : le ≤ 700 := b_5
  replace b_6 : qu ≤ 12 := b_6
  replace b_7 : n_2 ≤ 8 := b_7
  replace b_8 : n_3 ≤ 24 := b_8
  replace b_9 : n_4 ≤ 24 := b_9
  replace b_10 : il ≤ 700 := b_10
  replace b_11 : nx ≤ 701 := b_11
  have h_2 : Φ x = some (o_ 14 [.int v_1, .ref (x + 1), .ref (x + 2), .int v_2, .int v_3, .int (nI n_1), .int v_4, .int v_5, .ref (x + 3), .ref (x + 4), .int v_6, .long v_7, .ref (x + 5), .int (nI fl), .int v_8, .long v_9, .long v_10, .long v_11, .long v_12, .ref (x + 6), .ref (x + 7), .int (nI pe), .ref (x + 8), .int (nI le), .ref (x + 9), .ref (x + 10), .int (nI qu), .ref (x + 11), .ref (x + 12), .ref (x + 13), .ref (x + 14), .ref (x + 15), .ref (x + 16), .int (nI n_2), .long v_13, .ref (x + 17), .ref (x + 18), .ref (x + 19), .ref (x + 20), .ref (x + 21), .ref (x + 22), .int (nI n_3), .ref (x + 23), .ref (x + 24), .int (nI n_4), .ref (x + 25), .int (nI il), .int (nI nx), .int ec, .int v_14, .int kn, .int v_15, .int nu, .long va]) := h_1
  refine z_put (ref := "FlowExporterModel") (C := RX12) (T := TX12) (N := 54) (ci := 14) (v := .int 0) B (by decide +kernel) tyX12 tyX12_ok nmX12 rfl 0 (by decide) (by decide +kernel) rfl (Or.inl rfl) h_2 hx rfl rfl (Nat.le_of_ble_eq_true rfl) dX12_raw_2 (fun Φ1 hΦ1 => ?_)
  have h_3 : Φ1 x = some (o_ 14 [.int 0, .ref (x + 1), .ref (x + 2), .int v_2, .int v_3, .int (nI n_1), .int v_4, .int v_5, .ref (x + 3), .ref (x + 4), .int v_6, .long v_7, .ref (x + 5), .int (nI fl), .int v_8, .long v_9, .long v_10, .long v_11, .long v_12, .ref (x + 6), .ref (x + 7), .int (nI pe), .ref (x + 8), .int (nI le), .ref (x + 9), .ref (x + 10), .int (nI qu), .ref (x + 11), .ref (x + 12), .ref (x + 13), .ref (x + 14), .ref (x + 15), .ref (x + 16), .int (nI n_2), .long v_13, .ref (x + 17), .ref (x + 18), .ref (x + 19), .ref (x + 20), .ref (x + 21), .ref (x + 22), .int (nI n_3), .ref (x + 23), .ref (x + 24), .int (nI n_4), .ref (x + 25), .int (nI il), .int (nI nx), .int ec, .int v_14, .int kn, .int v_15, .int nu, .long va]) := fset_at hΦ1
  have hI1 : Im G x (rd, NN, fl, pe, le, nx, il, qu, kn, ec, nu, va) Φ1 := Im.put0 hI hΦ1 ⟨0, v_2, v_3, n_1, v_4, v_5, v_6, v_7, v_8, v_9, v_10, v_11, v_12, n_2, v_13, n_3, n_4, v_14, v_15, rfl, b_12, (show 1 ≤ n_1 by omega), (show n_1 ≤ 1024 by omega), (show fl ≤ 12 by omega), (show pe ≤ 24 by omega), (show le ≤ 700 by omega), (show qu ≤ 12 by omega), (show n_2 ≤ 8 by omega), (show n_3 ≤ 24 by omega), (show n_4 ≤ 24 by omega), (show il ≤ 700 by omega), (show nx ≤ 701 by omega)⟩
  refine z_aload_n B dX12_raw_5 rfl 0 rfl ?_
  refine z_aload_n B dX12_raw_6 rfl 0 rfl ?_
  refine z_iload_n B dX12_raw_7 rfl 1 rfl ?_
  refine z_callV (As := [.int a]) (rest := [.ref x]) B (r_isKey G l Φ1 sz x rd fl pe le nx il qu kn ec nu va a hx hI1 ) (cwV 1 B.1.2.2.2.2 gX12_raw_X12_isKey rfl rfl rfl (by decide +kernel) ⟨Nat.le_of_ble_eq_true rfl, Nat.le_of_ble_eq_true rfl⟩) h_3 rfl rfl rfl rfl (Nat.le_of_ble_eq_true rfl) dX12_raw_8 ⟨Nat.le_of_ble_eq_true rfl, Nat.le_of_ble_eq_true rfl⟩ (fun r_1 Φ2 sz1 st1 hp1 hs1 => ?_)
  obtain ⟨ha1, hq1, hI2, hF1⟩ := hp1
  subst sz1
  replace hI2 : Im G x (rd, NN, fl, pe, le, nx, il, qu, kn, ec, nu, va) Φ2 := hI2
  rcases ha1 with rfl | ⟨rfl, n_5, b_13, rfl⟩
  · replace hs1 : st1 = [.int 0, .ref x] := hs1
    subst st1
    refine z_if_ne (tgt := 18) B dX12_raw_11 rfl (fun h9 => absurd (by decide) h9) (fun c_1 => ?_)
    refine z_iconst (v := 1) B dX12_raw_14 rfl ?_
    refine z_goto (tgt := 19) B dX12_raw_15 rfl ?_
    refine z_iconst (v := 1) B dX12_raw_19 rfl ?_
    have h_4 : Φ2 x = some (o_ 14 [.int 0, .ref (x + 1), .ref (x + 2), .int v_2, .int v_3, .int (nI n_1), .int v_4, .int v_5, .ref (x + 3), .ref (x + 4), .int v_6, .long v_7, .ref (x + 5), .int (nI fl), .int v_8, .long v_9, .long v_10, .long v_11, .long v_12, .ref (x + 6), .ref (x + 7), .int (nI pe), .ref (x + 8), .int (nI le), .ref (x + 9), .ref (x + 10), .int (nI qu), .ref (x + 11), .ref (x + 12), .ref (x + 13), .ref (x + 14), .ref (x + 15), .ref (x + 16), .int (nI n_2), .long v_13, .ref (x + 17), .ref (x + 18), .ref (x + 19), .ref (x + 20), .ref (x + 21), .ref (x + 22), .int (nI n_3), .ref (x + 23), .ref (x + 24), .int (nI n_4), .ref (x + 25), .int (nI il), .int (nI nx), .int ec, .int v_14, .int kn, .int v_15, .int nu, .long va]) := ((hF1 x (fun j9 h8 h7 => (show False from h7).elim)).trans h_3)
    refine z_callV (As := [.int 1, .int 1]) (rest := []) B (r_throwsIf G l Φ2 sz x rd fl pe le nx il qu kn ec nu va 1 1 hx hI2 (by decide)) (cwV 2 B.1.2.2.2.2 gX12_raw_X12_throwsIf rfl rfl rfl (by decide +kernel) ⟨Nat.le_of_ble_eq_true rfl, Nat.le_of_ble_eq_true rfl⟩) h_4 rfl rfl rfl rfl (Nat.le_of_ble_eq_true rfl) dX12_raw_20 ⟨Nat.le_of_ble_eq_true rfl, Nat.le_of_ble_eq_true rfl⟩ (fun r_2 Φ3 sz2 st2 hp2 hs2 => ?_)
    obtain ⟨rfl, hq2, hI3, hF2⟩ := hp2
    subst sz2
    replace hs2 : st2 = [.int 1] := hs2
    subst st2
    replace hI3 : Im G x (rd, NN, fl, pe, le, nx, il, qu, kn, ec, nu, va) Φ3 := hI3
    refine z_if_ne (tgt := 46) B dX12_raw_23 rfl (fun c_2 => ?_) (fun h9 => absurd h9 (by decide))
    refine z_lconst (v := 0) B dX12_raw_46 rfl ?_
    refine z_goto (tgt := 60) B dX12_raw_47 rfl ?_
    exact z_ret_l B dX12_raw_60 ⟨⟨_, rfl⟩, rfl, hI3, (fun b9 h9 => ((hF2 b9 (fun j9 h8 h7 => h9 j9 h8 (show j9 = 0 by have h6 : j9 = 0 := h7; omega))).trans ((hF1 b9 (fun j9 h8 h7 => (show False from h7).elim)).trans ((fset_fr hΦ1 (fun h8 => h9 (0) h8 (show 0 = 0 by omega))).trans rfl))))⟩
  · replace hs1 : st1 = [.int 1, .ref x] := hs1
    subst st1
    replace b_13 : n_5 < 24 := b_13
    refine z_if_ne (tgt := 18) B dX12_raw_11 rfl (fun c_3 => ?_) (fun h9 => absurd h9 (by decide))
    refine z_iconst (v := 0) B dX12_raw_18 rfl ?_
    refine z_iconst (v := 1) B dX12_raw_19 rfl ?_
    have h_5 : Φ2 x = some (o_ 14 [.int 0, .ref (x + 1), .ref (x + 2), .int v_2, .int v_3, .int (nI n_1), .int v_4, .int v_5, .ref (x + 3), .ref (x + 4), .int v_6, .long v_7, .ref (x + 5), .int (nI fl), .int v_8, .long v_9, .long v_10, .long v_11, .long v_12, .ref (x + 6), .ref (x + 7), .int (nI pe), .ref (x + 8), .int (nI le), .ref (x + 9), .ref (x + 10), .int (nI qu), .ref (x + 11), .ref (x + 12), .ref (x + 13), .ref (x + 14), .ref (x + 15), .ref (x + 16), .int (nI n_2), .long v_13, .ref (x + 17), .ref (x + 18), .ref (x + 19), .ref (x + 20), .ref (x + 21), .ref (x + 22), .int (nI n_3), .ref (x + 23), .ref (x + 24), .int (nI n_4), .ref (x + 25), .int (nI il), .int (nI nx), .int ec, .int v_14, .int kn, .int v_15, .int nu, .long va]) := ((hF1 x (fun j9 h8 h7 => (show False from h7).elim)).trans h_3)
    refine z_callV (As := [.int 0, .int 1]) (rest := []) B (r_throwsIf G l Φ2 sz x rd fl pe le nx il qu kn ec nu va 0 1 hx hI2 (by decide)) (cwV 2 B.1.2.2.2.2 gX12_raw_X12_throwsIf rfl rfl rfl (by decide +kernel) ⟨Nat.le_of_ble_eq_true rfl, Nat.le_of_ble_eq_true rfl⟩) h_5 rfl rfl rfl rfl (Nat.le_of_ble_eq_true rfl) dX12_raw_20 ⟨Nat.le_of_ble_eq_true rfl, Nat.le_of_ble_eq_true rfl⟩ (fun r_3 Φ4 sz3 st3 hp3 hs3 => ?_)
    obtain ⟨rfl, hq3, hI4, hF3⟩ := hp3
    subst sz3
    replace hs3 : st3 = [.int 0] := hs3
    subst st3
    replace hI4 : Im G x (rd, NN, fl, pe, le, nx, il, qu, kn, ec, nu, va) Φ4 := hI4
    refine z_if_ne (tgt := 46) B dX12_raw_23 rfl (fun h9 => absurd (by decide) h9) (fun c_4 => ?_)
    refine z_aload_n B dX12_raw_26 rfl 0 rfl ?_
    refine z_iload_n B dX12_raw_27 rfl 2 rfl ?_
    refine z_callS (As := [.int b]) (rest := [.ref x]) B (r_isWhat G l Φ4 sz x rd fl pe le nx il qu kn ec nu va b hx hI4 ) (va_cwS 1 B.1.2.2.2.2 gX12_raw_X12_isWhat rfl rfl rfl (by decide +kernel) ⟨Nat.le_of_ble_eq_true rfl, Nat.le_of_ble_eq_true rfl⟩) rfl rfl (Nat.le_of_ble_eq_true rfl) dX12_raw_28 ⟨Nat.le_of_ble_eq_true rfl, Nat.le_of_ble_eq_true rfl⟩ (fun r_4 Φ5 sz4 st4 hp4 hs4 => ?_)
    obtain ⟨ha2, hq4, hI5, hF4⟩ := hp4
    subst sz4
    replace hI5 : Im G x (rd, NN, fl, pe, le, nx, il, qu, kn, ec, nu, va) Φ5 := hI5
    rcases ha2 with rfl | ⟨rfl, n_6, b_14, rfl⟩
    · replace hs4 : st4 = [.int 0, .ref x] := hs4
      subst st4
      refine z_if_ne (tgt := 38) B dX12_raw_31 rfl (fun h9 => absurd (by decide) h9) (fun c_5 => ?_)
      refine z_iconst (v := 1) B dX12_raw_34 rfl ?_
      refine z_goto (tgt := 39) B dX12_raw_35 rfl ?_
      refine z_iconst (v := 2) B dX12_raw_39 rfl ?_
      obtain ⟨v_16, v_17, v_18, n_7, v_19, v_20, v_21, v_22, v_23, v_24, v_25, v_26, v_27, n_8, v_28, n_9, n_10, v_29, v_30, h_6, b_26, b_15, b_16, b_17, b_18, b_19, b_20, b_21, b_22, b_23, b_24, b_25⟩ := im0 hI5
      replace b_15 : 1 ≤ n_7 := b_15
      replace b_16 : n_7 ≤ 1024 := b_16
      replace b_17 : fl ≤ 12 := b_17
      replace b_18 : pe ≤ 24 := b_18
      replace b_19 : le ≤ 700 := b_19
      replace b_20 : qu ≤ 12 := b_20
      replace b_21 : n_8 ≤ 8 := b_21
      replace b_22 : n_9 ≤ 24 := b_22
      replace b_23 : n_10 ≤ 24 := b_23
      replace b_24 : il ≤ 700 := b_24
      replace b_25 : nx ≤ 701 := b_25
      have h_7 : Φ5 x = some (o_ 14 [.int v_16, .ref (x + 1), .ref (x + 2), .int v_17, .int v_18, .int (nI n_7), .int v_19, .int v_20, .ref (x + 3), .ref (x + 4), .int v_21, .long v_22, .ref (x + 5), .int (nI fl), .int v_23, .long v_24, .long v_25, .long v_26, .long v_27, .ref (x + 6), .ref (x + 7), .int (nI pe), .ref (x + 8), .int (nI le), .ref (x + 9), .ref (x + 10), .int (nI qu), .ref (x + 11), .ref (x + 12), .ref (x + 13), .ref (x + 14), .ref (x + 15), .ref (x + 16), .int (nI n_8), .long v_28, .ref (x + 17), .ref (x + 18), .ref (x + 19), .ref (x + 20), .ref (x + 21), .ref (x + 22), .int (nI n_9), .ref (x + 23), .ref (x + 24), .int (nI n_10), .ref (x + 25), .int (nI il), .int (nI nx), .int ec, .int v_29, .int kn, .int v_30, .int nu, .long va]) := h_6
      refine z_callV (As := [.int 1, .int 2]) (rest := []) B (r_throwsIf G l Φ5 sz x rd fl pe le nx il qu kn ec nu va 1 2 hx hI5 (by decide)) (cwV 2 B.1.2.2.2.2 gX12_raw_X12_throwsIf rfl rfl rfl (by decide +kernel) ⟨Nat.le_of_ble_eq_true rfl, Nat.le_of_ble_eq_true rfl⟩) h_7 rfl rfl rfl rfl (Nat.le_of_ble_eq_true rfl) dX12_raw_40 ⟨Nat.le_of_ble_eq_true rfl, Nat.le_of_ble_eq_true rfl⟩ (fun r_5 Φ6 sz5 st5 hp5 hs5 => ?_)
      obtain ⟨rfl, hq5, hI6, hF5⟩ := hp5
      subst sz5
      replace hs5 : st5 = [.int 1] := hs5
      subst st5
      replace hI6 : Im G x (rd, NN, fl, pe, le, nx, il, qu, kn, ec, nu, va) Φ6 := hI6
      refine z_if_eq (tgt := 50) B dX12_raw_43 rfl (fun h9 => absurd h9 (by decide)) (fun c_6 => ?_)
      refine z_lconst (v := 0) B dX12_raw_46 rfl ?_
      refine z_goto (tgt := 60) B dX12_raw_47 rfl ?_
      exact z_ret_l B dX12_raw_60 ⟨⟨_, rfl⟩, rfl, hI6, (fun b9 h9 => ((hF5 b9 (fun j9 h8 h7 => h9 j9 h8 (show j9 = 0 by have h6 : j9 = 0 := h7; omega))).trans ((hF4 b9 (fun j9 h8 h7 => (show False from h7).elim)).trans ((hF3 b9 (fun j9 h8 h7 => h9 j9 h8 (show j9 = 0 by have h6 : j9 = 0 := h7; omega))).trans ((hF1 b9 (fun j9 h8 h7 => (show False from h7).elim)).trans ((fset_fr hΦ1 (fun h8 => h9 (0) h8 (show 0 = 0 by omega))).trans rfl))))))⟩
    · replace hs4 : st4 = [.int 1, .ref x] := hs4
      subst st4
      replace b_14 : n_6 < 2 := b_14
      refine z_if_ne (tgt := 38) B dX12_raw_31 rfl (fun c_7 => ?_) (fun h9 => absurd h9 (by decide))
      refine z_iconst (v := 0) B dX12_raw_38 rfl ?_
      refine z_iconst (v := 2) B dX12_raw_39 rfl ?_
      obtain ⟨v_31, v_32, v_33, n_11, v_34, v_35, v_36, v_37, v_38, v_39, v_40, v_41, v_42, n_12, v_43, n_13, n_14, v_44, v_45, h_8, b_38, b_27, b_28, b_29, b_30, b_31, b_32, b_33, b_34, b_35, b_36, b_37⟩ := im0 hI5
      replace b_27 : 1 ≤ n_11 := b_27
      replace b_28 : n_11 ≤ 1024 := b_28
      replace b_29 : fl ≤ 12 := b_29
      replace b_30 : pe ≤ 24 := b_30
      replace b_31 : le ≤ 700 := b_31
      replace b_32 : qu ≤ 12 := b_32
      replace b_33 : n_12 ≤ 8 := b_33
      replace b_34 : n_13 ≤ 24 := b_34
      replace b_35 : n_14 ≤ 24 := b_35
      replace b_36 : il ≤ 700 := b_36
      replace b_37 : nx ≤ 701 := b_37
      have h_9 : Φ5 x = some (o_ 14 [.int v_31, .ref (x + 1), .ref (x + 2), .int v_32, .int v_33, .int (nI n_11), .int v_34, .int v_35, .ref (x + 3), .ref (x + 4), .int v_36, .long v_37, .ref (x + 5), .int (nI fl), .int v_38, .long v_39, .long v_40, .long v_41, .long v_42, .ref (x + 6), .ref (x + 7), .int (nI pe), .ref (x + 8), .int (nI le), .ref (x + 9), .ref (x + 10), .int (nI qu), .ref (x + 11), .ref (x + 12), .ref (x + 13), .ref (x + 14), .ref (x + 15), .ref (x + 16), .int (nI n_12), .long v_43, .ref (x + 17), .ref (x + 18), .ref (x + 19), .ref (x + 20), .ref (x + 21), .ref (x + 22), .int (nI n_13), .ref (x + 23), .ref (x + 24), .int (nI n_14), .ref (x + 25), .int (nI il), .int (nI nx), .int ec, .int v_44, .int kn, .int v_45, .int nu, .long va]) := h_8
      refine z_callV (As := [.int 0, .int 2]) (rest := []) B (r_throwsIf G l Φ5 sz x rd fl pe le nx il qu kn ec nu va 0 2 hx hI5 (by decide)) (cwV 2 B.1.2.2.2.2 gX12_raw_X12_throwsIf rfl rfl rfl (by decide +kernel) ⟨Nat.le_of_ble_eq_true rfl, Nat.le_of_ble_eq_true rfl⟩) h_9 rfl rfl rfl rfl (Nat.le_of_ble_eq_true rfl) dX12_raw_40 ⟨Nat.le_of_ble_eq_true rfl, Nat.le_of_ble_eq_true rfl⟩ (fun r_6 Φ7 sz6 st6 hp6 hs6 => ?_)
      obtain ⟨rfl, hq6, hI7, hF6⟩ := hp6
      subst sz6
      replace hs6 : st6 = [.int 0] := hs6
      subst st6
      replace hI7 : Im G x (rd, NN, fl, pe, le, nx, il, qu, kn, ec, nu, va) Φ7 := hI7
      refine z_if_eq (tgt := 50) B dX12_raw_43 rfl (fun c_8 => ?_) (fun h9 => absurd (by decide) h9)
      refine z_aload_n B dX12_raw_50 rfl 0 rfl ?_
      obtain ⟨v_46, v_47, v_48, n_15, v_49, v_50, v_51, v_52, v_53, v_54, v_55, v_56, v_57, n_16, v_58, n_17, n_18, v_59, v_60, h_10, b_50, b_39, b_40, b_41, b_42, b_43, b_44, b_45, b_46, b_47, b_48, b_49⟩ := im0 hI7
      replace b_39 : 1 ≤ n_15 := b_39
      replace b_40 : n_15 ≤ 1024 := b_40
      replace b_41 : fl ≤ 12 := b_41
      replace b_42 : pe ≤ 24 := b_42
      replace b_43 : le ≤ 700 := b_43
      replace b_44 : qu ≤ 12 := b_44
      replace b_45 : n_16 ≤ 8 := b_45
      replace b_46 : n_17 ≤ 24 := b_46
      replace b_47 : n_18 ≤ 24 := b_47
      replace b_48 : il ≤ 700 := b_48
      replace b_49 : nx ≤ 701 := b_49
      have h_11 : Φ7 x = some (o_ 14 [.int v_46, .ref (x + 1), .ref (x + 2), .int v_47, .int v_48, .int (nI n_15), .int v_49, .int v_50, .ref (x + 3), .ref (x + 4), .int v_51, .long v_52, .ref (x + 5), .int (nI fl), .int v_53, .long v_54, .long v_55, .long v_56, .long v_57, .ref (x + 6), .ref (x + 7), .int (nI pe), .ref (x + 8), .int (nI le), .ref (x + 9), .ref (x + 10), .int (nI qu), .ref (x + 11), .ref (x + 12), .ref (x + 13), .ref (x + 14), .ref (x + 15), .ref (x + 16), .int (nI n_16), .long v_58, .ref (x + 17), .ref (x + 18), .ref (x + 19), .ref (x + 20), .ref (x + 21), .ref (x + 22), .int (nI n_17), .ref (x + 23), .ref (x + 24), .int (nI n_18), .ref (x + 25), .int (nI il), .int (nI nx), .int ec, .int v_59, .int kn, .int v_60, .int nu, .long va]) := h_10
      refine z_get (ref := "FlowExporterModel") (C := RX12) (T := TX12) (N := 54) (ci := 14) (v := .ref (x + 20)) B (by decide +kernel) rfl 38 (by decide) (by decide +kernel) rfl h_11 rfl dX12_raw_51 ?_
      refine z_iconst (v := 2) B dX12_raw_54 rfl ?_
      refine z_iload_n B dX12_raw_55 rfl 1 rfl ?_
      refine z_imul B dX12_raw_56 ?_
      refine z_top (st1 := [.int (nI (2 * n_5)), .ref (x + 20)]) (congrArg (fun w9 : Int32 => ([.int w9, .ref (x + 20)] : List Value)) (nI_mul 2 n_5)) ?_
      refine z_iload_n B dX12_raw_57 rfl 2 rfl ?_
      refine z_iadd B dX12_raw_58 ?_
      refine z_top (st1 := [.int (nI (2 * n_5 + n_6)), .ref (x + 20)]) (congrArg (fun w9 : Int32 => ([.int w9, .ref (x + 20)] : List Value)) (nI_add (2 * n_5) n_6)) ?_
      obtain ⟨f_1, h_12⟩ := imk (k := 20) hI7
      have h_13 : Φ7 (x + 20) = some (al_ G 48 f_1) := h_12
      refine z_lald B h_13 (vp_in_nI (by omega) (by omega)) dX12_raw_59 ?_
      refine z_fl (fun v_61 => ?_)
      exact z_ret_l B dX12_raw_60 ⟨⟨_, rfl⟩, rfl, hI7, (fun b9 h9 => ((hF6 b9 (fun j9 h8 h7 => h9 j9 h8 (show j9 = 0 by have h6 : j9 = 0 := h7; omega))).trans ((hF4 b9 (fun j9 h8 h7 => (show False from h7).elim)).trans ((hF3 b9 (fun j9 h8 h7 => h9 j9 h8 (show j9 = 0 by have h6 : j9 = 0 := h7; omega))).trans ((hF1 b9 (fun j9 h8 h7 => (show False from h7).elim)).trans ((fset_fr hΦ1 (fun h8 => h9 (0) h8 (show 0 = 0 by omega))).trans rfl))))))⟩

set_option maxHeartbeats 4000000 in
set_option maxRecDepth 100000 in
theorem r_estimate (G : EnvG) (l : Launch) (Φ : Hm) (sz x : Nat) (rd : (Nat → Int32) → Prop) (fl : Nat) (pe : Nat) (le : Nat) (nx : Nat) (il : Nat) (qu : Nat) (kn : Int32) (ec : Int32) (nu : Int32) (va : Int64) (a : Int32) (b : Int32) (hx : G.2.2.2 ≤ x) (hI : Im G x (rd, NN, fl, pe, le, nx, il, qu, kn, ec, nu, va) Φ)  : Ct G l yX12_estimate wsX12_estimate ({ frames := 2, cells := 0, slots := 0, locals := 46 }) 0 0 [.ref x, .int a, .int b] Φ sz (fun v Φ1 sz1 => (∃ r9 : Int64, v = some (.long r9)) ∧ sz1 = sz ∧ (Im G x (rd, NN, fl, pe, le, nx, il, qu, kn, ec, nu, va) Φ1) ∧ Fr x (fun j9 => j9 = 0) Φ Φ1) := by
  refine Ct.of (cc := cX12_estimate) (maxL := 3) (ret := (some .long)) (by decide) rfl (Nat.le_of_ble_eq_true rfl) ?_
  intro p9 e9 s9 m9 w9 t9 k9 B
  show Z p9 l e9 _ s9 m9 _ w9 t9 k9 _ G 3 0 [(0, .ref x), (1, .int a), (2, .int b)] [] Φ sz 0 0
  refine z_aload_n B dX12_estimate_0 rfl 0 rfl ?_
  refine z_iconst (v := 0) B dX12_estimate_1 rfl ?_
  obtain ⟨v_1, v_2, v_3, n_1, v_4, v_5, v_6, v_7, v_8, v_9, v_10, v_11, v_12, n_2, v_13, n_3, n_4, v_14, v_15, h_1, b_12, b_1, b_2, b_3, b_4, b_5, b_6, b_7, b_8, b_9, b_10, b_11⟩ := im0 hI
  replace b_1 : 1 ≤ n_1 := b_1
  replace b_2 : n_1 ≤ 1024 := b_2
  replace b_3 : fl ≤ 12 := b_3
  replace b_4 : pe ≤ 24 := b_4
  replace b_5 : le ≤ 700 := b_5
  replace b_6 : qu ≤ 12 := b_6
  replace b_7 : n_2 ≤ 8 := b_7
  replace b_8 : n_3 ≤ 24 := b_8
  replace b_9 : n_4 ≤ 24 := b_9
  replace b_10 : il ≤ 700 := b_10
  replace b_11 : nx ≤ 701 := b_11
  have h_2 : Φ x = some (o_ 14 [.int v_1, .ref (x + 1), .ref (x + 2), .int v_2, .int v_3, .int (nI n_1), .int v_4, .int v_5, .ref (x + 3), .ref (x + 4), .int v_6, .long v_7, .ref (x + 5), .int (nI fl), .int v_8, .long v_9, .long v_10, .long v_11, .long v_12, .ref (x + 6), .ref (x + 7), .int (nI pe), .ref (x + 8), .int (nI le), .ref (x + 9), .ref (x + 10), .int (nI qu), .ref (x + 11), .ref (x + 12), .ref (x + 13), .ref (x + 14), .ref (x + 15), .ref (x + 16), .int (nI n_2), .long v_13, .ref (x + 17), .ref (x + 18), .ref (x + 19), .ref (x + 20), .ref (x + 21), .ref (x + 22), .int (nI n_3), .ref (x + 23), .ref (x + 24), .int (nI n_4), .ref (x + 25), .int (nI il), .int (nI nx), .int ec, .int v_14, .int kn, .int v_15, .int nu, .long va]) := h_1
  refine z_put (ref := "FlowExporterModel") (C := RX12) (T := TX12) (N := 54) (ci := 14) (v := .int 0) B (by decide +kernel) tyX12 tyX12_ok nmX12 rfl 0 (by decide) (by decide +kernel) rfl (Or.inl rfl) h_2 hx rfl rfl (Nat.le_of_ble_eq_true rfl) dX12_estimate_2 (fun Φ1 hΦ1 => ?_)
  have h_3 : Φ1 x = some (o_ 14 [.int 0, .ref (x + 1), .ref (x + 2), .int v_2, .int v_3, .int (nI n_1), .int v_4, .int v_5, .ref (x + 3), .ref (x + 4), .int v_6, .long v_7, .ref (x + 5), .int (nI fl), .int v_8, .long v_9, .long v_10, .long v_11, .long v_12, .ref (x + 6), .ref (x + 7), .int (nI pe), .ref (x + 8), .int (nI le), .ref (x + 9), .ref (x + 10), .int (nI qu), .ref (x + 11), .ref (x + 12), .ref (x + 13), .ref (x + 14), .ref (x + 15), .ref (x + 16), .int (nI n_2), .long v_13, .ref (x + 17), .ref (x + 18), .ref (x + 19), .ref (x + 20), .ref (x + 21), .ref (x + 22), .int (nI n_3), .ref (x + 23), .ref (x + 24), .int (nI n_4), .ref (x + 25), .int (nI il), .int (nI nx), .int ec, .int v_14, .int kn, .int v_15, .int nu, .long va]) := fset_at hΦ1
  have hI1 : Im G x (rd, NN, fl, pe, le, nx, il, qu, kn, ec, nu, va) Φ1 := Im.put0 hI hΦ1 ⟨0, v_2, v_3, n_1, v_4, v_5, v_6, v_7, v_8, v_9, v_10, v_11, v_12, n_2, v_13, n_3, n_4, v_14, v_15, rfl, b_12, (show 1 ≤ n_1 by omega), (show n_1 ≤ 1024 by omega), (show fl ≤ 12 by omega), (show pe ≤ 24 by omega), (show le ≤ 700 by omega), (show qu ≤ 12 by omega), (show n_2 ≤ 8 by omega), (show n_3 ≤ 24 by omega), (show n_4 ≤ 24 by omega), (show il ≤ 700 by omega), (show nx ≤ 701 by omega)⟩
  refine z_aload_n B dX12_estimate_5 rfl 0 rfl ?_
  refine z_aload_n B dX12_estimate_6 rfl 0 rfl ?_
  refine z_iload_n B dX12_estimate_7 rfl 1 rfl ?_
  refine z_callV (As := [.int a]) (rest := [.ref x]) B (r_isKey G l Φ1 sz x rd fl pe le nx il qu kn ec nu va a hx hI1 ) (cwV 1 B.1.2.2.2.2 gX12_estimate_X12_isKey rfl rfl rfl (by decide +kernel) ⟨Nat.le_of_ble_eq_true rfl, Nat.le_of_ble_eq_true rfl⟩) h_3 rfl rfl rfl rfl (Nat.le_of_ble_eq_true rfl) dX12_estimate_8 ⟨Nat.le_of_ble_eq_true rfl, Nat.le_of_ble_eq_true rfl⟩ (fun r_1 Φ2 sz1 st1 hp1 hs1 => ?_)
  obtain ⟨ha1, hq1, hI2, hF1⟩ := hp1
  subst sz1
  replace hI2 : Im G x (rd, NN, fl, pe, le, nx, il, qu, kn, ec, nu, va) Φ2 := hI2
  rcases ha1 with rfl | ⟨rfl, n_5, b_13, rfl⟩
  · replace hs1 : st1 = [.int 0, .ref x] := hs1
    subst st1
    refine z_if_ne (tgt := 18) B dX12_estimate_11 rfl (fun h9 => absurd (by decide) h9) (fun c_1 => ?_)
    refine z_iconst (v := 1) B dX12_estimate_14 rfl ?_
    refine z_goto (tgt := 19) B dX12_estimate_15 rfl ?_
    refine z_iconst (v := 1) B dX12_estimate_19 rfl ?_
    have h_4 : Φ2 x = some (o_ 14 [.int 0, .ref (x + 1), .ref (x + 2), .int v_2, .int v_3, .int (nI n_1), .int v_4, .int v_5, .ref (x + 3), .ref (x + 4), .int v_6, .long v_7, .ref (x + 5), .int (nI fl), .int v_8, .long v_9, .long v_10, .long v_11, .long v_12, .ref (x + 6), .ref (x + 7), .int (nI pe), .ref (x + 8), .int (nI le), .ref (x + 9), .ref (x + 10), .int (nI qu), .ref (x + 11), .ref (x + 12), .ref (x + 13), .ref (x + 14), .ref (x + 15), .ref (x + 16), .int (nI n_2), .long v_13, .ref (x + 17), .ref (x + 18), .ref (x + 19), .ref (x + 20), .ref (x + 21), .ref (x + 22), .int (nI n_3), .ref (x + 23), .ref (x + 24), .int (nI n_4), .ref (x + 25), .int (nI il), .int (nI nx), .int ec, .int v_14, .int kn, .int v_15, .int nu, .long va]) := ((hF1 x (fun j9 h8 h7 => (show False from h7).elim)).trans h_3)
    refine z_callV (As := [.int 1, .int 1]) (rest := []) B (r_throwsIf G l Φ2 sz x rd fl pe le nx il qu kn ec nu va 1 1 hx hI2 (by decide)) (cwV 2 B.1.2.2.2.2 gX12_estimate_X12_throwsIf rfl rfl rfl (by decide +kernel) ⟨Nat.le_of_ble_eq_true rfl, Nat.le_of_ble_eq_true rfl⟩) h_4 rfl rfl rfl rfl (Nat.le_of_ble_eq_true rfl) dX12_estimate_20 ⟨Nat.le_of_ble_eq_true rfl, Nat.le_of_ble_eq_true rfl⟩ (fun r_2 Φ3 sz2 st2 hp2 hs2 => ?_)
    obtain ⟨rfl, hq2, hI3, hF2⟩ := hp2
    subst sz2
    replace hs2 : st2 = [.int 1] := hs2
    subst st2
    replace hI3 : Im G x (rd, NN, fl, pe, le, nx, il, qu, kn, ec, nu, va) Φ3 := hI3
    refine z_if_ne (tgt := 46) B dX12_estimate_23 rfl (fun c_2 => ?_) (fun h9 => absurd h9 (by decide))
    refine z_lconst (v := 0) B dX12_estimate_46 rfl ?_
    refine z_goto (tgt := 60) B dX12_estimate_47 rfl ?_
    exact z_ret_l B dX12_estimate_60 ⟨⟨_, rfl⟩, rfl, hI3, (fun b9 h9 => ((hF2 b9 (fun j9 h8 h7 => h9 j9 h8 (show j9 = 0 by have h6 : j9 = 0 := h7; omega))).trans ((hF1 b9 (fun j9 h8 h7 => (show False from h7).elim)).trans ((fset_fr hΦ1 (fun h8 => h9 (0) h8 (show 0 = 0 by omega))).trans rfl))))⟩
  · replace hs1 : st1 = [.int 1, .ref x] := hs1
    subst st1
    replace b_13 : n_5 < 24 := b_13
    refine z_if_ne (tgt := 18) B dX12_estimate_11 rfl (fun c_3 => ?_) (fun h9 => absurd h9 (by decide))
    refine z_iconst (v := 0) B dX12_estimate_18 rfl ?_
    refine z_iconst (v := 1) B dX12_estimate_19 rfl ?_
    have h_5 : Φ2 x = some (o_ 14 [.int 0, .ref (x + 1), .ref (x + 2), .int v_2, .int v_3, .int (nI n_1), .int v_4, .int v_5, .ref (x + 3), .ref (x + 4), .int v_6, .long v_7, .ref (x + 5), .int (nI fl), .int v_8, .long v_9, .long v_10, .long v_11, .long v_12, .ref (x + 6), .ref (x + 7), .int (nI pe), .ref (x + 8), .int (nI le), .ref (x + 9), .ref (x + 10), .int (nI qu), .ref (x + 11), .ref (x + 12), .ref (x + 13), .ref (x + 14), .ref (x + 15), .ref (x + 16), .int (nI n_2), .long v_13, .ref (x + 17), .ref (x + 18), .ref (x + 19), .ref (x + 20), .ref (x + 21), .ref (x + 22), .int (nI n_3), .ref (x + 23), .ref (x + 24), .int (nI n_4), .ref (x + 25), .int (nI il), .int (nI nx), .int ec, .int v_14, .int kn, .int v_15, .int nu, .long va]) := ((hF1 x (fun j9 h8 h7 => (show False from h7).elim)).trans h_3)
    refine z_callV (As := [.int 0, .int 1]) (rest := []) B (r_throwsIf G l Φ2 sz x rd fl pe le nx il qu kn ec nu va 0 1 hx hI2 (by decide)) (cwV 2 B.1.2.2.2.2 gX12_estimate_X12_throwsIf rfl rfl rfl (by decide +kernel) ⟨Nat.le_of_ble_eq_true rfl, Nat.le_of_ble_eq_true rfl⟩) h_5 rfl rfl rfl rfl (Nat.le_of_ble_eq_true rfl) dX12_estimate_20 ⟨Nat.le_of_ble_eq_true rfl, Nat.le_of_ble_eq_true rfl⟩ (fun r_3 Φ4 sz3 st3 hp3 hs3 => ?_)
    obtain ⟨rfl, hq3, hI4, hF3⟩ := hp3
    subst sz3
    replace hs3 : st3 = [.int 0] := hs3
    subst st3
    replace hI4 : Im G x (rd, NN, fl, pe, le, nx, il, qu, kn, ec, nu, va) Φ4 := hI4
    refine z_if_ne (tgt := 46) B dX12_estimate_23 rfl (fun h9 => absurd (by decide) h9) (fun c_4 => ?_)
    refine z_aload_n B dX12_estimate_26 rfl 0 rfl ?_
    refine z_iload_n B dX12_estimate_27 rfl 2 rfl ?_
    refine z_callS (As := [.int b]) (rest := [.ref x]) B (r_isWhat G l Φ4 sz x rd fl pe le nx il qu kn ec nu va b hx hI4 ) (va_cwS 1 B.1.2.2.2.2 gX12_estimate_X12_isWhat rfl rfl rfl (by decide +kernel) ⟨Nat.le_of_ble_eq_true rfl, Nat.le_of_ble_eq_true rfl⟩) rfl rfl (Nat.le_of_ble_eq_true rfl) dX12_estimate_28 ⟨Nat.le_of_ble_eq_true rfl, Nat.le_of_ble_eq_true rfl⟩ (fun r_4 Φ5 sz4 st4 hp4 hs4 => ?_)
    obtain ⟨ha2, hq4, hI5, hF4⟩ := hp4
    subst sz4
    replace hI5 : Im G x (rd, NN, fl, pe, le, nx, il, qu, kn, ec, nu, va) Φ5 := hI5
    rcases ha2 with rfl | ⟨rfl, n_6, b_14, rfl⟩
    · replace hs4 : st4 = [.int 0, .ref x] := hs4
      subst st4
      refine z_if_ne (tgt := 38) B dX12_estimate_31 rfl (fun h9 => absurd (by decide) h9) (fun c_5 => ?_)
      refine z_iconst (v := 1) B dX12_estimate_34 rfl ?_
      refine z_goto (tgt := 39) B dX12_estimate_35 rfl ?_
      refine z_iconst (v := 2) B dX12_estimate_39 rfl ?_
      obtain ⟨v_16, v_17, v_18, n_7, v_19, v_20, v_21, v_22, v_23, v_24, v_25, v_26, v_27, n_8, v_28, n_9, n_10, v_29, v_30, h_6, b_26, b_15, b_16, b_17, b_18, b_19, b_20, b_21, b_22, b_23, b_24, b_25⟩ := im0 hI5
      replace b_15 : 1 ≤ n_7 := b_15
      replace b_16 : n_7 ≤ 1024 := b_16
      replace b_17 : fl ≤ 12 := b_17
      replace b_18 : pe ≤ 24 := b_18
      replace b_19 : le ≤ 700 := b_19
      replace b_20 : qu ≤ 12 := b_20
      replace b_21 : n_8 ≤ 8 := b_21
      replace b_22 : n_9 ≤ 24 := b_22
      replace b_23 : n_10 ≤ 24 := b_23
      replace b_24 : il ≤ 700 := b_24
      replace b_25 : nx ≤ 701 := b_25
      have h_7 : Φ5 x = some (o_ 14 [.int v_16, .ref (x + 1), .ref (x + 2), .int v_17, .int v_18, .int (nI n_7), .int v_19, .int v_20, .ref (x + 3), .ref (x + 4), .int v_21, .long v_22, .ref (x + 5), .int (nI fl), .int v_23, .long v_24, .long v_25, .long v_26, .long v_27, .ref (x + 6), .ref (x + 7), .int (nI pe), .ref (x + 8), .int (nI le), .ref (x + 9), .ref (x + 10), .int (nI qu), .ref (x + 11), .ref (x + 12), .ref (x + 13), .ref (x + 14), .ref (x + 15), .ref (x + 16), .int (nI n_8), .long v_28, .ref (x + 17), .ref (x + 18), .ref (x + 19), .ref (x + 20), .ref (x + 21), .ref (x + 22), .int (nI n_9), .ref (x + 23), .ref (x + 24), .int (nI n_10), .ref (x + 25), .int (nI il), .int (nI nx), .int ec, .int v_29, .int kn, .int v_30, .int nu, .long va]) := h_6
      refine z_callV (As := [.int 1, .int 2]) (rest := []) B (r_throwsIf G l Φ5 sz x rd fl pe le nx il qu kn ec nu va 1 2 hx hI5 (by decide)) (cwV 2 B.1.2.2.2.2 gX12_estimate_X12_throwsIf rfl rfl rfl (by decide +kernel) ⟨Nat.le_of_ble_eq_true rfl, Nat.le_of_ble_eq_true rfl⟩) h_7 rfl rfl rfl rfl (Nat.le_of_ble_eq_true rfl) dX12_estimate_40 ⟨Nat.le_of_ble_eq_true rfl, Nat.le_of_ble_eq_true rfl⟩ (fun r_5 Φ6 sz5 st5 hp5 hs5 => ?_)
      obtain ⟨rfl, hq5, hI6, hF5⟩ := hp5
      subst sz5
      replace hs5 : st5 = [.int 1] := hs5
      subst st5
      replace hI6 : Im G x (rd, NN, fl, pe, le, nx, il, qu, kn, ec, nu, va) Φ6 := hI6
      refine z_if_eq (tgt := 50) B dX12_estimate_43 rfl (fun h9 => absurd h9 (by decide)) (fun c_6 => ?_)
      refine z_lconst (v := 0) B dX12_estimate_46 rfl ?_
      refine z_goto (tgt := 60) B dX12_estimate_47 rfl ?_
      exact z_ret_l B dX12_estimate_60 ⟨⟨_, rfl⟩, rfl, hI6, (fun b9 h9 => ((hF5 b9 (fun j9 h8 h7 => h9 j9 h8 (show j9 = 0 by have h6 : j9 = 0 := h7; omega))).trans ((hF4 b9 (fun j9 h8 h7 => (show False from h7).elim)).trans ((hF3 b9 (fun j9 h8 h7 => h9 j9 h8 (show j9 = 0 by have h6 : j9 = 0 := h7; omega))).trans ((hF1 b9 (fun j9 h8 h7 => (show False from h7).elim)).trans ((fset_fr hΦ1 (fun h8 => h9 (0) h8 (show 0 = 0 by omega))).trans rfl))))))⟩
    · replace hs4 : st4 = [.int 1, .ref x] := hs4
      subst st4
      replace b_14 : n_6 < 2 := b_14
      refine z_if_ne (tgt := 38) B dX12_estimate_31 rfl (fun c_7 => ?_) (fun h9 => absurd h9 (by decide))
      refine z_iconst (v := 0) B dX12_estimate_38 rfl ?_
      refine z_iconst (v := 2) B dX12_estimate_39 rfl ?_
      obtain ⟨v_31, v_32, v_33, n_11, v_34, v_35, v_36, v_37, v_38, v_39, v_40, v_41, v_42, n_12, v_43, n_13, n_14, v_44, v_45, h_8, b_38, b_27, b_28, b_29, b_30, b_31, b_32, b_33, b_34, b_35, b_36, b_37⟩ := im0 hI5
      replace b_27 : 1 ≤ n_11 := b_27
      replace b_28 : n_11 ≤ 1024 := b_28
      replace b_29 : fl ≤ 12 := b_29
      replace b_30 : pe ≤ 24 := b_30
      replace b_31 : le ≤ 700 := b_31
      replace b_32 : qu ≤ 12 := b_32
      replace b_33 : n_12 ≤ 8 := b_33
      replace b_34 : n_13 ≤ 24 := b_34
      replace b_35 : n_14 ≤ 24 := b_35
      replace b_36 : il ≤ 700 := b_36
      replace b_37 : nx ≤ 701 := b_37
      have h_9 : Φ5 x = some (o_ 14 [.int v_31, .ref (x + 1), .ref (x + 2), .int v_32, .int v_33, .int (nI n_11), .int v_34, .int v_35, .ref (x + 3), .ref (x + 4), .int v_36, .long v_37, .ref (x + 5), .int (nI fl), .int v_38, .long v_39, .long v_40, .long v_41, .long v_42, .ref (x + 6), .ref (x + 7), .int (nI pe), .ref (x + 8), .int (nI le), .ref (x + 9), .ref (x + 10), .int (nI qu), .ref (x + 11), .ref (x + 12), .ref (x + 13), .ref (x + 14), .ref (x + 15), .ref (x + 16), .int (nI n_12), .long v_43, .ref (x + 17), .ref (x + 18), .ref (x + 19), .ref (x + 20), .ref (x + 21), .ref (x + 22), .int (nI n_13), .ref (x + 23), .ref (x + 24), .int (nI n_14), .ref (x + 25), .int (nI il), .int (nI nx), .int ec, .int v_44, .int kn, .int v_45, .int nu, .long va]) := h_8
      refine z_callV (As := [.int 0, .int 2]) (rest := []) B (r_throwsIf G l Φ5 sz x rd fl pe le nx il qu kn ec nu va 0 2 hx hI5 (by decide)) (cwV 2 B.1.2.2.2.2 gX12_estimate_X12_throwsIf rfl rfl rfl (by decide +kernel) ⟨Nat.le_of_ble_eq_true rfl, Nat.le_of_ble_eq_true rfl⟩) h_9 rfl rfl rfl rfl (Nat.le_of_ble_eq_true rfl) dX12_estimate_40 ⟨Nat.le_of_ble_eq_true rfl, Nat.le_of_ble_eq_true rfl⟩ (fun r_6 Φ7 sz6 st6 hp6 hs6 => ?_)
      obtain ⟨rfl, hq6, hI7, hF6⟩ := hp6
      subst sz6
      replace hs6 : st6 = [.int 0] := hs6
      subst st6
      replace hI7 : Im G x (rd, NN, fl, pe, le, nx, il, qu, kn, ec, nu, va) Φ7 := hI7
      refine z_if_eq (tgt := 50) B dX12_estimate_43 rfl (fun c_8 => ?_) (fun h9 => absurd (by decide) h9)
      refine z_aload_n B dX12_estimate_50 rfl 0 rfl ?_
      obtain ⟨v_46, v_47, v_48, n_15, v_49, v_50, v_51, v_52, v_53, v_54, v_55, v_56, v_57, n_16, v_58, n_17, n_18, v_59, v_60, h_10, b_50, b_39, b_40, b_41, b_42, b_43, b_44, b_45, b_46, b_47, b_48, b_49⟩ := im0 hI7
      replace b_39 : 1 ≤ n_15 := b_39
      replace b_40 : n_15 ≤ 1024 := b_40
      replace b_41 : fl ≤ 12 := b_41
      replace b_42 : pe ≤ 24 := b_42
      replace b_43 : le ≤ 700 := b_43
      replace b_44 : qu ≤ 12 := b_44
      replace b_45 : n_16 ≤ 8 := b_45
      replace b_46 : n_17 ≤ 24 := b_46
      replace b_47 : n_18 ≤ 24 := b_47
      replace b_48 : il ≤ 700 := b_48
      replace b_49 : nx ≤ 701 := b_49
      have h_11 : Φ7 x = some (o_ 14 [.int v_46, .ref (x + 1), .ref (x + 2), .int v_47, .int v_48, .int (nI n_15), .int v_49, .int v_50, .ref (x + 3), .ref (x + 4), .int v_51, .long v_52, .ref (x + 5), .int (nI fl), .int v_53, .long v_54, .long v_55, .long v_56, .long v_57, .ref (x + 6), .ref (x + 7), .int (nI pe), .ref (x + 8), .int (nI le), .ref (x + 9), .ref (x + 10), .int (nI qu), .ref (x + 11), .ref (x + 12), .ref (x + 13), .ref (x + 14), .ref (x + 15), .ref (x + 16), .int (nI n_16), .long v_58, .ref (x + 17), .ref (x + 18), .ref (x + 19), .ref (x + 20), .ref (x + 21), .ref (x + 22), .int (nI n_17), .ref (x + 23), .ref (x + 24), .int (nI n_18), .ref (x + 25), .int (nI il), .int (nI nx), .int ec, .int v_59, .int kn, .int v_60, .int nu, .long va]) := h_10
      refine z_get (ref := "FlowExporterModel") (C := RX12) (T := TX12) (N := 54) (ci := 14) (v := .ref (x + 21)) B (by decide +kernel) rfl 39 (by decide) (by decide +kernel) rfl h_11 rfl dX12_estimate_51 ?_
      refine z_iconst (v := 2) B dX12_estimate_54 rfl ?_
      refine z_iload_n B dX12_estimate_55 rfl 1 rfl ?_
      refine z_imul B dX12_estimate_56 ?_
      refine z_top (st1 := [.int (nI (2 * n_5)), .ref (x + 21)]) (congrArg (fun w9 : Int32 => ([.int w9, .ref (x + 21)] : List Value)) (nI_mul 2 n_5)) ?_
      refine z_iload_n B dX12_estimate_57 rfl 2 rfl ?_
      refine z_iadd B dX12_estimate_58 ?_
      refine z_top (st1 := [.int (nI (2 * n_5 + n_6)), .ref (x + 21)]) (congrArg (fun w9 : Int32 => ([.int w9, .ref (x + 21)] : List Value)) (nI_add (2 * n_5) n_6)) ?_
      obtain ⟨f_1, h_12⟩ := imk (k := 21) hI7
      have h_13 : Φ7 (x + 21) = some (al_ G 48 f_1) := h_12
      refine z_lald B h_13 (vp_in_nI (by omega) (by omega)) dX12_estimate_59 ?_
      refine z_fl (fun v_61 => ?_)
      exact z_ret_l B dX12_estimate_60 ⟨⟨_, rfl⟩, rfl, hI7, (fun b9 h9 => ((hF6 b9 (fun j9 h8 h7 => h9 j9 h8 (show j9 = 0 by have h6 : j9 = 0 := h7; omega))).trans ((hF4 b9 (fun j9 h8 h7 => (show False from h7).elim)).trans ((hF3 b9 (fun j9 h8 h7 => h9 j9 h8 (show j9 = 0 by have h6 : j9 = 0 := h7; omega))).trans ((hF1 b9 (fun j9 h8 h7 => (show False from h7).elim)).trans ((fset_fr hΦ1 (fun h8 => h9 (0) h8 (show 0 = 0 by omega))).trans rfl))))))⟩

set_option maxHeartbeats 4000000 in
set_option maxRecDepth 100000 in
theorem r_truthOf (G : EnvG) (l : Launch) (Φ : Hm) (sz x : Nat) (rd : (Nat → Int32) → Prop) (fl : Nat) (pe : Nat) (le : Nat) (nx : Nat) (il : Nat) (qu : Nat) (kn : Int32) (ec : Int32) (nu : Int32) (va : Int64) (a : Int32) (b : Int32) (d : Int32) (f : Int32) (w : Nat) (hx : G.2.2.2 ≤ x) (hI : Im G x (rd, NN, fl, pe, le, nx, il, qu, kn, ec, nu, va) Φ) (hw : w < 2) : Ct G l yX12_truthOf wsX12_truthOf ({ frames := 2, cells := 0, slots := 0, locals := 54 }) 0 0 [.ref x, .int a, .int b, .int d, .int f, .int (nI w)] Φ sz (fun v Φ1 sz1 => (∃ r9 : Int64, v = some (.long r9)) ∧ sz1 = sz ∧ (Im G x (rd, NN, fl, pe, le, nx, il, qu, kn, ec, nu, va) Φ1) ∧ Fr x (fun j9 => False) Φ Φ1) := by
  refine Ct.of (cc := cX12_truthOf) (maxL := 7) (ret := (some .long)) (by decide) rfl (Nat.le_of_ble_eq_true rfl) ?_
  intro p9 e9 s9 m9 w9 t9 k9 B
  show Z p9 l e9 _ s9 m9 _ w9 t9 k9 _ G 7 0 [(0, .ref x), (1, .int a), (2, .int b), (3, .int d), (4, .int f), (5, .int (nI w))] [] Φ sz 0 0
  refine z_aload_n B dX12_truthOf_0 rfl 0 rfl ?_
  refine z_iload_n B dX12_truthOf_1 rfl 1 rfl ?_
  refine z_iload_n B dX12_truthOf_2 rfl 2 rfl ?_
  refine z_iload_n B dX12_truthOf_3 rfl 3 rfl ?_
  refine z_iload B dX12_truthOf_4 4 rfl ?_
  obtain ⟨v_1, v_2, v_3, n_1, v_4, v_5, v_6, v_7, v_8, v_9, v_10, v_11, v_12, n_2, v_13, n_3, n_4, v_14, v_15, h_1, b_12, b_1, b_2, b_3, b_4, b_5, b_6, b_7, b_8, b_9, b_10, b_11⟩ := im0 hI
  replace b_1 : 1 ≤ n_1 := b_1
  replace b_2 : n_1 ≤ 1024 := b_2
  replace b_3 : fl ≤ 12 := b_3
  replace b_4 : pe ≤ 24 := b_4
  replace b_5 : le ≤ 700 := b_5
  replace b_6 : qu ≤ 12 := b_6
  replace b_7 : n_2 ≤ 8 := b_7
  replace b_8 : n_3 ≤ 24 := b_8
  replace b_9 : n_4 ≤ 24 := b_9
  replace b_10 : il ≤ 700 := b_10
  replace b_11 : nx ≤ 701 := b_11
  have h_2 : Φ x = some (o_ 14 [.int v_1, .ref (x + 1), .ref (x + 2), .int v_2, .int v_3, .int (nI n_1), .int v_4, .int v_5, .ref (x + 3), .ref (x + 4), .int v_6, .long v_7, .ref (x + 5), .int (nI fl), .int v_8, .long v_9, .long v_10, .long v_11, .long v_12, .ref (x + 6), .ref (x + 7), .int (nI pe), .ref (x + 8), .int (nI le), .ref (x + 9), .ref (x + 10), .int (nI qu), .ref (x + 11), .ref (x + 12), .ref (x + 13), .ref (x + 14), .ref (x + 15), .ref (x + 16), .int (nI n_2), .long v_13, .ref (x + 17), .ref (x + 18), .ref (x + 19), .ref (x + 20), .ref (x + 21), .ref (x + 22), .int (nI n_3), .ref (x + 23), .ref (x + 24), .int (nI n_4), .ref (x + 25), .int (nI il), .int (nI nx), .int ec, .int v_14, .int kn, .int v_15, .int nu, .long va]) := h_1
  refine z_callV (As := [.int a, .int b, .int d, .int f]) (rest := []) B (r_trueKeyOf G l Φ sz x rd fl pe le nx il qu kn ec nu va a b d f hx hI ) (cwV 4 B.1.2.2.2.2 gX12_truthOf_X12_trueKeyOf rfl rfl rfl (by decide +kernel) ⟨Nat.le_of_ble_eq_true rfl, Nat.le_of_ble_eq_true rfl⟩) h_2 rfl rfl rfl rfl (Nat.le_of_ble_eq_true rfl) dX12_truthOf_6 ⟨Nat.le_of_ble_eq_true rfl, Nat.le_of_ble_eq_true rfl⟩ (fun r_1 Φ1 sz1 st1 hp1 hs1 => ?_)
  obtain ⟨ha1, hq1, hI1, hF1⟩ := hp1
  subst sz1
  replace hI1 : Im G x (rd, NN, fl, pe, le, nx, il, qu, kn, ec, nu, va) Φ1 := hI1
  rcases ha1 with rfl | ⟨n_5, b_13, rfl⟩
  · replace hs1 : st1 = [.int (-1)] := hs1
    subst st1
    refine z_istore (lv' := [(6, .int (-1)), (0, .ref x), (1, .int a), (2, .int b), (3, .int d), (4, .int f), (5, .int (nI w))]) B dX12_truthOf_9 (Nat.le_of_ble_eq_true rfl) rfl ?_
    refine z_iload B dX12_truthOf_11 0 rfl ?_
    refine z_iconst (v := (-1)) B dX12_truthOf_13 rfl ?_
    refine z_icmp_ne (tgt := 21) B dX12_truthOf_14 rfl (fun h9 => absurd (by decide) h9) (fun c_1 => ?_)
    refine z_lconst (v := 0) B dX12_truthOf_17 rfl ?_
    refine z_goto (tgt := 33) B dX12_truthOf_18 rfl ?_
    exact z_ret_l B dX12_truthOf_33 ⟨⟨_, rfl⟩, rfl, hI1, (fun b9 h9 => ((hF1 b9 (fun j9 h8 h7 => (show False from h7).elim)).trans rfl))⟩
  · replace hs1 : st1 = [.int (nI n_5)] := hs1
    subst st1
    replace b_13 : n_5 < 24 := b_13
    refine z_istore (lv' := [(6, .int (nI n_5)), (0, .ref x), (1, .int a), (2, .int b), (3, .int d), (4, .int f), (5, .int (nI w))]) B dX12_truthOf_9 (Nat.le_of_ble_eq_true rfl) rfl ?_
    refine z_iload B dX12_truthOf_11 0 rfl ?_
    refine z_iconst (v := (-1)) B dX12_truthOf_13 rfl ?_
    refine z_icmp_ne (tgt := 21) B dX12_truthOf_14 rfl (fun c_2 => ?_) (fun h9 => absurd h9 (nI_nm1 (n := n_5) (by omega)))
    refine z_aload_n B dX12_truthOf_21 rfl 1 rfl ?_
    have h_3 : Φ1 x = some (o_ 14 [.int v_1, .ref (x + 1), .ref (x + 2), .int v_2, .int v_3, .int (nI n_1), .int v_4, .int v_5, .ref (x + 3), .ref (x + 4), .int v_6, .long v_7, .ref (x + 5), .int (nI fl), .int v_8, .long v_9, .long v_10, .long v_11, .long v_12, .ref (x + 6), .ref (x + 7), .int (nI pe), .ref (x + 8), .int (nI le), .ref (x + 9), .ref (x + 10), .int (nI qu), .ref (x + 11), .ref (x + 12), .ref (x + 13), .ref (x + 14), .ref (x + 15), .ref (x + 16), .int (nI n_2), .long v_13, .ref (x + 17), .ref (x + 18), .ref (x + 19), .ref (x + 20), .ref (x + 21), .ref (x + 22), .int (nI n_3), .ref (x + 23), .ref (x + 24), .int (nI n_4), .ref (x + 25), .int (nI il), .int (nI nx), .int ec, .int v_14, .int kn, .int v_15, .int nu, .long va]) := ((hF1 x (fun j9 h8 h7 => (show False from h7).elim)).trans h_2)
    refine z_get (ref := "FlowExporterModel") (C := RX12) (T := TX12) (N := 54) (ci := 14) (v := .ref (x + 24)) B (by decide +kernel) rfl 43 (by decide) (by decide +kernel) rfl h_3 rfl dX12_truthOf_22 ?_
    refine z_iconst (v := 2) B dX12_truthOf_25 rfl ?_
    refine z_iload B dX12_truthOf_26 0 rfl ?_
    refine z_imul B dX12_truthOf_28 ?_
    refine z_top (st1 := [.int (nI (2 * n_5)), .ref (x + 24)]) (congrArg (fun w9 : Int32 => ([.int w9, .ref (x + 24)] : List Value)) (nI_mul 2 n_5)) ?_
    refine z_iload B dX12_truthOf_29 6 rfl ?_
    refine z_iadd B dX12_truthOf_31 ?_
    refine z_top (st1 := [.int (nI (2 * n_5 + w)), .ref (x + 24)]) (congrArg (fun w9 : Int32 => ([.int w9, .ref (x + 24)] : List Value)) (nI_add (2 * n_5) w)) ?_
    obtain ⟨f_1, h_4⟩ := imk (k := 24) hI1
    have h_5 : Φ1 (x + 24) = some (al_ G 48 f_1) := h_4
    refine z_lald B h_5 (vp_in_nI (by omega) (by omega)) dX12_truthOf_32 ?_
    refine z_fl (fun v_16 => ?_)
    exact z_ret_l B dX12_truthOf_33 ⟨⟨_, rfl⟩, rfl, hI1, (fun b9 h9 => ((hF1 b9 (fun j9 h8 h7 => (show False from h7).elim)).trans rfl))⟩

set_option maxHeartbeats 4000000 in
set_option maxRecDepth 100000 in
theorem r_truth (G : EnvG) (l : Launch) (Φ : Hm) (sz x : Nat) (rd : (Nat → Int32) → Prop) (fl : Nat) (pe : Nat) (le : Nat) (nx : Nat) (il : Nat) (qu : Nat) (kn : Int32) (ec : Int32) (nu : Int32) (va : Int64) (a : Int32) (b : Int32) (d : Int32) (f : Int32) (g : Int32) (hx : G.2.2.2 ≤ x) (hI : Im G x (rd, NN, fl, pe, le, nx, il, qu, kn, ec, nu, va) Φ)  : Ct G l yX12_truth wsX12_truth ({ frames := 3, cells := 0, slots := 0, locals := 80 }) 0 0 [.ref x, .int a, .int b, .int d, .int f, .int g] Φ sz (fun v Φ1 sz1 => (∃ r9 : Int64, v = some (.long r9)) ∧ sz1 = sz ∧ (Im G x (rd, NN, fl, pe, le, nx, il, qu, kn, ec, nu, va) Φ1) ∧ Fr x (fun j9 => j9 = 0) Φ Φ1) := by
  refine Ct.of (cc := cX12_truth) (maxL := 6) (ret := (some .long)) (by decide) rfl (Nat.le_of_ble_eq_true rfl) ?_
  intro p9 e9 s9 m9 w9 t9 k9 B
  show Z p9 l e9 _ s9 m9 _ w9 t9 k9 _ G 6 0 [(0, .ref x), (1, .int a), (2, .int b), (3, .int d), (4, .int f), (5, .int g)] [] Φ sz 0 0
  refine z_aload_n B dX12_truth_0 rfl 0 rfl ?_
  refine z_iconst (v := 0) B dX12_truth_1 rfl ?_
  obtain ⟨v_1, v_2, v_3, n_1, v_4, v_5, v_6, v_7, v_8, v_9, v_10, v_11, v_12, n_2, v_13, n_3, n_4, v_14, v_15, h_1, b_12, b_1, b_2, b_3, b_4, b_5, b_6, b_7, b_8, b_9, b_10, b_11⟩ := im0 hI
  replace b_1 : 1 ≤ n_1 := b_1
  replace b_2 : n_1 ≤ 1024 := b_2
  replace b_3 : fl ≤ 12 := b_3
  replace b_4 : pe ≤ 24 := b_4
  replace b_5 : le ≤ 700 := b_5
  replace b_6 : qu ≤ 12 := b_6
  replace b_7 : n_2 ≤ 8 := b_7
  replace b_8 : n_3 ≤ 24 := b_8
  replace b_9 : n_4 ≤ 24 := b_9
  replace b_10 : il ≤ 700 := b_10
  replace b_11 : nx ≤ 701 := b_11
  have h_2 : Φ x = some (o_ 14 [.int v_1, .ref (x + 1), .ref (x + 2), .int v_2, .int v_3, .int (nI n_1), .int v_4, .int v_5, .ref (x + 3), .ref (x + 4), .int v_6, .long v_7, .ref (x + 5), .int (nI fl), .int v_8, .long v_9, .long v_10, .long v_11, .long v_12, .ref (x + 6), .ref (x + 7), .int (nI pe), .ref (x + 8), .int (nI le), .ref (x + 9), .ref (x + 10), .int (nI qu), .ref (x + 11), .ref (x + 12), .ref (x + 13), .ref (x + 14), .ref (x + 15), .ref (x + 16), .int (nI n_2), .long v_13, .ref (x + 17), .ref (x + 18), .ref (x + 19), .ref (x + 20), .ref (x + 21), .ref (x + 22), .int (nI n_3), .ref (x + 23), .ref (x + 24), .int (nI n_4), .ref (x + 25), .int (nI il), .int (nI nx), .int ec, .int v_14, .int kn, .int v_15, .int nu, .long va]) := h_1
  refine z_put (ref := "FlowExporterModel") (C := RX12) (T := TX12) (N := 54) (ci := 14) (v := .int 0) B (by decide +kernel) tyX12 tyX12_ok nmX12 rfl 0 (by decide) (by decide +kernel) rfl (Or.inl rfl) h_2 hx rfl rfl (Nat.le_of_ble_eq_true rfl) dX12_truth_2 (fun Φ1 hΦ1 => ?_)
  have h_3 : Φ1 x = some (o_ 14 [.int 0, .ref (x + 1), .ref (x + 2), .int v_2, .int v_3, .int (nI n_1), .int v_4, .int v_5, .ref (x + 3), .ref (x + 4), .int v_6, .long v_7, .ref (x + 5), .int (nI fl), .int v_8, .long v_9, .long v_10, .long v_11, .long v_12, .ref (x + 6), .ref (x + 7), .int (nI pe), .ref (x + 8), .int (nI le), .ref (x + 9), .ref (x + 10), .int (nI qu), .ref (x + 11), .ref (x + 12), .ref (x + 13), .ref (x + 14), .ref (x + 15), .ref (x + 16), .int (nI n_2), .long v_13, .ref (x + 17), .ref (x + 18), .ref (x + 19), .ref (x + 20), .ref (x + 21), .ref (x + 22), .int (nI n_3), .ref (x + 23), .ref (x + 24), .int (nI n_4), .ref (x + 25), .int (nI il), .int (nI nx), .int ec, .int v_14, .int kn, .int v_15, .int nu, .long va]) := fset_at hΦ1
  have hI1 : Im G x (rd, NN, fl, pe, le, nx, il, qu, kn, ec, nu, va) Φ1 := Im.put0 hI hΦ1 ⟨0, v_2, v_3, n_1, v_4, v_5, v_6, v_7, v_8, v_9, v_10, v_11, v_12, n_2, v_13, n_3, n_4, v_14, v_15, rfl, b_12, (show 1 ≤ n_1 by omega), (show n_1 ≤ 1024 by omega), (show fl ≤ 12 by omega), (show pe ≤ 24 by omega), (show le ≤ 700 by omega), (show qu ≤ 12 by omega), (show n_2 ≤ 8 by omega), (show n_3 ≤ 24 by omega), (show n_4 ≤ 24 by omega), (show il ≤ 700 by omega), (show nx ≤ 701 by omega)⟩
  refine z_aload_n B dX12_truth_5 rfl 0 rfl ?_
  refine z_iload B dX12_truth_6 5 rfl ?_
  refine z_callS (As := [.int g]) (rest := [.ref x]) B (r_isWhat G l Φ1 sz x rd fl pe le nx il qu kn ec nu va g hx hI1 ) (va_cwS 1 B.1.2.2.2.2 gX12_truth_X12_isWhat rfl rfl rfl (by decide +kernel) ⟨Nat.le_of_ble_eq_true rfl, Nat.le_of_ble_eq_true rfl⟩) rfl rfl (Nat.le_of_ble_eq_true rfl) dX12_truth_8 ⟨Nat.le_of_ble_eq_true rfl, Nat.le_of_ble_eq_true rfl⟩ (fun r_1 Φ2 sz1 st1 hp1 hs1 => ?_)
  obtain ⟨ha1, hq1, hI2, hF1⟩ := hp1
  subst sz1
  replace hI2 : Im G x (rd, NN, fl, pe, le, nx, il, qu, kn, ec, nu, va) Φ2 := hI2
  rcases ha1 with rfl | ⟨rfl, n_5, b_13, rfl⟩
  · replace hs1 : st1 = [.int 0, .ref x] := hs1
    subst st1
    refine z_if_ne (tgt := 18) B dX12_truth_11 rfl (fun h9 => absurd (by decide) h9) (fun c_1 => ?_)
    refine z_iconst (v := 1) B dX12_truth_14 rfl ?_
    refine z_goto (tgt := 19) B dX12_truth_15 rfl ?_
    refine z_iconst (v := 1) B dX12_truth_19 rfl ?_
    have h_4 : Φ2 x = some (o_ 14 [.int 0, .ref (x + 1), .ref (x + 2), .int v_2, .int v_3, .int (nI n_1), .int v_4, .int v_5, .ref (x + 3), .ref (x + 4), .int v_6, .long v_7, .ref (x + 5), .int (nI fl), .int v_8, .long v_9, .long v_10, .long v_11, .long v_12, .ref (x + 6), .ref (x + 7), .int (nI pe), .ref (x + 8), .int (nI le), .ref (x + 9), .ref (x + 10), .int (nI qu), .ref (x + 11), .ref (x + 12), .ref (x + 13), .ref (x + 14), .ref (x + 15), .ref (x + 16), .int (nI n_2), .long v_13, .ref (x + 17), .ref (x + 18), .ref (x + 19), .ref (x + 20), .ref (x + 21), .ref (x + 22), .int (nI n_3), .ref (x + 23), .ref (x + 24), .int (nI n_4), .ref (x + 25), .int (nI il), .int (nI nx), .int ec, .int v_14, .int kn, .int v_15, .int nu, .long va]) := ((hF1 x (fun j9 h8 h7 => (show False from h7).elim)).trans h_3)
    refine z_callV (As := [.int 1, .int 1]) (rest := []) B (r_throwsIf G l Φ2 sz x rd fl pe le nx il qu kn ec nu va 1 1 hx hI2 (by decide)) (cwV 2 B.1.2.2.2.2 gX12_truth_X12_throwsIf rfl rfl rfl (by decide +kernel) ⟨Nat.le_of_ble_eq_true rfl, Nat.le_of_ble_eq_true rfl⟩) h_4 rfl rfl rfl rfl (Nat.le_of_ble_eq_true rfl) dX12_truth_20 ⟨Nat.le_of_ble_eq_true rfl, Nat.le_of_ble_eq_true rfl⟩ (fun r_2 Φ3 sz2 st2 hp2 hs2 => ?_)
    obtain ⟨rfl, hq2, hI3, hF2⟩ := hp2
    subst sz2
    replace hs2 : st2 = [.int 1] := hs2
    subst st2
    replace hI3 : Im G x (rd, NN, fl, pe, le, nx, il, qu, kn, ec, nu, va) Φ3 := hI3
    refine z_if_eq (tgt := 30) B dX12_truth_23 rfl (fun h9 => absurd h9 (by decide)) (fun c_2 => ?_)
    refine z_lconst (v := 0) B dX12_truth_26 rfl ?_
    refine z_goto (tgt := 41) B dX12_truth_27 rfl ?_
    exact z_ret_l B dX12_truth_41 ⟨⟨_, rfl⟩, rfl, hI3, (fun b9 h9 => ((hF2 b9 (fun j9 h8 h7 => h9 j9 h8 (show j9 = 0 by have h6 : j9 = 0 := h7; omega))).trans ((hF1 b9 (fun j9 h8 h7 => (show False from h7).elim)).trans ((fset_fr hΦ1 (fun h8 => h9 (0) h8 (show 0 = 0 by omega))).trans rfl))))⟩
  · replace hs1 : st1 = [.int 1, .ref x] := hs1
    subst st1
    replace b_13 : n_5 < 2 := b_13
    refine z_if_ne (tgt := 18) B dX12_truth_11 rfl (fun c_3 => ?_) (fun h9 => absurd h9 (by decide))
    refine z_iconst (v := 0) B dX12_truth_18 rfl ?_
    refine z_iconst (v := 1) B dX12_truth_19 rfl ?_
    have h_5 : Φ2 x = some (o_ 14 [.int 0, .ref (x + 1), .ref (x + 2), .int v_2, .int v_3, .int (nI n_1), .int v_4, .int v_5, .ref (x + 3), .ref (x + 4), .int v_6, .long v_7, .ref (x + 5), .int (nI fl), .int v_8, .long v_9, .long v_10, .long v_11, .long v_12, .ref (x + 6), .ref (x + 7), .int (nI pe), .ref (x + 8), .int (nI le), .ref (x + 9), .ref (x + 10), .int (nI qu), .ref (x + 11), .ref (x + 12), .ref (x + 13), .ref (x + 14), .ref (x + 15), .ref (x + 16), .int (nI n_2), .long v_13, .ref (x + 17), .ref (x + 18), .ref (x + 19), .ref (x + 20), .ref (x + 21), .ref (x + 22), .int (nI n_3), .ref (x + 23), .ref (x + 24), .int (nI n_4), .ref (x + 25), .int (nI il), .int (nI nx), .int ec, .int v_14, .int kn, .int v_15, .int nu, .long va]) := ((hF1 x (fun j9 h8 h7 => (show False from h7).elim)).trans h_3)
    refine z_callV (As := [.int 0, .int 1]) (rest := []) B (r_throwsIf G l Φ2 sz x rd fl pe le nx il qu kn ec nu va 0 1 hx hI2 (by decide)) (cwV 2 B.1.2.2.2.2 gX12_truth_X12_throwsIf rfl rfl rfl (by decide +kernel) ⟨Nat.le_of_ble_eq_true rfl, Nat.le_of_ble_eq_true rfl⟩) h_5 rfl rfl rfl rfl (Nat.le_of_ble_eq_true rfl) dX12_truth_20 ⟨Nat.le_of_ble_eq_true rfl, Nat.le_of_ble_eq_true rfl⟩ (fun r_3 Φ4 sz3 st3 hp3 hs3 => ?_)
    obtain ⟨rfl, hq3, hI4, hF3⟩ := hp3
    subst sz3
    replace hs3 : st3 = [.int 0] := hs3
    subst st3
    replace hI4 : Im G x (rd, NN, fl, pe, le, nx, il, qu, kn, ec, nu, va) Φ4 := hI4
    refine z_if_eq (tgt := 30) B dX12_truth_23 rfl (fun c_4 => ?_) (fun h9 => absurd (by decide) h9)
    refine z_aload_n B dX12_truth_30 rfl 0 rfl ?_
    refine z_iload_n B dX12_truth_31 rfl 1 rfl ?_
    refine z_iload_n B dX12_truth_32 rfl 2 rfl ?_
    refine z_iload_n B dX12_truth_33 rfl 3 rfl ?_
    refine z_iload B dX12_truth_34 4 rfl ?_
    refine z_iload B dX12_truth_36 5 rfl ?_
    obtain ⟨v_16, v_17, v_18, n_6, v_19, v_20, v_21, v_22, v_23, v_24, v_25, v_26, v_27, n_7, v_28, n_8, n_9, v_29, v_30, h_6, b_25, b_14, b_15, b_16, b_17, b_18, b_19, b_20, b_21, b_22, b_23, b_24⟩ := im0 hI4
    replace b_14 : 1 ≤ n_6 := b_14
    replace b_15 : n_6 ≤ 1024 := b_15
    replace b_16 : fl ≤ 12 := b_16
    replace b_17 : pe ≤ 24 := b_17
    replace b_18 : le ≤ 700 := b_18
    replace b_19 : qu ≤ 12 := b_19
    replace b_20 : n_7 ≤ 8 := b_20
    replace b_21 : n_8 ≤ 24 := b_21
    replace b_22 : n_9 ≤ 24 := b_22
    replace b_23 : il ≤ 700 := b_23
    replace b_24 : nx ≤ 701 := b_24
    have h_7 : Φ4 x = some (o_ 14 [.int v_16, .ref (x + 1), .ref (x + 2), .int v_17, .int v_18, .int (nI n_6), .int v_19, .int v_20, .ref (x + 3), .ref (x + 4), .int v_21, .long v_22, .ref (x + 5), .int (nI fl), .int v_23, .long v_24, .long v_25, .long v_26, .long v_27, .ref (x + 6), .ref (x + 7), .int (nI pe), .ref (x + 8), .int (nI le), .ref (x + 9), .ref (x + 10), .int (nI qu), .ref (x + 11), .ref (x + 12), .ref (x + 13), .ref (x + 14), .ref (x + 15), .ref (x + 16), .int (nI n_7), .long v_28, .ref (x + 17), .ref (x + 18), .ref (x + 19), .ref (x + 20), .ref (x + 21), .ref (x + 22), .int (nI n_8), .ref (x + 23), .ref (x + 24), .int (nI n_9), .ref (x + 25), .int (nI il), .int (nI nx), .int ec, .int v_29, .int kn, .int v_30, .int nu, .long va]) := h_6
    refine z_callV (As := [.int a, .int b, .int d, .int f, .int (nI n_5)]) (rest := []) B (r_truthOf G l Φ4 sz x rd fl pe le nx il qu kn ec nu va a b d f n_5 hx hI4 (show n_5 < 2 by omega)) (cwV 5 B.1.2.2.2.2 gX12_truth_X12_truthOf rfl rfl rfl (by decide +kernel) ⟨Nat.le_of_ble_eq_true rfl, Nat.le_of_ble_eq_true rfl⟩) h_7 rfl rfl rfl rfl (Nat.le_of_ble_eq_true rfl) dX12_truth_38 ⟨Nat.le_of_ble_eq_true rfl, Nat.le_of_ble_eq_true rfl⟩ (fun r_4 Φ5 sz4 st4 hp4 hs4 => ?_)
    obtain ⟨⟨v_31, rfl⟩, hq4, hI5, hF4⟩ := hp4
    subst sz4
    replace hs4 : st4 = [.long v_31] := hs4
    subst st4
    replace hI5 : Im G x (rd, NN, fl, pe, le, nx, il, qu, kn, ec, nu, va) Φ5 := hI5
    exact z_ret_l B dX12_truth_41 ⟨⟨_, rfl⟩, rfl, hI5, (fun b9 h9 => ((hF4 b9 (fun j9 h8 h7 => (show False from h7).elim)).trans ((hF3 b9 (fun j9 h8 h7 => h9 j9 h8 (show j9 = 0 by have h6 : j9 = 0 := h7; omega))).trans ((hF1 b9 (fun j9 h8 h7 => (show False from h7).elim)).trans ((fset_fr hΦ1 (fun h8 => h9 (0) h8 (show 0 = 0 by omega))).trans rfl)))))⟩

set_option maxHeartbeats 4000000 in
set_option maxRecDepth 100000 in
theorem r_covered (G : EnvG) (l : Launch) (Φ : Hm) (sz x : Nat) (rd : (Nat → Int32) → Prop) (fl : Nat) (pe : Nat) (le : Nat) (nx : Nat) (il : Nat) (qu : Nat) (kn : Int32) (ec : Int32) (nu : Int32) (va : Int64) (a : Int32) (hx : G.2.2.2 ≤ x) (hI : Im G x (rd, NN, fl, pe, le, nx, il, qu, kn, ec, nu, va) Φ)  : Ct G l yX12_covered wsX12_covered ({ frames := 5, cells := 0, slots := 0, locals := 120 }) 0 0 [.ref x, .int a] Φ sz (fun v Φ1 sz1 => (∃ r9 : Int32, v = some (.int r9)) ∧ sz1 = sz ∧ (Im G x (rd, NN, fl, pe, le, nx, il, qu, kn, ec, nu, va) Φ1) ∧ Fr x (fun j9 => j9 = 0) Φ Φ1) := by
  refine Ct.of (cc := cX12_covered) (maxL := 6) (ret := (some .int)) (by decide) rfl (Nat.le_of_ble_eq_true rfl) ?_
  intro p9 e9 s9 m9 w9 t9 k9 B
  show Z p9 l e9 _ s9 m9 _ w9 t9 k9 _ G 6 0 [(0, .ref x), (1, .int a)] [] Φ sz 0 0
  refine z_aload_n B dX12_covered_0 rfl 0 rfl ?_
  refine z_iconst (v := 0) B dX12_covered_1 rfl ?_
  obtain ⟨v_1, v_2, v_3, n_1, v_4, v_5, v_6, v_7, v_8, v_9, v_10, v_11, v_12, n_2, v_13, n_3, n_4, v_14, v_15, h_1, b_12, b_1, b_2, b_3, b_4, b_5, b_6, b_7, b_8, b_9, b_10, b_11⟩ := im0 hI
  replace b_1 : 1 ≤ n_1 := b_1
  replace b_2 : n_1 ≤ 1024 := b_2
  replace b_3 : fl ≤ 12 := b_3
  replace b_4 : pe ≤ 24 := b_4
  replace b_5 : le ≤ 700 := b_5
  replace b_6 : qu ≤ 12 := b_6
  replace b_7 : n_2 ≤ 8 := b_7
  replace b_8 : n_3 ≤ 24 := b_8
  replace b_9 : n_4 ≤ 24 := b_9
  replace b_10 : il ≤ 700 := b_10
  replace b_11 : nx ≤ 701 := b_11
  have h_2 : Φ x = some (o_ 14 [.int v_1, .ref (x + 1), .ref (x + 2), .int v_2, .int v_3, .int (nI n_1), .int v_4, .int v_5, .ref (x + 3), .ref (x + 4), .int v_6, .long v_7, .ref (x + 5), .int (nI fl), .int v_8, .long v_9, .long v_10, .long v_11, .long v_12, .ref (x + 6), .ref (x + 7), .int (nI pe), .ref (x + 8), .int (nI le), .ref (x + 9), .ref (x + 10), .int (nI qu), .ref (x + 11), .ref (x + 12), .ref (x + 13), .ref (x + 14), .ref (x + 15), .ref (x + 16), .int (nI n_2), .long v_13, .ref (x + 17), .ref (x + 18), .ref (x + 19), .ref (x + 20), .ref (x + 21), .ref (x + 22), .int (nI n_3), .ref (x + 23), .ref (x + 24), .int (nI n_4), .ref (x + 25), .int (nI il), .int (nI nx), .int ec, .int v_14, .int kn, .int v_15, .int nu, .long va]) := h_1
  refine z_put (ref := "FlowExporterModel") (C := RX12) (T := TX12) (N := 54) (ci := 14) (v := .int 0) B (by decide +kernel) tyX12 tyX12_ok nmX12 rfl 0 (by decide) (by decide +kernel) rfl (Or.inl rfl) h_2 hx rfl rfl (Nat.le_of_ble_eq_true rfl) dX12_covered_2 (fun Φ1 hΦ1 => ?_)
  have h_3 : Φ1 x = some (o_ 14 [.int 0, .ref (x + 1), .ref (x + 2), .int v_2, .int v_3, .int (nI n_1), .int v_4, .int v_5, .ref (x + 3), .ref (x + 4), .int v_6, .long v_7, .ref (x + 5), .int (nI fl), .int v_8, .long v_9, .long v_10, .long v_11, .long v_12, .ref (x + 6), .ref (x + 7), .int (nI pe), .ref (x + 8), .int (nI le), .ref (x + 9), .ref (x + 10), .int (nI qu), .ref (x + 11), .ref (x + 12), .ref (x + 13), .ref (x + 14), .ref (x + 15), .ref (x + 16), .int (nI n_2), .long v_13, .ref (x + 17), .ref (x + 18), .ref (x + 19), .ref (x + 20), .ref (x + 21), .ref (x + 22), .int (nI n_3), .ref (x + 23), .ref (x + 24), .int (nI n_4), .ref (x + 25), .int (nI il), .int (nI nx), .int ec, .int v_14, .int kn, .int v_15, .int nu, .long va]) := fset_at hΦ1
  have hI1 : Im G x (rd, NN, fl, pe, le, nx, il, qu, kn, ec, nu, va) Φ1 := Im.put0 hI hΦ1 ⟨0, v_2, v_3, n_1, v_4, v_5, v_6, v_7, v_8, v_9, v_10, v_11, v_12, n_2, v_13, n_3, n_4, v_14, v_15, rfl, b_12, (show 1 ≤ n_1 by omega), (show n_1 ≤ 1024 by omega), (show fl ≤ 12 by omega), (show pe ≤ 24 by omega), (show le ≤ 700 by omega), (show qu ≤ 12 by omega), (show n_2 ≤ 8 by omega), (show n_3 ≤ 24 by omega), (show n_4 ≤ 24 by omega), (show il ≤ 700 by omega), (show nx ≤ 701 by omega)⟩
  refine z_aload_n B dX12_covered_5 rfl 0 rfl ?_
  refine z_iload_n B dX12_covered_6 rfl 1 rfl ?_
  refine z_callS (As := [.int a]) (rest := [.ref x]) B (r_isWhat G l Φ1 sz x rd fl pe le nx il qu kn ec nu va a hx hI1 ) (va_cwS 1 B.1.2.2.2.2 gX12_covered_X12_isWhat rfl rfl rfl (by decide +kernel) ⟨Nat.le_of_ble_eq_true rfl, Nat.le_of_ble_eq_true rfl⟩) rfl rfl (Nat.le_of_ble_eq_true rfl) dX12_covered_7 ⟨Nat.le_of_ble_eq_true rfl, Nat.le_of_ble_eq_true rfl⟩ (fun r_1 Φ2 sz1 st1 hp1 hs1 => ?_)
  obtain ⟨ha1, hq1, hI2, hF1⟩ := hp1
  subst sz1
  replace hI2 : Im G x (rd, NN, fl, pe, le, nx, il, qu, kn, ec, nu, va) Φ2 := hI2
  rcases ha1 with rfl | ⟨rfl, n_5, b_13, rfl⟩
  · replace hs1 : st1 = [.int 0, .ref x] := hs1
    subst st1
    refine z_if_ne (tgt := 17) B dX12_covered_10 rfl (fun h9 => absurd (by decide) h9) (fun c_1 => ?_)
    refine z_iconst (v := 1) B dX12_covered_13 rfl ?_
    refine z_goto (tgt := 18) B dX12_covered_14 rfl ?_
    refine z_iconst (v := 1) B dX12_covered_18 rfl ?_
    have h_4 : Φ2 x = some (o_ 14 [.int 0, .ref (x + 1), .ref (x + 2), .int v_2, .int v_3, .int (nI n_1), .int v_4, .int v_5, .ref (x + 3), .ref (x + 4), .int v_6, .long v_7, .ref (x + 5), .int (nI fl), .int v_8, .long v_9, .long v_10, .long v_11, .long v_12, .ref (x + 6), .ref (x + 7), .int (nI pe), .ref (x + 8), .int (nI le), .ref (x + 9), .ref (x + 10), .int (nI qu), .ref (x + 11), .ref (x + 12), .ref (x + 13), .ref (x + 14), .ref (x + 15), .ref (x + 16), .int (nI n_2), .long v_13, .ref (x + 17), .ref (x + 18), .ref (x + 19), .ref (x + 20), .ref (x + 21), .ref (x + 22), .int (nI n_3), .ref (x + 23), .ref (x + 24), .int (nI n_4), .ref (x + 25), .int (nI il), .int (nI nx), .int ec, .int v_14, .int kn, .int v_15, .int nu, .long va]) := ((hF1 x (fun j9 h8 h7 => (show False from h7).elim)).trans h_3)
    refine z_callV (As := [.int 1, .int 1]) (rest := []) B (r_throwsIf G l Φ2 sz x rd fl pe le nx il qu kn ec nu va 1 1 hx hI2 (by decide)) (cwV 2 B.1.2.2.2.2 gX12_covered_X12_throwsIf rfl rfl rfl (by decide +kernel) ⟨Nat.le_of_ble_eq_true rfl, Nat.le_of_ble_eq_true rfl⟩) h_4 rfl rfl rfl rfl (Nat.le_of_ble_eq_true rfl) dX12_covered_19 ⟨Nat.le_of_ble_eq_true rfl, Nat.le_of_ble_eq_true rfl⟩ (fun r_2 Φ3 sz2 st2 hp2 hs2 => ?_)
    obtain ⟨rfl, hq2, hI3, hF2⟩ := hp2
    subst sz2
    replace hs2 : st2 = [.int 1] := hs2
    subst st2
    replace hI3 : Im G x (rd, NN, fl, pe, le, nx, il, qu, kn, ec, nu, va) Φ3 := hI3
    refine z_if_eq (tgt := 27) B dX12_covered_22 rfl (fun h9 => absurd h9 (by decide)) (fun c_2 => ?_)
    refine z_iconst (v := 0) B dX12_covered_25 rfl ?_
    exact z_ret_i B dX12_covered_26 ⟨⟨_, rfl⟩, rfl, hI3, (fun b9 h9 => ((hF2 b9 (fun j9 h8 h7 => h9 j9 h8 (show j9 = 0 by have h6 : j9 = 0 := h7; omega))).trans ((hF1 b9 (fun j9 h8 h7 => (show False from h7).elim)).trans ((fset_fr hΦ1 (fun h8 => h9 (0) h8 (show 0 = 0 by omega))).trans rfl))))⟩
  · replace hs1 : st1 = [.int 1, .ref x] := hs1
    subst st1
    replace b_13 : n_5 < 2 := b_13
    refine z_if_ne (tgt := 17) B dX12_covered_10 rfl (fun c_3 => ?_) (fun h9 => absurd h9 (by decide))
    refine z_iconst (v := 0) B dX12_covered_17 rfl ?_
    refine z_iconst (v := 1) B dX12_covered_18 rfl ?_
    have h_5 : Φ2 x = some (o_ 14 [.int 0, .ref (x + 1), .ref (x + 2), .int v_2, .int v_3, .int (nI n_1), .int v_4, .int v_5, .ref (x + 3), .ref (x + 4), .int v_6, .long v_7, .ref (x + 5), .int (nI fl), .int v_8, .long v_9, .long v_10, .long v_11, .long v_12, .ref (x + 6), .ref (x + 7), .int (nI pe), .ref (x + 8), .int (nI le), .ref (x + 9), .ref (x + 10), .int (nI qu), .ref (x + 11), .ref (x + 12), .ref (x + 13), .ref (x + 14), .ref (x + 15), .ref (x + 16), .int (nI n_2), .long v_13, .ref (x + 17), .ref (x + 18), .ref (x + 19), .ref (x + 20), .ref (x + 21), .ref (x + 22), .int (nI n_3), .ref (x + 23), .ref (x + 24), .int (nI n_4), .ref (x + 25), .int (nI il), .int (nI nx), .int ec, .int v_14, .int kn, .int v_15, .int nu, .long va]) := ((hF1 x (fun j9 h8 h7 => (show False from h7).elim)).trans h_3)
    refine z_callV (As := [.int 0, .int 1]) (rest := []) B (r_throwsIf G l Φ2 sz x rd fl pe le nx il qu kn ec nu va 0 1 hx hI2 (by decide)) (cwV 2 B.1.2.2.2.2 gX12_covered_X12_throwsIf rfl rfl rfl (by decide +kernel) ⟨Nat.le_of_ble_eq_true rfl, Nat.le_of_ble_eq_true rfl⟩) h_5 rfl rfl rfl rfl (Nat.le_of_ble_eq_true rfl) dX12_covered_19 ⟨Nat.le_of_ble_eq_true rfl, Nat.le_of_ble_eq_true rfl⟩ (fun r_3 Φ4 sz3 st3 hp3 hs3 => ?_)
    obtain ⟨rfl, hq3, hI4, hF3⟩ := hp3
    subst sz3
    replace hs3 : st3 = [.int 0] := hs3
    subst st3
    replace hI4 : Im G x (rd, NN, fl, pe, le, nx, il, qu, kn, ec, nu, va) Φ4 := hI4
    refine z_if_eq (tgt := 27) B dX12_covered_22 rfl (fun c_4 => ?_) (fun h9 => absurd (by decide) h9)
    refine z_iconst (v := 0) B dX12_covered_27 rfl ?_
    refine z_istore_n (lv' := [(2, .int 0), (0, .ref x), (1, .int (nI n_5))]) B dX12_covered_28 rfl (Nat.le_of_ble_eq_true rfl) rfl ?_
    refine z_iconst (v := 0) B dX12_covered_29 rfl ?_
    refine z_istore_n (lv' := [(3, .int 0), (2, .int 0), (0, .ref x), (1, .int (nI n_5))]) B dX12_covered_30 rfl (Nat.le_of_ble_eq_true rfl) rfl ?_
    refine z_lv [0, 1, 2, 3] rfl ?_
    refine z_loop (α := Nat × Int32) (fun (a9 : Nat × Int32) Φi => Im G x (rd, NN, fl, pe, le, nx, il, qu, kn, ec, nu, va) Φi ∧ Fr x (fun j9 => False) Φ4 Φi ∧ (a9.1 ≤ 24) ∧ True) (fun a9 => [(3, .int (nI (a9.1))), (2, .int a9.2), (0, .ref x), (1, .int (nI n_5))]) (fun a9 => 24 - a9.1) ?_ (0, 0) ⟨hI4, fun _ _ => rfl, (show 0 ≤ 24 by omega), trivial⟩
    rintro ⟨i_1, i_2⟩ Φl1 ⟨hI5, hF4, b_14, -⟩ ih1
    replace hI5 : Im G x (rd, NN, fl, pe, le, nx, il, qu, kn, ec, nu, va) Φl1 := hI5
    replace b_14 : i_1 ≤ 24 := b_14
    show Z p9 l e9 _ s9 m9 _ w9 t9 k9 _ G 6 31 [(3, .int (nI i_1)), (2, .int i_2), (0, .ref x), (1, .int (nI n_5))] [] Φl1 _ _ _
    refine z_iload_n B dX12_covered_31 rfl 0 rfl ?_
    refine z_aload_n B dX12_covered_32 rfl 2 rfl ?_
    obtain ⟨v_16, v_17, v_18, n_6, v_19, v_20, v_21, v_22, v_23, v_24, v_25, v_26, v_27, n_7, v_28, n_8, n_9, v_29, v_30, h_6, b_26, b_15, b_16, b_17, b_18, b_19, b_20, b_21, b_22, b_23, b_24, b_25⟩ := im0 hI5
    replace b_15 : 1 ≤ n_6 := b_15
    replace b_16 : n_6 ≤ 1024 := b_16
    replace b_17 : fl ≤ 12 := b_17
    replace b_18 : pe ≤ 24 := b_18
    replace b_19 : le ≤ 700 := b_19
    replace b_20 : qu ≤ 12 := b_20
    replace b_21 : n_7 ≤ 8 := b_21
    replace b_22 : n_8 ≤ 24 := b_22
    replace b_23 : n_9 ≤ 24 := b_23
    replace b_24 : il ≤ 700 := b_24
    replace b_25 : nx ≤ 701 := b_25
    have h_7 : Φl1 x = some (o_ 14 [.int v_16, .ref (x + 1), .ref (x + 2), .int v_17, .int v_18, .int (nI n_6), .int v_19, .int v_20, .ref (x + 3), .ref (x + 4), .int v_21, .long v_22, .ref (x + 5), .int (nI fl), .int v_23, .long v_24, .long v_25, .long v_26, .long v_27, .ref (x + 6), .ref (x + 7), .int (nI pe), .ref (x + 8), .int (nI le), .ref (x + 9), .ref (x + 10), .int (nI qu), .ref (x + 11), .ref (x + 12), .ref (x + 13), .ref (x + 14), .ref (x + 15), .ref (x + 16), .int (nI n_7), .long v_28, .ref (x + 17), .ref (x + 18), .ref (x + 19), .ref (x + 20), .ref (x + 21), .ref (x + 22), .int (nI n_8), .ref (x + 23), .ref (x + 24), .int (nI n_9), .ref (x + 25), .int (nI il), .int (nI nx), .int ec, .int v_29, .int kn, .int v_30, .int nu, .long va]) := h_6
    refine z_get (ref := "FlowExporterModel") (C := RX12) (T := TX12) (N := 54) (ci := 14) (v := .int (nI n_8)) B (by decide +kernel) rfl 41 (by decide) (by decide +kernel) rfl h_7 rfl dX12_covered_33 ?_
    refine z_icmp_ge (tgt := 123) B dX12_covered_36 rfl (fun c_5 => ?_) (fun c_5 => ?_)
    · have e_1 : n_8 ≤ i_1 := (nI_leI (a := n_8) (b := i_1) (by omega) (by omega)).mp c_5
      refine z_iload_n B dX12_covered_123 rfl 1 rfl ?_
      exact z_ret_i B dX12_covered_124 ⟨⟨_, rfl⟩, rfl, hI5, (fun b9 h9 => ((hF4 b9 (fun j9 h8 h7 => (show False from h7).elim)).trans ((hF3 b9 (fun j9 h8 h7 => h9 j9 h8 (show j9 = 0 by have h6 : j9 = 0 := h7; omega))).trans ((hF1 b9 (fun j9 h8 h7 => (show False from h7).elim)).trans ((fset_fr hΦ1 (fun h8 => h9 (0) h8 (show 0 = 0 by omega))).trans rfl)))))⟩
    · have e_2 : ¬ (n_8 ≤ i_1) := fun h9 => c_5 ((nI_leI (a := n_8) (b := i_1) (by omega) (by omega)).mpr h9)
      refine z_aload_n B dX12_covered_39 rfl 2 rfl ?_
      refine z_aload_n B dX12_covered_40 rfl 2 rfl ?_
      refine z_get (ref := "FlowExporterModel") (C := RX12) (T := TX12) (N := 54) (ci := 14) (v := .ref (x + 19)) B (by decide +kernel) rfl 37 (by decide) (by decide +kernel) rfl h_7 rfl dX12_covered_41 ?_
      refine z_iconst (v := 4) B dX12_covered_44 rfl ?_
      refine z_iload_n B dX12_covered_45 rfl 0 rfl ?_
      refine z_imul B dX12_covered_46 ?_
      refine z_top (st1 := [.int (nI (4 * i_1)), .ref (x + 19), .ref x]) (congrArg (fun w9 : Int32 => ([.int w9, .ref (x + 19), .ref x] : List Value)) (nI_mul 4 i_1)) ?_
      obtain ⟨f_1, h_8⟩ := imk (k := 19) hI5
      have h_9 : Φl1 (x + 19) = some (ai_ G 96 f_1) := h_8
      refine z_iald B h_9 (vp_in_nI (by omega) (by omega)) dX12_covered_47 ?_
      refine z_fi (fun v_31 => ?_)
      refine z_aload_n B dX12_covered_48 rfl 2 rfl ?_
      refine z_get (ref := "FlowExporterModel") (C := RX12) (T := TX12) (N := 54) (ci := 14) (v := .ref (x + 19)) B (by decide +kernel) rfl 37 (by decide) (by decide +kernel) rfl h_7 rfl dX12_covered_49 ?_
      refine z_iconst (v := 4) B dX12_covered_52 rfl ?_
      refine z_iload_n B dX12_covered_53 rfl 0 rfl ?_
      refine z_imul B dX12_covered_54 ?_
      refine z_top (st1 := [.int (nI (4 * i_1)), .ref (x + 19), .int v_31, .ref x]) (congrArg (fun w9 : Int32 => ([.int w9, .ref (x + 19), .int v_31, .ref x] : List Value)) (nI_mul 4 i_1)) ?_
      refine z_iconst (v := 1) B dX12_covered_55 rfl ?_
      refine z_iadd B dX12_covered_56 ?_
      refine z_top (st1 := [.int (nI (4 * i_1 + 1)), .ref (x + 19), .int v_31, .ref x]) (congrArg (fun w9 : Int32 => ([.int w9, .ref (x + 19), .int v_31, .ref x] : List Value)) (nI_add (4 * i_1) 1)) ?_
      refine z_iald B h_9 (vp_in_nI (by omega) (by omega)) dX12_covered_57 ?_
      refine z_fi (fun v_32 => ?_)
      refine z_aload_n B dX12_covered_58 rfl 2 rfl ?_
      refine z_get (ref := "FlowExporterModel") (C := RX12) (T := TX12) (N := 54) (ci := 14) (v := .ref (x + 19)) B (by decide +kernel) rfl 37 (by decide) (by decide +kernel) rfl h_7 rfl dX12_covered_59 ?_
      refine z_iconst (v := 4) B dX12_covered_62 rfl ?_
      refine z_iload_n B dX12_covered_63 rfl 0 rfl ?_
      refine z_imul B dX12_covered_64 ?_
      refine z_top (st1 := [.int (nI (4 * i_1)), .ref (x + 19), .int v_32, .int v_31, .ref x]) (congrArg (fun w9 : Int32 => ([.int w9, .ref (x + 19), .int v_32, .int v_31, .ref x] : List Value)) (nI_mul 4 i_1)) ?_
      refine z_iconst (v := 2) B dX12_covered_65 rfl ?_
      refine z_iadd B dX12_covered_66 ?_
      refine z_top (st1 := [.int (nI (4 * i_1 + 2)), .ref (x + 19), .int v_32, .int v_31, .ref x]) (congrArg (fun w9 : Int32 => ([.int w9, .ref (x + 19), .int v_32, .int v_31, .ref x] : List Value)) (nI_add (4 * i_1) 2)) ?_
      refine z_iald B h_9 (vp_in_nI (by omega) (by omega)) dX12_covered_67 ?_
      refine z_fi (fun v_33 => ?_)
      refine z_aload_n B dX12_covered_68 rfl 2 rfl ?_
      refine z_get (ref := "FlowExporterModel") (C := RX12) (T := TX12) (N := 54) (ci := 14) (v := .ref (x + 19)) B (by decide +kernel) rfl 37 (by decide) (by decide +kernel) rfl h_7 rfl dX12_covered_69 ?_
      refine z_iconst (v := 4) B dX12_covered_72 rfl ?_
      refine z_iload_n B dX12_covered_73 rfl 0 rfl ?_
      refine z_imul B dX12_covered_74 ?_
      refine z_top (st1 := [.int (nI (4 * i_1)), .ref (x + 19), .int v_33, .int v_32, .int v_31, .ref x]) (congrArg (fun w9 : Int32 => ([.int w9, .ref (x + 19), .int v_33, .int v_32, .int v_31, .ref x] : List Value)) (nI_mul 4 i_1)) ?_
      refine z_iconst (v := 3) B dX12_covered_75 rfl ?_
      refine z_iadd B dX12_covered_76 ?_
      refine z_top (st1 := [.int (nI (4 * i_1 + 3)), .ref (x + 19), .int v_33, .int v_32, .int v_31, .ref x]) (congrArg (fun w9 : Int32 => ([.int w9, .ref (x + 19), .int v_33, .int v_32, .int v_31, .ref x] : List Value)) (nI_add (4 * i_1) 3)) ?_
      refine z_iald B h_9 (vp_in_nI (by omega) (by omega)) dX12_covered_77 ?_
      refine z_fi (fun v_34 => ?_)
      refine z_iload_n B dX12_covered_78 rfl 3 rfl ?_
      refine z_callV (As := [.int v_31, .int v_32, .int v_33, .int v_34, .int (nI n_5)]) (rest := []) B (r_truthOf G l Φl1 sz x rd fl pe le nx il qu kn ec nu va v_31 v_32 v_33 v_34 n_5 hx hI5 (show n_5 < 2 by omega)) (cwV 5 B.1.2.2.2.2 gX12_covered_X12_truthOf rfl rfl rfl (by decide +kernel) ⟨Nat.le_of_ble_eq_true rfl, Nat.le_of_ble_eq_true rfl⟩) h_7 rfl rfl rfl rfl (Nat.le_of_ble_eq_true rfl) dX12_covered_79 ⟨Nat.le_of_ble_eq_true rfl, Nat.le_of_ble_eq_true rfl⟩ (fun r_5 Φ5 sz4 st4 hp4 hs4 => ?_)
      obtain ⟨⟨v_35, rfl⟩, hq4, hI6, hF5⟩ := hp4
      subst sz4
      replace hs4 : st4 = [.long v_35] := hs4
      subst st4
      replace hI6 : Im G x (rd, NN, fl, pe, le, nx, il, qu, kn, ec, nu, va) Φ5 := hI6
      refine z_l2d B dX12_covered_82 ?_
      refine z_fdq (P := fun u9 : UInt64 => sm64 12 u9) (l2d_sm v_35) (fun v_36 q_2 => ?_)
      replace q_2 : sm64 12 v_36 := q_2
      refine z_dstore (lv' := [(4, .double v_36), (3, .int (nI i_1)), (2, .int i_2), (0, .ref x), (1, .int (nI n_5))]) B dX12_covered_83 (Nat.le_of_ble_eq_true rfl) rfl ?_
      refine z_iload_n B dX12_covered_85 rfl 2 rfl ?_
      refine z_dload B dX12_covered_86 0 rfl ?_
      refine z_aload_n B dX12_covered_88 rfl 3 rfl ?_
      refine z_iload_n B dX12_covered_89 rfl 1 rfl ?_
      refine z_iload_n B dX12_covered_90 rfl 4 rfl ?_
      have h_10 : Φ5 x = some (o_ 14 [.int v_16, .ref (x + 1), .ref (x + 2), .int v_17, .int v_18, .int (nI n_6), .int v_19, .int v_20, .ref (x + 3), .ref (x + 4), .int v_21, .long v_22, .ref (x + 5), .int (nI fl), .int v_23, .long v_24, .long v_25, .long v_26, .long v_27, .ref (x + 6), .ref (x + 7), .int (nI pe), .ref (x + 8), .int (nI le), .ref (x + 9), .ref (x + 10), .int (nI qu), .ref (x + 11), .ref (x + 12), .ref (x + 13), .ref (x + 14), .ref (x + 15), .ref (x + 16), .int (nI n_7), .long v_28, .ref (x + 17), .ref (x + 18), .ref (x + 19), .ref (x + 20), .ref (x + 21), .ref (x + 22), .int (nI n_8), .ref (x + 23), .ref (x + 24), .int (nI n_9), .ref (x + 25), .int (nI il), .int (nI nx), .int ec, .int v_29, .int kn, .int v_30, .int nu, .long va]) := ((hF5 x (fun j9 h8 h7 => (show False from h7).elim)).trans h_7)
      refine z_callV (As := [.int (nI i_1), .int (nI n_5)]) (rest := [.double v_36, .int i_2]) B (r_lowerOf G l Φ5 sz x rd fl pe le nx il qu kn ec nu va i_1 n_5 hx hI6 (show i_1 < 24 by omega) (show n_5 < 2 by omega)) (cwV 2 B.1.2.2.2.2 gX12_covered_X12_lowerOf rfl rfl rfl (by decide +kernel) ⟨Nat.le_of_ble_eq_true rfl, Nat.le_of_ble_eq_true rfl⟩) h_10 rfl rfl rfl rfl (Nat.le_of_ble_eq_true rfl) dX12_covered_91 ⟨Nat.le_of_ble_eq_true rfl, Nat.le_of_ble_eq_true rfl⟩ (fun r_6 Φ6 sz5 st5 hp5 hs5 => ?_)
      obtain ⟨⟨v_37, rfl, q_3⟩, hq5, hI7, hF6⟩ := hp5
      subst sz5
      replace hs5 : st5 = [.double v_37, .double v_36, .int i_2] := hs5
      subst st5
      replace hI7 : Im G x (rd, NN, fl, pe, le, nx, il, qu, kn, ec, nu, va) Φ6 := hI7
      refine z_dcmp B dX12_covered_94 ?_
      refine z_fi (fun v_38 => ?_)
      refine z_if_lt (tgt := 114) B dX12_covered_95 rfl (fun c_6 => ?_) (fun c_6 => ?_)
      · refine z_iconst (v := 0) B dX12_covered_114 rfl ?_
        refine z_iadd B dX12_covered_115 ?_
        refine z_fi (fun v_39 => ?_)
        refine z_istore_n (lv' := [(2, .int v_39), (4, .double v_36), (3, .int (nI i_1)), (0, .ref x), (1, .int (nI n_5))]) B dX12_covered_116 rfl (Nat.le_of_ble_eq_true rfl) rfl ?_
        refine z_iinc (k := 2) (v := nI (i_1 + 1)) (lv' := [(3, .int (nI (i_1 + 1))), (2, .int v_39), (4, .double v_36), (0, .ref x), (1, .int (nI n_5))]) B dX12_covered_117 rfl (nI_add i_1 1) (Nat.le_of_ble_eq_true rfl) rfl ?_
        refine z_goto (tgt := 31) B dX12_covered_120 rfl ?_
        refine z_lv [0, 1, 3, 4] rfl ?_
        exact ih1 (i_1 + 1, v_39) Φ6 (show 24 - (i_1 + 1) < 24 - i_1 by omega) ⟨hI7, (fun b9 h9 => ((hF6 b9 (fun j9 h8 h7 => (show False from h7).elim)).trans ((hF5 b9 (fun j9 h8 h7 => (show False from h7).elim)).trans ((hF4 b9 (fun j9 h8 h7 => (show False from h7).elim)).trans rfl)))), (show (i_1 + 1) ≤ 24 by omega), trivial⟩
      · obtain ⟨n_10, e_3, rfl⟩ := nI_of c_6
        refine z_dload B dX12_covered_98 0 rfl ?_
        refine z_aload_n B dX12_covered_100 rfl 3 rfl ?_
        refine z_iload_n B dX12_covered_101 rfl 1 rfl ?_
        refine z_iload_n B dX12_covered_102 rfl 4 rfl ?_
        have h_11 : Φ6 x = some (o_ 14 [.int v_16, .ref (x + 1), .ref (x + 2), .int v_17, .int v_18, .int (nI n_6), .int v_19, .int v_20, .ref (x + 3), .ref (x + 4), .int v_21, .long v_22, .ref (x + 5), .int (nI fl), .int v_23, .long v_24, .long v_25, .long v_26, .long v_27, .ref (x + 6), .ref (x + 7), .int (nI pe), .ref (x + 8), .int (nI le), .ref (x + 9), .ref (x + 10), .int (nI qu), .ref (x + 11), .ref (x + 12), .ref (x + 13), .ref (x + 14), .ref (x + 15), .ref (x + 16), .int (nI n_7), .long v_28, .ref (x + 17), .ref (x + 18), .ref (x + 19), .ref (x + 20), .ref (x + 21), .ref (x + 22), .int (nI n_8), .ref (x + 23), .ref (x + 24), .int (nI n_9), .ref (x + 25), .int (nI il), .int (nI nx), .int ec, .int v_29, .int kn, .int v_30, .int nu, .long va]) := ((hF6 x (fun j9 h8 h7 => (show False from h7).elim)).trans h_10)
        refine z_callV (As := [.int (nI i_1), .int (nI n_5)]) (rest := [.double v_36, .int i_2]) B (r_upperOf G l Φ6 sz x rd fl pe le nx il qu kn ec nu va i_1 n_5 hx hI7 (show i_1 < 24 by omega) (show n_5 < 2 by omega)) (cwV 2 B.1.2.2.2.2 gX12_covered_X12_upperOf rfl rfl rfl (by decide +kernel) ⟨Nat.le_of_ble_eq_true rfl, Nat.le_of_ble_eq_true rfl⟩) h_11 rfl rfl rfl rfl (Nat.le_of_ble_eq_true rfl) dX12_covered_103 ⟨Nat.le_of_ble_eq_true rfl, Nat.le_of_ble_eq_true rfl⟩ (fun r_7 Φ7 sz6 st6 hp6 hs6 => ?_)
        obtain ⟨⟨v_40, rfl, q_4⟩, hq6, hI8, hF7⟩ := hp6
        subst sz6
        replace hs6 : st6 = [.double v_40, .double v_36, .int i_2] := hs6
        subst st6
        replace hI8 : Im G x (rd, NN, fl, pe, le, nx, il, qu, kn, ec, nu, va) Φ7 := hI8
        refine z_dcmp B dX12_covered_106 ?_
        refine z_fi (fun v_41 => ?_)
        refine z_if_gt (tgt := 114) B dX12_covered_107 rfl (fun c_7 => ?_) (fun c_7 => ?_)
        · obtain ⟨n_11, e_5, e_4, rfl⟩ := nI_ofp (Int32.not_le.mpr c_7)
          refine z_iconst (v := 0) B dX12_covered_114 rfl ?_
          refine z_iadd B dX12_covered_115 ?_
          refine z_fi (fun v_42 => ?_)
          refine z_istore_n (lv' := [(2, .int v_42), (4, .double v_36), (3, .int (nI i_1)), (0, .ref x), (1, .int (nI n_5))]) B dX12_covered_116 rfl (Nat.le_of_ble_eq_true rfl) rfl ?_
          refine z_iinc (k := 2) (v := nI (i_1 + 1)) (lv' := [(3, .int (nI (i_1 + 1))), (2, .int v_42), (4, .double v_36), (0, .ref x), (1, .int (nI n_5))]) B dX12_covered_117 rfl (nI_add i_1 1) (Nat.le_of_ble_eq_true rfl) rfl ?_
          refine z_goto (tgt := 31) B dX12_covered_120 rfl ?_
          refine z_lv [0, 1, 3, 4] rfl ?_
          exact ih1 (i_1 + 1, v_42) Φ7 (show 24 - (i_1 + 1) < 24 - i_1 by omega) ⟨hI8, (fun b9 h9 => ((hF7 b9 (fun j9 h8 h7 => (show False from h7).elim)).trans ((hF6 b9 (fun j9 h8 h7 => (show False from h7).elim)).trans ((hF5 b9 (fun j9 h8 h7 => (show False from h7).elim)).trans ((hF4 b9 (fun j9 h8 h7 => (show False from h7).elim)).trans rfl))))), (show (i_1 + 1) ≤ 24 by omega), trivial⟩
        · refine z_iconst (v := 1) B dX12_covered_110 rfl ?_
          refine z_goto (tgt := 115) B dX12_covered_111 rfl ?_
          refine z_iadd B dX12_covered_115 ?_
          refine z_fi (fun v_43 => ?_)
          refine z_istore_n (lv' := [(2, .int v_43), (4, .double v_36), (3, .int (nI i_1)), (0, .ref x), (1, .int (nI n_5))]) B dX12_covered_116 rfl (Nat.le_of_ble_eq_true rfl) rfl ?_
          refine z_iinc (k := 2) (v := nI (i_1 + 1)) (lv' := [(3, .int (nI (i_1 + 1))), (2, .int v_43), (4, .double v_36), (0, .ref x), (1, .int (nI n_5))]) B dX12_covered_117 rfl (nI_add i_1 1) (Nat.le_of_ble_eq_true rfl) rfl ?_
          refine z_goto (tgt := 31) B dX12_covered_120 rfl ?_
          refine z_lv [0, 1, 3, 4] rfl ?_
          exact ih1 (i_1 + 1, v_43) Φ7 (show 24 - (i_1 + 1) < 24 - i_1 by omega) ⟨hI8, (fun b9 h9 => ((hF7 b9 (fun j9 h8 h7 => (show False from h7).elim)).trans ((hF6 b9 (fun j9 h8 h7 => (show False from h7).elim)).trans ((hF5 b9 (fun j9 h8 h7 => (show False from h7).elim)).trans ((hF4 b9 (fun j9 h8 h7 => (show False from h7).elim)).trans rfl))))), (show (i_1 + 1) ≤ 24 by omega), trivial⟩

set_option maxHeartbeats 4000000 in
set_option maxRecDepth 100000 in
theorem r_totalEstimate (G : EnvG) (l : Launch) (Φ : Hm) (sz x : Nat) (rd : (Nat → Int32) → Prop) (fl : Nat) (pe : Nat) (le : Nat) (nx : Nat) (il : Nat) (qu : Nat) (kn : Int32) (ec : Int32) (nu : Int32) (va : Int64) (a : Int32) (hx : G.2.2.2 ≤ x) (hI : Im G x (rd, NN, fl, pe, le, nx, il, qu, kn, ec, nu, va) Φ)  : Ct G l yX12_totalEstimate wsX12_totalEstimate ({ frames := 2, cells := 0, slots := 0, locals := 45 }) 0 0 [.ref x, .int a] Φ sz (fun v Φ1 sz1 => (∃ r9 : Int64, v = some (.long r9)) ∧ sz1 = sz ∧ (Im G x (rd, NN, fl, pe, le, nx, il, qu, kn, ec, nu, va) Φ1) ∧ Fr x (fun j9 => j9 = 0) Φ Φ1) := by
  refine Ct.of (cc := cX12_totalEstimate) (maxL := 5) (ret := (some .long)) (by decide) rfl (Nat.le_of_ble_eq_true rfl) ?_
  intro p9 e9 s9 m9 w9 t9 k9 B
  show Z p9 l e9 _ s9 m9 _ w9 t9 k9 _ G 5 0 [(0, .ref x), (1, .int a)] [] Φ sz 0 0
  refine z_aload_n B dX12_totalEstimate_0 rfl 0 rfl ?_
  refine z_iconst (v := 0) B dX12_totalEstimate_1 rfl ?_
  obtain ⟨v_1, v_2, v_3, n_1, v_4, v_5, v_6, v_7, v_8, v_9, v_10, v_11, v_12, n_2, v_13, n_3, n_4, v_14, v_15, h_1, b_12, b_1, b_2, b_3, b_4, b_5, b_6, b_7, b_8, b_9, b_10, b_11⟩ := im0 hI
  replace b_1 : 1 ≤ n_1 := b_1
  replace b_2 : n_1 ≤ 1024 := b_2
  replace b_3 : fl ≤ 12 := b_3
  replace b_4 : pe ≤ 24 := b_4
  replace b_5 : le ≤ 700 := b_5
  replace b_6 : qu ≤ 12 := b_6
  replace b_7 : n_2 ≤ 8 := b_7
  replace b_8 : n_3 ≤ 24 := b_8
  replace b_9 : n_4 ≤ 24 := b_9
  replace b_10 : il ≤ 700 := b_10
  replace b_11 : nx ≤ 701 := b_11
  have h_2 : Φ x = some (o_ 14 [.int v_1, .ref (x + 1), .ref (x + 2), .int v_2, .int v_3, .int (nI n_1), .int v_4, .int v_5, .ref (x + 3), .ref (x + 4), .int v_6, .long v_7, .ref (x + 5), .int (nI fl), .int v_8, .long v_9, .long v_10, .long v_11, .long v_12, .ref (x + 6), .ref (x + 7), .int (nI pe), .ref (x + 8), .int (nI le), .ref (x + 9), .ref (x + 10), .int (nI qu), .ref (x + 11), .ref (x + 12), .ref (x + 13), .ref (x + 14), .ref (x + 15), .ref (x + 16), .int (nI n_2), .long v_13, .ref (x + 17), .ref (x + 18), .ref (x + 19), .ref (x + 20), .ref (x + 21), .ref (x + 22), .int (nI n_3), .ref (x + 23), .ref (x + 24), .int (nI n_4), .ref (x + 25), .int (nI il), .int (nI nx), .int ec, .int v_14, .int kn, .int v_15, .int nu, .long va]) := h_1
  refine z_put (ref := "FlowExporterModel") (C := RX12) (T := TX12) (N := 54) (ci := 14) (v := .int 0) B (by decide +kernel) tyX12 tyX12_ok nmX12 rfl 0 (by decide) (by decide +kernel) rfl (Or.inl rfl) h_2 hx rfl rfl (Nat.le_of_ble_eq_true rfl) dX12_totalEstimate_2 (fun Φ1 hΦ1 => ?_)
  have h_3 : Φ1 x = some (o_ 14 [.int 0, .ref (x + 1), .ref (x + 2), .int v_2, .int v_3, .int (nI n_1), .int v_4, .int v_5, .ref (x + 3), .ref (x + 4), .int v_6, .long v_7, .ref (x + 5), .int (nI fl), .int v_8, .long v_9, .long v_10, .long v_11, .long v_12, .ref (x + 6), .ref (x + 7), .int (nI pe), .ref (x + 8), .int (nI le), .ref (x + 9), .ref (x + 10), .int (nI qu), .ref (x + 11), .ref (x + 12), .ref (x + 13), .ref (x + 14), .ref (x + 15), .ref (x + 16), .int (nI n_2), .long v_13, .ref (x + 17), .ref (x + 18), .ref (x + 19), .ref (x + 20), .ref (x + 21), .ref (x + 22), .int (nI n_3), .ref (x + 23), .ref (x + 24), .int (nI n_4), .ref (x + 25), .int (nI il), .int (nI nx), .int ec, .int v_14, .int kn, .int v_15, .int nu, .long va]) := fset_at hΦ1
  have hI1 : Im G x (rd, NN, fl, pe, le, nx, il, qu, kn, ec, nu, va) Φ1 := Im.put0 hI hΦ1 ⟨0, v_2, v_3, n_1, v_4, v_5, v_6, v_7, v_8, v_9, v_10, v_11, v_12, n_2, v_13, n_3, n_4, v_14, v_15, rfl, b_12, (show 1 ≤ n_1 by omega), (show n_1 ≤ 1024 by omega), (show fl ≤ 12 by omega), (show pe ≤ 24 by omega), (show le ≤ 700 by omega), (show qu ≤ 12 by omega), (show n_2 ≤ 8 by omega), (show n_3 ≤ 24 by omega), (show n_4 ≤ 24 by omega), (show il ≤ 700 by omega), (show nx ≤ 701 by omega)⟩
  refine z_aload_n B dX12_totalEstimate_5 rfl 0 rfl ?_
  refine z_iload_n B dX12_totalEstimate_6 rfl 1 rfl ?_
  refine z_callS (As := [.int a]) (rest := [.ref x]) B (r_isWhat G l Φ1 sz x rd fl pe le nx il qu kn ec nu va a hx hI1 ) (va_cwS 1 B.1.2.2.2.2 gX12_totalEstimate_X12_isWhat rfl rfl rfl (by decide +kernel) ⟨Nat.le_of_ble_eq_true rfl, Nat.le_of_ble_eq_true rfl⟩) rfl rfl (Nat.le_of_ble_eq_true rfl) dX12_totalEstimate_7 ⟨Nat.le_of_ble_eq_true rfl, Nat.le_of_ble_eq_true rfl⟩ (fun r_1 Φ2 sz1 st1 hp1 hs1 => ?_)
  obtain ⟨ha1, hq1, hI2, hF1⟩ := hp1
  subst sz1
  replace hI2 : Im G x (rd, NN, fl, pe, le, nx, il, qu, kn, ec, nu, va) Φ2 := hI2
  rcases ha1 with rfl | ⟨rfl, n_5, b_13, rfl⟩
  · replace hs1 : st1 = [.int 0, .ref x] := hs1
    subst st1
    refine z_if_ne (tgt := 17) B dX12_totalEstimate_10 rfl (fun h9 => absurd (by decide) h9) (fun c_1 => ?_)
    refine z_iconst (v := 1) B dX12_totalEstimate_13 rfl ?_
    refine z_goto (tgt := 18) B dX12_totalEstimate_14 rfl ?_
    refine z_iconst (v := 1) B dX12_totalEstimate_18 rfl ?_
    have h_4 : Φ2 x = some (o_ 14 [.int 0, .ref (x + 1), .ref (x + 2), .int v_2, .int v_3, .int (nI n_1), .int v_4, .int v_5, .ref (x + 3), .ref (x + 4), .int v_6, .long v_7, .ref (x + 5), .int (nI fl), .int v_8, .long v_9, .long v_10, .long v_11, .long v_12, .ref (x + 6), .ref (x + 7), .int (nI pe), .ref (x + 8), .int (nI le), .ref (x + 9), .ref (x + 10), .int (nI qu), .ref (x + 11), .ref (x + 12), .ref (x + 13), .ref (x + 14), .ref (x + 15), .ref (x + 16), .int (nI n_2), .long v_13, .ref (x + 17), .ref (x + 18), .ref (x + 19), .ref (x + 20), .ref (x + 21), .ref (x + 22), .int (nI n_3), .ref (x + 23), .ref (x + 24), .int (nI n_4), .ref (x + 25), .int (nI il), .int (nI nx), .int ec, .int v_14, .int kn, .int v_15, .int nu, .long va]) := ((hF1 x (fun j9 h8 h7 => (show False from h7).elim)).trans h_3)
    refine z_callV (As := [.int 1, .int 1]) (rest := []) B (r_throwsIf G l Φ2 sz x rd fl pe le nx il qu kn ec nu va 1 1 hx hI2 (by decide)) (cwV 2 B.1.2.2.2.2 gX12_totalEstimate_X12_throwsIf rfl rfl rfl (by decide +kernel) ⟨Nat.le_of_ble_eq_true rfl, Nat.le_of_ble_eq_true rfl⟩) h_4 rfl rfl rfl rfl (Nat.le_of_ble_eq_true rfl) dX12_totalEstimate_19 ⟨Nat.le_of_ble_eq_true rfl, Nat.le_of_ble_eq_true rfl⟩ (fun r_2 Φ3 sz2 st2 hp2 hs2 => ?_)
    obtain ⟨rfl, hq2, hI3, hF2⟩ := hp2
    subst sz2
    replace hs2 : st2 = [.int 1] := hs2
    subst st2
    replace hI3 : Im G x (rd, NN, fl, pe, le, nx, il, qu, kn, ec, nu, va) Φ3 := hI3
    refine z_if_eq (tgt := 27) B dX12_totalEstimate_22 rfl (fun h9 => absurd h9 (by decide)) (fun c_2 => ?_)
    refine z_lconst (v := 0) B dX12_totalEstimate_25 rfl ?_
    exact z_ret_l B dX12_totalEstimate_26 ⟨⟨_, rfl⟩, rfl, hI3, (fun b9 h9 => ((hF2 b9 (fun j9 h8 h7 => h9 j9 h8 (show j9 = 0 by have h6 : j9 = 0 := h7; omega))).trans ((hF1 b9 (fun j9 h8 h7 => (show False from h7).elim)).trans ((fset_fr hΦ1 (fun h8 => h9 (0) h8 (show 0 = 0 by omega))).trans rfl))))⟩
  · replace hs1 : st1 = [.int 1, .ref x] := hs1
    subst st1
    replace b_13 : n_5 < 2 := b_13
    refine z_if_ne (tgt := 17) B dX12_totalEstimate_10 rfl (fun c_3 => ?_) (fun h9 => absurd h9 (by decide))
    refine z_iconst (v := 0) B dX12_totalEstimate_17 rfl ?_
    refine z_iconst (v := 1) B dX12_totalEstimate_18 rfl ?_
    have h_5 : Φ2 x = some (o_ 14 [.int 0, .ref (x + 1), .ref (x + 2), .int v_2, .int v_3, .int (nI n_1), .int v_4, .int v_5, .ref (x + 3), .ref (x + 4), .int v_6, .long v_7, .ref (x + 5), .int (nI fl), .int v_8, .long v_9, .long v_10, .long v_11, .long v_12, .ref (x + 6), .ref (x + 7), .int (nI pe), .ref (x + 8), .int (nI le), .ref (x + 9), .ref (x + 10), .int (nI qu), .ref (x + 11), .ref (x + 12), .ref (x + 13), .ref (x + 14), .ref (x + 15), .ref (x + 16), .int (nI n_2), .long v_13, .ref (x + 17), .ref (x + 18), .ref (x + 19), .ref (x + 20), .ref (x + 21), .ref (x + 22), .int (nI n_3), .ref (x + 23), .ref (x + 24), .int (nI n_4), .ref (x + 25), .int (nI il), .int (nI nx), .int ec, .int v_14, .int kn, .int v_15, .int nu, .long va]) := ((hF1 x (fun j9 h8 h7 => (show False from h7).elim)).trans h_3)
    refine z_callV (As := [.int 0, .int 1]) (rest := []) B (r_throwsIf G l Φ2 sz x rd fl pe le nx il qu kn ec nu va 0 1 hx hI2 (by decide)) (cwV 2 B.1.2.2.2.2 gX12_totalEstimate_X12_throwsIf rfl rfl rfl (by decide +kernel) ⟨Nat.le_of_ble_eq_true rfl, Nat.le_of_ble_eq_true rfl⟩) h_5 rfl rfl rfl rfl (Nat.le_of_ble_eq_true rfl) dX12_totalEstimate_19 ⟨Nat.le_of_ble_eq_true rfl, Nat.le_of_ble_eq_true rfl⟩ (fun r_3 Φ4 sz3 st3 hp3 hs3 => ?_)
    obtain ⟨rfl, hq3, hI4, hF3⟩ := hp3
    subst sz3
    replace hs3 : st3 = [.int 0] := hs3
    subst st3
    replace hI4 : Im G x (rd, NN, fl, pe, le, nx, il, qu, kn, ec, nu, va) Φ4 := hI4
    refine z_if_eq (tgt := 27) B dX12_totalEstimate_22 rfl (fun c_4 => ?_) (fun h9 => absurd (by decide) h9)
    refine z_lconst (v := 0) B dX12_totalEstimate_27 rfl ?_
    refine z_lstore_n (lv' := [(2, .long 0), (0, .ref x), (1, .int (nI n_5))]) B dX12_totalEstimate_28 rfl (Nat.le_of_ble_eq_true rfl) rfl ?_
    refine z_iconst (v := 0) B dX12_totalEstimate_29 rfl ?_
    refine z_istore (lv' := [(4, .int 0), (2, .long 0), (0, .ref x), (1, .int (nI n_5))]) B dX12_totalEstimate_30 (Nat.le_of_ble_eq_true rfl) rfl ?_
    refine z_lv [0, 1, 2, 3] rfl ?_
    refine z_loop (α := Nat × Int64) (fun (a9 : Nat × Int64) Φi => Im G x (rd, NN, fl, pe, le, nx, il, qu, kn, ec, nu, va) Φi ∧ Fr x (fun j9 => False) Φ4 Φi ∧ (a9.1 ≤ 24) ∧ True) (fun a9 => [(4, .int (nI (a9.1))), (2, .long a9.2), (0, .ref x), (1, .int (nI n_5))]) (fun a9 => 24 - a9.1) ?_ (0, 0) ⟨hI4, fun _ _ => rfl, (show 0 ≤ 24 by omega), trivial⟩
    rintro ⟨i_1, i_2⟩ Φl1 ⟨hI5, hF4, b_14, -⟩ ih1
    replace hI5 : Im G x (rd, NN, fl, pe, le, nx, il, qu, kn, ec, nu, va) Φl1 := hI5
    replace b_14 : i_1 ≤ 24 := b_14
    show Z p9 l e9 _ s9 m9 _ w9 t9 k9 _ G 5 32 [(4, .int (nI i_1)), (2, .long i_2), (0, .ref x), (1, .int (nI n_5))] [] Φl1 _ _ _
    refine z_iload B dX12_totalEstimate_32 0 rfl ?_
    refine z_aload_n B dX12_totalEstimate_34 rfl 2 rfl ?_
    obtain ⟨v_16, v_17, v_18, n_6, v_19, v_20, v_21, v_22, v_23, v_24, v_25, v_26, v_27, n_7, v_28, n_8, n_9, v_29, v_30, h_6, b_26, b_15, b_16, b_17, b_18, b_19, b_20, b_21, b_22, b_23, b_24, b_25⟩ := im0 hI5
    replace b_15 : 1 ≤ n_6 := b_15
    replace b_16 : n_6 ≤ 1024 := b_16
    replace b_17 : fl ≤ 12 := b_17
    replace b_18 : pe ≤ 24 := b_18
    replace b_19 : le ≤ 700 := b_19
    replace b_20 : qu ≤ 12 := b_20
    replace b_21 : n_7 ≤ 8 := b_21
    replace b_22 : n_8 ≤ 24 := b_22
    replace b_23 : n_9 ≤ 24 := b_23
    replace b_24 : il ≤ 700 := b_24
    replace b_25 : nx ≤ 701 := b_25
    have h_7 : Φl1 x = some (o_ 14 [.int v_16, .ref (x + 1), .ref (x + 2), .int v_17, .int v_18, .int (nI n_6), .int v_19, .int v_20, .ref (x + 3), .ref (x + 4), .int v_21, .long v_22, .ref (x + 5), .int (nI fl), .int v_23, .long v_24, .long v_25, .long v_26, .long v_27, .ref (x + 6), .ref (x + 7), .int (nI pe), .ref (x + 8), .int (nI le), .ref (x + 9), .ref (x + 10), .int (nI qu), .ref (x + 11), .ref (x + 12), .ref (x + 13), .ref (x + 14), .ref (x + 15), .ref (x + 16), .int (nI n_7), .long v_28, .ref (x + 17), .ref (x + 18), .ref (x + 19), .ref (x + 20), .ref (x + 21), .ref (x + 22), .int (nI n_8), .ref (x + 23), .ref (x + 24), .int (nI n_9), .ref (x + 25), .int (nI il), .int (nI nx), .int ec, .int v_29, .int kn, .int v_30, .int nu, .long va]) := h_6
    refine z_get (ref := "FlowExporterModel") (C := RX12) (T := TX12) (N := 54) (ci := 14) (v := .int (nI n_8)) B (by decide +kernel) rfl 41 (by decide) (by decide +kernel) rfl h_7 rfl dX12_totalEstimate_35 ?_
    refine z_icmp_ge (tgt := 61) B dX12_totalEstimate_38 rfl (fun c_5 => ?_) (fun c_5 => ?_)
    · have e_1 : n_8 ≤ i_1 := (nI_leI (a := n_8) (b := i_1) (by omega) (by omega)).mp c_5
      refine z_lload_n B dX12_totalEstimate_61 rfl 1 rfl ?_
      exact z_ret_l B dX12_totalEstimate_62 ⟨⟨_, rfl⟩, rfl, hI5, (fun b9 h9 => ((hF4 b9 (fun j9 h8 h7 => (show False from h7).elim)).trans ((hF3 b9 (fun j9 h8 h7 => h9 j9 h8 (show j9 = 0 by have h6 : j9 = 0 := h7; omega))).trans ((hF1 b9 (fun j9 h8 h7 => (show False from h7).elim)).trans ((fset_fr hΦ1 (fun h8 => h9 (0) h8 (show 0 = 0 by omega))).trans rfl)))))⟩
    · have e_2 : ¬ (n_8 ≤ i_1) := fun h9 => c_5 ((nI_leI (a := n_8) (b := i_1) (by omega) (by omega)).mpr h9)
      refine z_lload_n B dX12_totalEstimate_41 rfl 1 rfl ?_
      refine z_aload_n B dX12_totalEstimate_42 rfl 2 rfl ?_
      refine z_get (ref := "FlowExporterModel") (C := RX12) (T := TX12) (N := 54) (ci := 14) (v := .ref (x + 21)) B (by decide +kernel) rfl 39 (by decide) (by decide +kernel) rfl h_7 rfl dX12_totalEstimate_43 ?_
      refine z_iconst (v := 2) B dX12_totalEstimate_46 rfl ?_
      refine z_iload B dX12_totalEstimate_47 0 rfl ?_
      refine z_imul B dX12_totalEstimate_49 ?_
      refine z_top (st1 := [.int (nI (2 * i_1)), .ref (x + 21), .long i_2]) (congrArg (fun w9 : Int32 => ([.int w9, .ref (x + 21), .long i_2] : List Value)) (nI_mul 2 i_1)) ?_
      refine z_iload_n B dX12_totalEstimate_50 rfl 3 rfl ?_
      refine z_iadd B dX12_totalEstimate_51 ?_
      refine z_top (st1 := [.int (nI (2 * i_1 + n_5)), .ref (x + 21), .long i_2]) (congrArg (fun w9 : Int32 => ([.int w9, .ref (x + 21), .long i_2] : List Value)) (nI_add (2 * i_1) n_5)) ?_
      obtain ⟨f_1, h_8⟩ := imk (k := 21) hI5
      have h_9 : Φl1 (x + 21) = some (al_ G 48 f_1) := h_8
      refine z_lald B h_9 (vp_in_nI (by omega) (by omega)) dX12_totalEstimate_52 ?_
      refine z_fl (fun v_31 => ?_)
      refine z_ladd B dX12_totalEstimate_53 ?_
      refine z_fl (fun v_32 => ?_)
      refine z_lstore_n (lv' := [(2, .long v_32), (4, .int (nI i_1)), (0, .ref x), (1, .int (nI n_5))]) B dX12_totalEstimate_54 rfl (Nat.le_of_ble_eq_true rfl) rfl ?_
      refine z_iinc (k := 1) (v := nI (i_1 + 1)) (lv' := [(4, .int (nI (i_1 + 1))), (2, .long v_32), (0, .ref x), (1, .int (nI n_5))]) B dX12_totalEstimate_55 rfl (nI_add i_1 1) (Nat.le_of_ble_eq_true rfl) rfl ?_
      refine z_goto (tgt := 32) B dX12_totalEstimate_58 rfl ?_
      refine z_lv [0, 1, 2, 3] rfl ?_
      exact ih1 (i_1 + 1, v_32) Φl1 (show 24 - (i_1 + 1) < 24 - i_1 by omega) ⟨hI5, (fun b9 h9 => ((hF4 b9 (fun j9 h8 h7 => (show False from h7).elim)).trans rfl)), (show (i_1 + 1) ≤ 24 by omega), trivial⟩

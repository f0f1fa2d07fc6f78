set_option maxHeartbeats 4000000 in
set_option maxRecDepth 100000 in
theorem r_isWhat (G : EnvG) (l : Launch) (Φ : Hm) (sz x : Nat) (rd : (Nat → Int32) → Prop) (fl : Nat) (pe : Nat) (le : Nat) (nx : Nat) (il : Nat) (qu : Nat) (kn : Int32) (ec : Int32) (nu : Int32) (va : Int64) (a : Int32) (hx : G.2.2.2 ≤ x) (hI : Im G x (rd, NN, fl, pe, le, nx, il, qu, kn, ec, nu, va) Φ)  : Ct G l yX12_isWhat wsX12_isWhat ({ frames := 1, cells := 0, slots := 0, locals := 25 }) 0 0 [.int a] Φ sz (fun v Φ1 sz1 => (v = some (.int 0) ∨ (v = some (.int 1) ∧ (∃ n9 : Nat, n9 < 2 ∧ a = nI n9))) ∧ sz1 = sz ∧ (Im G x (rd, NN, fl, pe, le, nx, il, qu, kn, ec, nu, va) Φ1) ∧ Fr x (fun j9 => False) Φ Φ1) := by
  refine Ct.of (cc := cX12_isWhat) (maxL := 1) (ret := (some .boolean)) (by decide) rfl (Nat.le_of_ble_eq_true rfl) ?_
  intro p9 e9 s9 m9 w9 t9 k9 B
  show Z p9 l e9 _ s9 m9 _ w9 t9 k9 _ G 1 0 [(0, .int a)] [] Φ sz 0 0
  refine z_iload_n B dX12_isWhat_0 rfl 0 rfl ?_
  refine z_i2l (v := a.toInt64) B dX12_isWhat_1 rfl ?_
  refine z_lconst (v := 0) B dX12_isWhat_2 rfl ?_
  refine z_lconst (v := 1) B dX12_isWhat_3 rfl ?_
  by_cases hR1 : inP a.toInt64 0 1
  · obtain ⟨n_1, e_1, e_2, e_3, rfl⟩ := in_get (L := 0) (H := 1) (by decide) (by decide) hR1
    refine z_callS (As := [.long ((nI n_1).toInt64), .long 0, .long 1]) (rest := []) B (c_inR1 G l Φ sz ((nI n_1).toInt64) 0 1 hR1 (fun v8 Φ8 sz8 => v8 = some (.int 1) ∧ sz8 = sz ∧ Im G x (rd, NN, fl, pe, le, nx, il, qu, kn, ec, nu, va) Φ8 ∧ Fr x (fun j9 => False) Φ Φ8) ⟨rfl, rfl, hI, fun _ _ => rfl⟩) (va_cwS 3 B.1.2.2.2.2 gX12_isWhat_X12_inRange rfl rfl rfl (by decide +kernel) ⟨Nat.le_of_ble_eq_true rfl, Nat.le_of_ble_eq_true rfl⟩) rfl rfl (Nat.le_of_ble_eq_true rfl) dX12_isWhat_4 ⟨Nat.le_of_ble_eq_true rfl, Nat.le_of_ble_eq_true rfl⟩ (fun r_1 Φ1 sz1 st1 hp1 hs1 => ?_)
    obtain ⟨rfl, hq1, hI1, hF1⟩ := hp1
    subst sz1
    replace hs1 : st1 = [.int 1] := hs1
    subst st1
    exact z_ret_z B dX12_isWhat_7 (by decide) ⟨(Or.inr ⟨rfl, ⟨n_1, (show n_1 < 2 by omega), rfl⟩⟩), rfl, hI1, (fun b9 h9 => ((hF1 b9 (fun j9 h8 h7 => (show False from h7).elim)).trans rfl))⟩
  · refine z_callS (As := [.long a.toInt64, .long 0, .long 1]) (rest := []) B (c_inR0 G l Φ sz a.toInt64 0 1 hR1 (fun v8 Φ8 sz8 => v8 = some (.int 0) ∧ sz8 = sz ∧ Im G x (rd, NN, fl, pe, le, nx, il, qu, kn, ec, nu, va) Φ8 ∧ Fr x (fun j9 => False) Φ Φ8) ⟨rfl, rfl, hI, fun _ _ => rfl⟩) (va_cwS 3 B.1.2.2.2.2 gX12_isWhat_X12_inRange rfl rfl rfl (by decide +kernel) ⟨Nat.le_of_ble_eq_true rfl, Nat.le_of_ble_eq_true rfl⟩) rfl rfl (Nat.le_of_ble_eq_true rfl) dX12_isWhat_4 ⟨Nat.le_of_ble_eq_true rfl, Nat.le_of_ble_eq_true rfl⟩ (fun r_2 Φ2 sz2 st2 hp2 hs2 => ?_)
    obtain ⟨rfl, hq2, hI2, hF2⟩ := hp2
    subst sz2
    replace hs2 : st2 = [.int 0] := hs2
    subst st2
    exact z_ret_z B dX12_isWhat_7 (by decide) ⟨(Or.inl rfl), rfl, hI2, (fun b9 h9 => ((hF2 b9 (fun j9 h8 h7 => (show False from h7).elim)).trans rfl))⟩

set_option maxHeartbeats 4000000 in
set_option maxRecDepth 100000 in
theorem r_isByte (G : EnvG) (l : Launch) (Φ : Hm) (sz x : Nat) (rd : (Nat → Int32) → Prop) (fl : Nat) (pe : Nat) (le : Nat) (nx : Nat) (il : Nat) (qu : Nat) (kn : Int32) (ec : Int32) (nu : Int32) (va : Int64) (a : Int32) (hx : G.2.2.2 ≤ x) (hI : Im G x (rd, NN, fl, pe, le, nx, il, qu, kn, ec, nu, va) Φ)  : Ct G l yX12_isByte wsX12_isByte ({ frames := 1, cells := 0, slots := 0, locals := 25 }) 0 0 [.int a] Φ sz (fun v Φ1 sz1 => (v = some (.int 0) ∨ (v = some (.int 1) ∧ (∃ n9 : Nat, n9 ≤ 255 ∧ a = nI n9))) ∧ sz1 = sz ∧ (Im G x (rd, NN, fl, pe, le, nx, il, qu, kn, ec, nu, va) Φ1) ∧ Fr x (fun j9 => False) Φ Φ1) := by
  refine Ct.of (cc := cX12_isByte) (maxL := 1) (ret := (some .boolean)) (by decide) rfl (Nat.le_of_ble_eq_true rfl) ?_
  intro p9 e9 s9 m9 w9 t9 k9 B
  show Z p9 l e9 _ s9 m9 _ w9 t9 k9 _ G 1 0 [(0, .int a)] [] Φ sz 0 0
  refine z_iload_n B dX12_isByte_0 rfl 0 rfl ?_
  refine z_i2l (v := a.toInt64) B dX12_isByte_1 rfl ?_
  refine z_lconst (v := 0) B dX12_isByte_2 rfl ?_
  refine z_ldc2 (v := 255) B (by decide +kernel) dX12_isByte_3 ?_
  by_cases hR1 : inP a.toInt64 0 255
  · obtain ⟨n_1, e_1, e_2, e_3, rfl⟩ := in_get (L := 0) (H := 255) (by decide) (by decide) hR1
    refine z_callS (As := [.long ((nI n_1).toInt64), .long 0, .long 255]) (rest := []) B (c_inR1 G l Φ sz ((nI n_1).toInt64) 0 255 hR1 (fun v8 Φ8 sz8 => v8 = some (.int 1) ∧ sz8 = sz ∧ Im G x (rd, NN, fl, pe, le, nx, il, qu, kn, ec, nu, va) Φ8 ∧ Fr x (fun j9 => False) Φ Φ8) ⟨rfl, rfl, hI, fun _ _ => rfl⟩) (va_cwS 3 B.1.2.2.2.2 gX12_isByte_X12_inRange rfl rfl rfl (by decide +kernel) ⟨Nat.le_of_ble_eq_true rfl, Nat.le_of_ble_eq_true rfl⟩) rfl rfl (Nat.le_of_ble_eq_true rfl) dX12_isByte_6 ⟨Nat.le_of_ble_eq_true rfl, Nat.le_of_ble_eq_true rfl⟩ (fun r_1 Φ1 sz1 st1 hp1 hs1 => ?_)
    obtain ⟨rfl, hq1, hI1, hF1⟩ := hp1
    subst sz1
    replace hs1 : st1 = [.int 1] := hs1
    subst st1
    exact z_ret_z B dX12_isByte_9 (by decide) ⟨(Or.inr ⟨rfl, ⟨n_1, (show n_1 ≤ 255 by omega), rfl⟩⟩), rfl, hI1, (fun b9 h9 => ((hF1 b9 (fun j9 h8 h7 => (show False from h7).elim)).trans rfl))⟩
  · refine z_callS (As := [.long a.toInt64, .long 0, .long 255]) (rest := []) B (c_inR0 G l Φ sz a.toInt64 0 255 hR1 (fun v8 Φ8 sz8 => v8 = some (.int 0) ∧ sz8 = sz ∧ Im G x (rd, NN, fl, pe, le, nx, il, qu, kn, ec, nu, va) Φ8 ∧ Fr x (fun j9 => False) Φ Φ8) ⟨rfl, rfl, hI, fun _ _ => rfl⟩) (va_cwS 3 B.1.2.2.2.2 gX12_isByte_X12_inRange rfl rfl rfl (by decide +kernel) ⟨Nat.le_of_ble_eq_true rfl, Nat.le_of_ble_eq_true rfl⟩) rfl rfl (Nat.le_of_ble_eq_true rfl) dX12_isByte_6 ⟨Nat.le_of_ble_eq_true rfl, Nat.le_of_ble_eq_true rfl⟩ (fun r_2 Φ2 sz2 st2 hp2 hs2 => ?_)
    obtain ⟨rfl, hq2, hI2, hF2⟩ := hp2
    subst sz2
    replace hs2 : st2 = [.int 0] := hs2
    subst st2
    exact z_ret_z B dX12_isByte_9 (by decide) ⟨(Or.inl rfl), rfl, hI2, (fun b9 h9 => ((hF2 b9 (fun j9 h8 h7 => (show False from h7).elim)).trans rfl))⟩

set_option maxHeartbeats 4000000 in
set_option maxRecDepth 100000 in
theorem r_sizeOf (G : EnvG) (l : Launch) (Φ : Hm) (sz x : Nat) (rd : (Nat → Int32) → Prop) (fl : Nat) (pe : Nat) (le : Nat) (nx : Nat) (il : Nat) (qu : Nat) (kn : Int32) (ec : Int32) (nu : Int32) (va : Int64) (t : Nat) (hx : G.2.2.2 ≤ x) (hI : Im G x (rd, NN, fl, pe, le, nx, il, qu, kn, ec, nu, va) Φ) (ht : t < 4) : Ct G l yX12_sizeOf wsX12_sizeOf ({ frames := 0, cells := 0, slots := 0, locals := 0 }) 0 0 [.ref x, .int (nI t)] Φ sz (fun v Φ1 sz1 => (∃ n9 : Nat, v = some (.int (nI n9)) ∧ n9 ≤ 9) ∧ sz1 = sz ∧ (Im G x (rd, NN, fl, pe, le, nx, il, qu, kn, ec, nu, va) Φ1) ∧ Fr x (fun j9 => False) Φ Φ1) := by
  refine Ct.of (cc := cX12_sizeOf) (maxL := 2) (ret := (some .int)) (by decide) rfl (Nat.le_of_ble_eq_true rfl) ?_
  intro p9 e9 s9 m9 w9 t9 k9 B
  show Z p9 l e9 _ s9 m9 _ w9 t9 k9 _ G 2 0 [(0, .ref x), (1, .int (nI t))] [] Φ sz 0 0
  refine z_aload_n B dX12_sizeOf_0 rfl 0 rfl ?_
  obtain ⟨v_1, v_2, v_3, n_1, v_4, v_5, v_6, v_7, v_8, v_9, v_10, v_11, v_12, n_2, v_13, n_3, n_4, v_14, v_15, h_1, b_12, b_1, b_2, b_3, b_4, b_5, b_6, b_7, b_8, b_9, b_10, b_11⟩ := im0 hI
  replace b_1 : 1 ≤ n_1 := b_1
  replace b_2 : n_1 ≤ 1024 := b_2
  replace b_3 : fl ≤ 12 := b_3
  replace b_4 : pe ≤ 24 := b_4
  replace b_5 : le ≤ 700 := b_5
  replace b_6 : qu ≤ 12 := b_6
  replace b_7 : n_2 ≤ 8 := b_7
  replace b_8 : n_3 ≤ 24 := b_8
  replace b_9 : n_4 ≤ 24 := b_9
  replace b_10 : il ≤ 700 := b_10
  replace b_11 : nx ≤ 701 := b_11
  have h_2 : Φ x = some (o_ 14 [.int v_1, .ref (x + 1), .ref (x + 2), .int v_2, .int v_3, .int (nI n_1), .int v_4, .int v_5, .ref (x + 3), .ref (x + 4), .int v_6, .long v_7, .ref (x + 5), .int (nI fl), .int v_8, .long v_9, .long v_10, .long v_11, .long v_12, .ref (x + 6), .ref (x + 7), .int (nI pe), .ref (x + 8), .int (nI le), .ref (x + 9), .ref (x + 10), .int (nI qu), .ref (x + 11), .ref (x + 12), .ref (x + 13), .ref (x + 14), .ref (x + 15), .ref (x + 16), .int (nI n_2), .long v_13, .ref (x + 17), .ref (x + 18), .ref (x + 19), .ref (x + 20), .ref (x + 21), .ref (x + 22), .int (nI n_3), .ref (x + 23), .ref (x + 24), .int (nI n_4), .ref (x + 25), .int (nI il), .int (nI nx), .int ec, .int v_14, .int kn, .int v_15, .int nu, .long va]) := h_1
  refine z_get (ref := "FlowExporterModel") (C := RX12) (T := TX12) (N := 54) (ci := 14) (v := .ref (x + 2)) B (by decide +kernel) rfl 2 (by decide) (by decide +kernel) rfl h_2 rfl dX12_sizeOf_1 ?_
  refine z_bipush (v := 11) B dX12_sizeOf_4 rfl ?_
  refine z_iload_n B dX12_sizeOf_6 rfl 1 rfl ?_
  refine z_iadd B dX12_sizeOf_7 ?_
  refine z_top (st1 := [.int (nI (11 + t)), .ref (x + 2)]) (congrArg (fun w9 : Int32 => ([.int w9, .ref (x + 2)] : List Value)) (nI_add 11 t)) ?_
  obtain ⟨f_1, h_3, r_1⟩ := imk (k := 2) hI
  replace r_1 : NN f_1 := r_1
  have h_4 : Φ (x + 2) = some (ai_ G 307 f_1) := h_3
  refine z_iald B h_4 (vp_in_nI (by omega) (by omega)) dX12_sizeOf_8 ?_
  obtain ⟨n_5, b_13, e_1⟩ := r_1.1 (11 + t) (by omega) (by omega)
  refine z_top (st1 := [.int (nI n_5)]) (congrArg (fun w9 : Int32 => ([.int w9] : List Value)) ((congrArg f_1 (nI_clamp (by omega))).trans e_1)) ?_
  exact z_ret_i B dX12_sizeOf_9 ⟨⟨n_5, rfl, (show n_5 ≤ 9 by omega)⟩, rfl, hI, (fun b9 h9 => rfl)⟩

set_option maxHeartbeats 4000000 in
set_option maxRecDepth 100000 in
theorem r_fieldOf (G : EnvG) (l : Launch) (Φ : Hm) (sz x : Nat) (rd : (Nat → Int32) → Prop) (fl : Nat) (pe : Nat) (le : Nat) (nx : Nat) (il : Nat) (qu : Nat) (kn : Int32) (ec : Int32) (nu : Int32) (va : Int64) (t : Nat) (q : Nat) (hx : G.2.2.2 ≤ x) (hI : Im G x (rd, NN, fl, pe, le, nx, il, qu, kn, ec, nu, va) Φ) (ht : t < 4) (hq : q < 9) : Ct G l yX12_fieldOf wsX12_fieldOf ({ frames := 0, cells := 0, slots := 0, locals := 0 }) 0 0 [.ref x, .int (nI t), .int (nI q)] Φ sz (fun v Φ1 sz1 => (∃ n9 : Nat, v = some (.int (nI n9)) ∧ n9 ≤ 8) ∧ sz1 = sz ∧ (Im G x (rd, NN, fl, pe, le, nx, il, qu, kn, ec, nu, va) Φ1) ∧ Fr x (fun j9 => False) Φ Φ1) := by
  refine Ct.of (cc := cX12_fieldOf) (maxL := 3) (ret := (some .int)) (by decide) rfl (Nat.le_of_ble_eq_true rfl) ?_
  intro p9 e9 s9 m9 w9 t9 k9 B
  show Z p9 l e9 _ s9 m9 _ w9 t9 k9 _ G 3 0 [(0, .ref x), (1, .int (nI t)), (2, .int (nI q))] [] Φ sz 0 0
  refine z_aload_n B dX12_fieldOf_0 rfl 0 rfl ?_
  obtain ⟨v_1, v_2, v_3, n_1, v_4, v_5, v_6, v_7, v_8, v_9, v_10, v_11, v_12, n_2, v_13, n_3, n_4, v_14, v_15, h_1, b_12, b_1, b_2, b_3, b_4, b_5, b_6, b_7, b_8, b_9, b_10, b_11⟩ := im0 hI
  replace b_1 : 1 ≤ n_1 := b_1
  replace b_2 : n_1 ≤ 1024 := b_2
  replace b_3 : fl ≤ 12 := b_3
  replace b_4 : pe ≤ 24 := b_4
  replace b_5 : le ≤ 700 := b_5
  replace b_6 : qu ≤ 12 := b_6
  replace b_7 : n_2 ≤ 8 := b_7
  replace b_8 : n_3 ≤ 24 := b_8
  replace b_9 : n_4 ≤ 24 := b_9
  replace b_10 : il ≤ 700 := b_10
  replace b_11 : nx ≤ 701 := b_11
  have h_2 : Φ x = some (o_ 14 [.int v_1, .ref (x + 1), .ref (x + 2), .int v_2, .int v_3, .int (nI n_1), .int v_4, .int v_5, .ref (x + 3), .ref (x + 4), .int v_6, .long v_7, .ref (x + 5), .int (nI fl), .int v_8, .long v_9, .long v_10, .long v_11, .long v_12, .ref (x + 6), .ref (x + 7), .int (nI pe), .ref (x + 8), .int (nI le), .ref (x + 9), .ref (x + 10), .int (nI qu), .ref (x + 11), .ref (x + 12), .ref (x + 13), .ref (x + 14), .ref (x + 15), .ref (x + 16), .int (nI n_2), .long v_13, .ref (x + 17), .ref (x + 18), .ref (x + 19), .ref (x + 20), .ref (x + 21), .ref (x + 22), .int (nI n_3), .ref (x + 23), .ref (x + 24), .int (nI n_4), .ref (x + 25), .int (nI il), .int (nI nx), .int ec, .int v_14, .int kn, .int v_15, .int nu, .long va]) := h_1
  refine z_get (ref := "FlowExporterModel") (C := RX12) (T := TX12) (N := 54) (ci := 14) (v := .ref (x + 2)) B (by decide +kernel) rfl 2 (by decide) (by decide +kernel) rfl h_2 rfl dX12_fieldOf_1 ?_
  refine z_bipush (v := 15) B dX12_fieldOf_4 rfl ?_
  refine z_bipush (v := 9) B dX12_fieldOf_6 rfl ?_
  refine z_iload_n B dX12_fieldOf_8 rfl 1 rfl ?_
  refine z_imul B dX12_fieldOf_9 ?_
  refine z_top (st1 := [.int (nI (9 * t)), .int 15, .ref (x + 2)]) (congrArg (fun w9 : Int32 => ([.int w9, .int 15, .ref (x + 2)] : List Value)) (nI_mul 9 t)) ?_
  refine z_iadd B dX12_fieldOf_10 ?_
  refine z_top (st1 := [.int (nI (15 + 9 * t)), .ref (x + 2)]) (congrArg (fun w9 : Int32 => ([.int w9, .ref (x + 2)] : List Value)) (nI_add 15 (9 * t))) ?_
  refine z_iload_n B dX12_fieldOf_11 rfl 2 rfl ?_
  refine z_iadd B dX12_fieldOf_12 ?_
  refine z_top (st1 := [.int (nI (15 + 9 * t + q)), .ref (x + 2)]) (congrArg (fun w9 : Int32 => ([.int w9, .ref (x + 2)] : List Value)) (nI_add (15 + 9 * t) q)) ?_
  obtain ⟨f_1, h_3, r_1⟩ := imk (k := 2) hI
  replace r_1 : NN f_1 := r_1
  have h_4 : Φ (x + 2) = some (ai_ G 307 f_1) := h_3
  refine z_iald B h_4 (vp_in_nI (by omega) (by omega)) dX12_fieldOf_13 ?_
  obtain ⟨n_5, b_13, e_1⟩ := r_1.2.1 (15 + 9 * t + q) (by omega) (by omega)
  refine z_top (st1 := [.int (nI n_5)]) (congrArg (fun w9 : Int32 => ([.int w9] : List Value)) ((congrArg f_1 (nI_clamp (by omega))).trans e_1)) ?_
  exact z_ret_i B dX12_fieldOf_14 ⟨⟨n_5, rfl, (show n_5 ≤ 8 by omega)⟩, rfl, hI, (fun b9 h9 => rfl)⟩

set_option maxHeartbeats 4000000 in
set_option maxRecDepth 100000 in
theorem r_isSupported (G : EnvG) (l : Launch) (Φ : Hm) (sz x : Nat) (rd : (Nat → Int32) → Prop) (fl : Nat) (pe : Nat) (le : Nat) (nx : Nat) (il : Nat) (qu : Nat) (kn : Int32) (ec : Int32) (nu : Int32) (va : Int64) (a : Int32) (hx : G.2.2.2 ≤ x) (hI : Im G x (rd, NN, fl, pe, le, nx, il, qu, kn, ec, nu, va) Φ)  : Ct G l yX12_isSupported wsX12_isSupported ({ frames := 0, cells := 0, slots := 0, locals := 0 }) 0 0 [.ref x, .int a] Φ sz (fun v Φ1 sz1 => (∃ r9 : Int32, v = some (.int r9) ∧ (r9 = 0 ∨ r9 = 1)) ∧ sz1 = sz ∧ (Im G x (rd, NN, fl, pe, le, nx, il, qu, kn, ec, nu, va) Φ1) ∧ Fr x (fun j9 => False) Φ Φ1) := by
  refine Ct.of (cc := cX12_isSupported) (maxL := 2) (ret := (some .boolean)) (by decide) rfl (Nat.le_of_ble_eq_true rfl) ?_
  intro p9 e9 s9 m9 w9 t9 k9 B
  show Z p9 l e9 _ s9 m9 _ w9 t9 k9 _ G 2 0 [(0, .ref x), (1, .int a)] [] Φ sz 0 0
  refine z_aload_n B dX12_isSupported_0 rfl 0 rfl ?_
  obtain ⟨v_1, v_2, v_3, n_1, v_4, v_5, v_6, v_7, v_8, v_9, v_10, v_11, v_12, n_2, v_13, n_3, n_4, v_14, v_15, h_1, b_12, b_1, b_2, b_3, b_4, b_5, b_6, b_7, b_8, b_9, b_10, b_11⟩ := im0 hI
  replace b_1 : 1 ≤ n_1 := b_1
  replace b_2 : n_1 ≤ 1024 := b_2
  replace b_3 : fl ≤ 12 := b_3
  replace b_4 : pe ≤ 24 := b_4
  replace b_5 : le ≤ 700 := b_5
  replace b_6 : qu ≤ 12 := b_6
  replace b_7 : n_2 ≤ 8 := b_7
  replace b_8 : n_3 ≤ 24 := b_8
  replace b_9 : n_4 ≤ 24 := b_9
  replace b_10 : il ≤ 700 := b_10
  replace b_11 : nx ≤ 701 := b_11
  have h_2 : Φ x = some (o_ 14 [.int v_1, .ref (x + 1), .ref (x + 2), .int v_2, .int v_3, .int (nI n_1), .int v_4, .int v_5, .ref (x + 3), .ref (x + 4), .int v_6, .long v_7, .ref (x + 5), .int (nI fl), .int v_8, .long v_9, .long v_10, .long v_11, .long v_12, .ref (x + 6), .ref (x + 7), .int (nI pe), .ref (x + 8), .int (nI le), .ref (x + 9), .ref (x + 10), .int (nI qu), .ref (x + 11), .ref (x + 12), .ref (x + 13), .ref (x + 14), .ref (x + 15), .ref (x + 16), .int (nI n_2), .long v_13, .ref (x + 17), .ref (x + 18), .ref (x + 19), .ref (x + 20), .ref (x + 21), .ref (x + 22), .int (nI n_3), .ref (x + 23), .ref (x + 24), .int (nI n_4), .ref (x + 25), .int (nI il), .int (nI nx), .int ec, .int v_14, .int kn, .int v_15, .int nu, .long va]) := h_1
  refine z_get (ref := "FlowExporterModel") (C := RX12) (T := TX12) (N := 54) (ci := 14) (v := .ref (x + 2)) B (by decide +kernel) rfl 2 (by decide) (by decide +kernel) rfl h_2 rfl dX12_isSupported_1 ?_
  refine z_bipush (v := 9) B dX12_isSupported_4 rfl ?_
  obtain ⟨f_1, h_3, r_1⟩ := imk (k := 2) hI
  replace r_1 : NN f_1 := r_1
  have h_4 : Φ (x + 2) = some (ai_ G 307 f_1) := h_3
  refine z_iald B h_4 (vin rfl) dX12_isSupported_6 ?_
  refine z_fi (fun v_16 => ?_)
  refine z_iload_n B dX12_isSupported_7 rfl 1 rfl ?_
  refine z_ishr B dX12_isSupported_8 ?_
  refine z_fi (fun v_17 => ?_)
  refine z_iconst (v := 1) B dX12_isSupported_9 rfl ?_
  refine z_iand B dX12_isSupported_10 ?_
  refine z_fi (fun v_18 => ?_)
  refine z_iconst (v := 1) B dX12_isSupported_11 rfl ?_
  refine z_icmp_ne (tgt := 19) B dX12_isSupported_12 rfl (fun c_1 => ?_) (fun c_1 => ?_)
  · refine z_iconst (v := 0) B dX12_isSupported_19 rfl ?_
    exact z_ret_z B dX12_isSupported_20 (by decide) ⟨⟨_, rfl, by decide⟩, rfl, hI, (fun b9 h9 => rfl)⟩
  · refine z_iconst (v := 1) B dX12_isSupported_15 rfl ?_
    refine z_goto (tgt := 20) B dX12_isSupported_16 rfl ?_
    exact z_ret_z B dX12_isSupported_20 (by decide) ⟨⟨_, rfl, by decide⟩, rfl, hI, (fun b9 h9 => rfl)⟩

set_option maxHeartbeats 4000000 in
set_option maxRecDepth 100000 in
theorem r_fieldsOf (G : EnvG) (l : Launch) (Φ : Hm) (sz x : Nat) (rd : (Nat → Int32) → Prop) (fl : Nat) (pe : Nat) (le : Nat) (nx : Nat) (il : Nat) (qu : Nat) (kn : Int32) (ec : Int32) (nu : Int32) (va : Int64) (t : Nat) (hx : G.2.2.2 ≤ x) (hI : Im G x (rd, NN, fl, pe, le, nx, il, qu, kn, ec, nu, va) Φ) (ht : t < 4) : Ct G l yX12_fieldsOf wsX12_fieldsOf ({ frames := 1, cells := 0, slots := 0, locals := 22 }) 0 0 [.ref x, .int (nI t)] Φ sz (fun v Φ1 sz1 => (∃ r9 : Int32, v = some (.int r9)) ∧ sz1 = sz ∧ (Im G x (rd, NN, fl, pe, le, nx, il, qu, kn, ec, nu, va) Φ1) ∧ Fr x (fun j9 => False) Φ Φ1) := by
  refine Ct.of (cc := cX12_fieldsOf) (maxL := 4) (ret := (some .int)) (by decide) rfl (Nat.le_of_ble_eq_true rfl) ?_
  intro p9 e9 s9 m9 w9 t9 k9 B
  show Z p9 l e9 _ s9 m9 _ w9 t9 k9 _ G 4 0 [(0, .ref x), (1, .int (nI t))] [] Φ sz 0 0
  refine z_iconst (v := 0) B dX12_fieldsOf_0 rfl ?_
  refine z_istore_n (lv' := [(2, .int 0), (0, .ref x), (1, .int (nI t))]) B dX12_fieldsOf_1 rfl (Nat.le_of_ble_eq_true rfl) rfl ?_
  refine z_iconst (v := 0) B dX12_fieldsOf_2 rfl ?_
  refine z_istore_n (lv' := [(3, .int 0), (2, .int 0), (0, .ref x), (1, .int (nI t))]) B dX12_fieldsOf_3 rfl (Nat.le_of_ble_eq_true rfl) rfl ?_
  refine z_lv [0, 1, 2, 3] rfl ?_
  refine z_loop (α := Nat × Int32) (fun (a9 : Nat × Int32) Φi => Im G x (rd, NN, fl, pe, le, nx, il, qu, kn, ec, nu, va) Φi ∧ Fr x (fun j9 => False) Φ Φi ∧ (a9.1 ≤ 9) ∧ True) (fun a9 => [(3, .int (nI (a9.1))), (2, .int a9.2), (0, .ref x), (1, .int (nI t))]) (fun a9 => 9 - a9.1) ?_ (0, 0) ⟨hI, fun _ _ => rfl, (show 0 ≤ 9 by omega), trivial⟩
  rintro ⟨i_1, i_2⟩ Φl1 ⟨hI1, hF1, b_1, -⟩ ih1
  replace hI1 : Im G x (rd, NN, fl, pe, le, nx, il, qu, kn, ec, nu, va) Φl1 := hI1
  replace b_1 : i_1 ≤ 9 := b_1
  show Z p9 l e9 _ s9 m9 _ w9 t9 k9 _ G 4 4 [(3, .int (nI i_1)), (2, .int i_2), (0, .ref x), (1, .int (nI t))] [] Φl1 _ _ _
  refine z_iload_n B dX12_fieldsOf_4 rfl 0 rfl ?_
  refine z_aload_n B dX12_fieldsOf_5 rfl 2 rfl ?_
  refine z_iload_n B dX12_fieldsOf_6 rfl 3 rfl ?_
  obtain ⟨v_1, v_2, v_3, n_1, v_4, v_5, v_6, v_7, v_8, v_9, v_10, v_11, v_12, n_2, v_13, n_3, n_4, v_14, v_15, h_1, b_13, b_2, b_3, b_4, b_5, b_6, b_7, b_8, b_9, b_10, b_11, b_12⟩ := im0 hI1
  replace b_2 : 1 ≤ n_1 := b_2
  replace b_3 : n_1 ≤ 1024 := b_3
  replace b_4 : fl ≤ 12 := b_4
  replace b_5 : pe ≤ 24 := b_5
  replace b_6 : le ≤ 700 := b_6
  replace b_7 : qu ≤ 12 := b_7
  replace b_8 : n_2 ≤ 8 := b_8
  replace b_9 : n_3 ≤ 24 := b_9
  replace b_10 : n_4 ≤ 24 := b_10
  replace b_11 : il ≤ 700 := b_11
  replace b_12 : nx ≤ 701 := b_12
  have h_2 : Φl1 x = some (o_ 14 [.int v_1, .ref (x + 1), .ref (x + 2), .int v_2, .int v_3, .int (nI n_1), .int v_4, .int v_5, .ref (x + 3), .ref (x + 4), .int v_6, .long v_7, .ref (x + 5), .int (nI fl), .int v_8, .long v_9, .long v_10, .long v_11, .long v_12, .ref (x + 6), .ref (x + 7), .int (nI pe), .ref (x + 8), .int (nI le), .ref (x + 9), .ref (x + 10), .int (nI qu), .ref (x + 11), .ref (x + 12), .ref (x + 13), .ref (x + 14), .ref (x + 15), .ref (x + 16), .int (nI n_2), .long v_13, .ref (x + 17), .ref (x + 18), .ref (x + 19), .ref (x + 20), .ref (x + 21), .ref (x + 22), .int (nI n_3), .ref (x + 23), .ref (x + 24), .int (nI n_4), .ref (x + 25), .int (nI il), .int (nI nx), .int ec, .int v_14, .int kn, .int v_15, .int nu, .long va]) := h_1
  refine z_callV (As := [.int (nI t)]) (rest := [.int (nI i_1)]) B (r_sizeOf G l Φl1 sz x rd fl pe le nx il qu kn ec nu va t hx hI1 (show t < 4 by omega)) (cwV 1 B.1.2.2.2.2 gX12_fieldsOf_X12_sizeOf rfl rfl rfl (by decide +kernel) ⟨Nat.le_of_ble_eq_true rfl, Nat.le_of_ble_eq_true rfl⟩) h_2 rfl rfl rfl rfl (Nat.le_of_ble_eq_true rfl) dX12_fieldsOf_7 ⟨Nat.le_of_ble_eq_true rfl, Nat.le_of_ble_eq_true rfl⟩ (fun r_1 Φ1 sz1 st1 hp1 hs1 => ?_)
  obtain ⟨⟨n_5, rfl, b_14⟩, hq1, hI2, hF2⟩ := hp1
  subst sz1
  replace hs1 : st1 = [.int (nI n_5), .int (nI i_1)] := hs1
  subst st1
  replace b_14 : n_5 ≤ 9 := b_14
  replace hI2 : Im G x (rd, NN, fl, pe, le, nx, il, qu, kn, ec, nu, va) Φ1 := hI2
  refine z_icmp_ge (tgt := 30) B dX12_fieldsOf_10 rfl (fun c_1 => ?_) (fun c_1 => ?_)
  · have e_1 : n_5 ≤ i_1 := (nI_leI (a := n_5) (b := i_1) (by omega) (by omega)).mp c_1
    refine z_iload_n B dX12_fieldsOf_30 rfl 1 rfl ?_
    exact z_ret_i B dX12_fieldsOf_31 ⟨⟨_, rfl⟩, rfl, hI2, (fun b9 h9 => ((hF2 b9 (fun j9 h8 h7 => (show False from h7).elim)).trans ((hF1 b9 (fun j9 h8 h7 => (show False from h7).elim)).trans rfl)))⟩
  · have e_2 : ¬ (n_5 ≤ i_1) := fun h9 => c_1 ((nI_leI (a := n_5) (b := i_1) (by omega) (by omega)).mpr h9)
    refine z_iload_n B dX12_fieldsOf_13 rfl 1 rfl ?_
    refine z_iconst (v := 1) B dX12_fieldsOf_14 rfl ?_
    refine z_aload_n B dX12_fieldsOf_15 rfl 2 rfl ?_
    refine z_iload_n B dX12_fieldsOf_16 rfl 3 rfl ?_
    refine z_iload_n B dX12_fieldsOf_17 rfl 0 rfl ?_
    have h_3 : Φ1 x = some (o_ 14 [.int v_1, .ref (x + 1), .ref (x + 2), .int v_2, .int v_3, .int (nI n_1), .int v_4, .int v_5, .ref (x + 3), .ref (x + 4), .int v_6, .long v_7, .ref (x + 5), .int (nI fl), .int v_8, .long v_9, .long v_10, .long v_11, .long v_12, .ref (x + 6), .ref (x + 7), .int (nI pe), .ref (x + 8), .int (nI le), .ref (x + 9), .ref (x + 10), .int (nI qu), .ref (x + 11), .ref (x + 12), .ref (x + 13), .ref (x + 14), .ref (x + 15), .ref (x + 16), .int (nI n_2), .long v_13, .ref (x + 17), .ref (x + 18), .ref (x + 19), .ref (x + 20), .ref (x + 21), .ref (x + 22), .int (nI n_3), .ref (x + 23), .ref (x + 24), .int (nI n_4), .ref (x + 25), .int (nI il), .int (nI nx), .int ec, .int v_14, .int kn, .int v_15, .int nu, .long va]) := ((hF2 x (fun j9 h8 h7 => (show False from h7).elim)).trans h_2)
    refine z_callV (As := [.int (nI t), .int (nI i_1)]) (rest := [.int 1, .int i_2]) B (r_fieldOf G l Φ1 sz x rd fl pe le nx il qu kn ec nu va t i_1 hx hI2 (show t < 4 by omega) (show i_1 < 9 by omega)) (cwV 2 B.1.2.2.2.2 gX12_fieldsOf_X12_fieldOf rfl rfl rfl (by decide +kernel) ⟨Nat.le_of_ble_eq_true rfl, Nat.le_of_ble_eq_true rfl⟩) h_3 rfl rfl rfl rfl (Nat.le_of_ble_eq_true rfl) dX12_fieldsOf_18 ⟨Nat.le_of_ble_eq_true rfl, Nat.le_of_ble_eq_true rfl⟩ (fun r_2 Φ2 sz2 st2 hp2 hs2 => ?_)
    obtain ⟨⟨n_6, rfl, b_15⟩, hq2, hI3, hF3⟩ := hp2
    subst sz2
    replace hs2 : st2 = [.int (nI n_6), .int 1, .int i_2] := hs2
    subst st2
    replace b_15 : n_6 ≤ 8 := b_15
    replace hI3 : Im G x (rd, NN, fl, pe, le, nx, il, qu, kn, ec, nu, va) Φ2 := hI3
    refine z_ishl B dX12_fieldsOf_21 ?_
    refine z_fi (fun v_16 => ?_)
    refine z_ior B dX12_fieldsOf_22 ?_
    refine z_fi (fun v_17 => ?_)
    refine z_istore_n (lv' := [(2, .int v_17), (3, .int (nI i_1)), (0, .ref x), (1, .int (nI t))]) B dX12_fieldsOf_23 rfl (Nat.le_of_ble_eq_true rfl) rfl ?_
    refine z_iinc (k := 1) (v := nI (i_1 + 1)) (lv' := [(3, .int (nI (i_1 + 1))), (2, .int v_17), (0, .ref x), (1, .int (nI t))]) B dX12_fieldsOf_24 rfl (nI_add i_1 1) (Nat.le_of_ble_eq_true rfl) rfl ?_
    refine z_goto (tgt := 4) B dX12_fieldsOf_27 rfl ?_
    refine z_lv [0, 1, 2, 3] rfl ?_
    exact ih1 (i_1 + 1, v_17) Φ2 (show 9 - (i_1 + 1) < 9 - i_1 by omega) ⟨hI3, (fun b9 h9 => ((hF3 b9 (fun j9 h8 h7 => (show False from h7).elim)).trans ((hF2 b9 (fun j9 h8 h7 => (show False from h7).elim)).trans ((hF1 b9 (fun j9 h8 h7 => (show False from h7).elim)).trans rfl)))), (show (i_1 + 1) ≤ 9 by omega), trivial⟩

set_option maxHeartbeats 4000000 in
set_option maxRecDepth 100000 in
theorem r_effective (G : EnvG) (l : Launch) (Φ : Hm) (sz x : Nat) (rd : (Nat → Int32) → Prop) (fl : Nat) (pe : Nat) (le : Nat) (nx : Nat) (il : Nat) (qu : Nat) (kn : Int32) (ec : Int32) (nu : Int32) (va : Int64) (t : Nat) (hx : G.2.2.2 ≤ x) (hI : Im G x (rd, NN, fl, pe, le, nx, il, qu, kn, ec, nu, va) Φ) (ht : t < 4) : Ct G l yX12_effective wsX12_effective ({ frames := 2, cells := 0, slots := 0, locals := 45 }) 0 0 [.ref x, .int (nI t)] Φ sz (fun v Φ1 sz1 => (∃ r9 : Int32, v = some (.int r9)) ∧ sz1 = sz ∧ (Im G x (rd, NN, fl, pe, le, nx, il, qu, kn, ec, nu, va) Φ1) ∧ Fr x (fun j9 => False) Φ Φ1) := by
  refine Ct.of (cc := cX12_effective) (maxL := 2) (ret := (some .int)) (by decide) rfl (Nat.le_of_ble_eq_true rfl) ?_
  intro p9 e9 s9 m9 w9 t9 k9 B
  show Z p9 l e9 _ s9 m9 _ w9 t9 k9 _ G 2 0 [(0, .ref x), (1, .int (nI t))] [] Φ sz 0 0
  refine z_aload_n B dX12_effective_0 rfl 0 rfl ?_
  refine z_iload_n B dX12_effective_1 rfl 1 rfl ?_
  obtain ⟨v_1, v_2, v_3, n_1, v_4, v_5, v_6, v_7, v_8, v_9, v_10, v_11, v_12, n_2, v_13, n_3, n_4, v_14, v_15, h_1, b_12, b_1, b_2, b_3, b_4, b_5, b_6, b_7, b_8, b_9, b_10, b_11⟩ := im0 hI
  replace b_1 : 1 ≤ n_1 := b_1
  replace b_2 : n_1 ≤ 1024 := b_2
  replace b_3 : fl ≤ 12 := b_3
  replace b_4 : pe ≤ 24 := b_4
  replace b_5 : le ≤ 700 := b_5
  replace b_6 : qu ≤ 12 := b_6
  replace b_7 : n_2 ≤ 8 := b_7
  replace b_8 : n_3 ≤ 24 := b_8
  replace b_9 : n_4 ≤ 24 := b_9
  replace b_10 : il ≤ 700 := b_10
  replace b_11 : nx ≤ 701 := b_11
  have h_2 : Φ x = some (o_ 14 [.int v_1, .ref (x + 1), .ref (x + 2), .int v_2, .int v_3, .int (nI n_1), .int v_4, .int v_5, .ref (x + 3), .ref (x + 4), .int v_6, .long v_7, .ref (x + 5), .int (nI fl), .int v_8, .long v_9, .long v_10, .long v_11, .long v_12, .ref (x + 6), .ref (x + 7), .int (nI pe), .ref (x + 8), .int (nI le), .ref (x + 9), .ref (x + 10), .int (nI qu), .ref (x + 11), .ref (x + 12), .ref (x + 13), .ref (x + 14), .ref (x + 15), .ref (x + 16), .int (nI n_2), .long v_13, .ref (x + 17), .ref (x + 18), .ref (x + 19), .ref (x + 20), .ref (x + 21), .ref (x + 22), .int (nI n_3), .ref (x + 23), .ref (x + 24), .int (nI n_4), .ref (x + 25), .int (nI il), .int (nI nx), .int ec, .int v_14, .int kn, .int v_15, .int nu, .long va]) := h_1
  refine z_callV (As := [.int (nI t)]) (rest := []) B (r_fieldsOf G l Φ sz x rd fl pe le nx il qu kn ec nu va t hx hI (show t < 4 by omega)) (cwV 1 B.1.2.2.2.2 gX12_effective_X12_fieldsOf rfl rfl rfl (by decide +kernel) ⟨Nat.le_of_ble_eq_true rfl, Nat.le_of_ble_eq_true rfl⟩) h_2 rfl rfl rfl rfl (Nat.le_of_ble_eq_true rfl) dX12_effective_2 ⟨Nat.le_of_ble_eq_true rfl, Nat.le_of_ble_eq_true rfl⟩ (fun r_1 Φ1 sz1 st1 hp1 hs1 => ?_)
  obtain ⟨⟨v_16, rfl⟩, hq1, hI1, hF1⟩ := hp1
  subst sz1
  replace hs1 : st1 = [.int v_16] := hs1
  subst st1
  replace hI1 : Im G x (rd, NN, fl, pe, le, nx, il, qu, kn, ec, nu, va) Φ1 := hI1
  refine z_aload_n B dX12_effective_5 rfl 0 rfl ?_
  have h_3 : Φ1 x = some (o_ 14 [.int v_1, .ref (x + 1), .ref (x + 2), .int v_2, .int v_3, .int (nI n_1), .int v_4, .int v_5, .ref (x + 3), .ref (x + 4), .int v_6, .long v_7, .ref (x + 5), .int (nI fl), .int v_8, .long v_9, .long v_10, .long v_11, .long v_12, .ref (x + 6), .ref (x + 7), .int (nI pe), .ref (x + 8), .int (nI le), .ref (x + 9), .ref (x + 10), .int (nI qu), .ref (x + 11), .ref (x + 12), .ref (x + 13), .ref (x + 14), .ref (x + 15), .ref (x + 16), .int (nI n_2), .long v_13, .ref (x + 17), .ref (x + 18), .ref (x + 19), .ref (x + 20), .ref (x + 21), .ref (x + 22), .int (nI n_3), .ref (x + 23), .ref (x + 24), .int (nI n_4), .ref (x + 25), .int (nI il), .int (nI nx), .int ec, .int v_14, .int kn, .int v_15, .int nu, .long va]) := ((hF1 x (fun j9 h8 h7 => (show False from h7).elim)).trans h_2)
  refine z_get (ref := "FlowExporterModel") (C := RX12) (T := TX12) (N := 54) (ci := 14) (v := .ref (x + 2)) B (by decide +kernel) rfl 2 (by decide) (by decide +kernel) rfl h_3 rfl dX12_effective_6 ?_
  refine z_bipush (v := 9) B dX12_effective_9 rfl ?_
  obtain ⟨f_1, h_4, r_2⟩ := imk (k := 2) hI1
  replace r_2 : NN f_1 := r_2
  have h_5 : Φ1 (x + 2) = some (ai_ G 307 f_1) := h_4
  refine z_iald B h_5 (vin rfl) dX12_effective_11 ?_
  refine z_fi (fun v_17 => ?_)
  refine z_iand B dX12_effective_12 ?_
  refine z_fi (fun v_18 => ?_)
  exact z_ret_i B dX12_effective_13 ⟨⟨_, rfl⟩, rfl, hI1, (fun b9 h9 => ((hF1 b9 (fun j9 h8 h7 => (show False from h7).elim)).trans rfl))⟩

set_option maxHeartbeats 4000000 in
set_option maxRecDepth 100000 in
theorem r_lengthOf (G : EnvG) (l : Launch) (Φ : Hm) (sz x : Nat) (rd : (Nat → Int32) → Prop) (fl : Nat) (pe : Nat) (le : Nat) (nx : Nat) (il : Nat) (qu : Nat) (kn : Int32) (ec : Int32) (nu : Int32) (va : Int64) (a : Nat) (hx : G.2.2.2 ≤ x) (hI : Im G x (rd, NN, fl, pe, le, nx, il, qu, kn, ec, nu, va) Φ) (ha : a < 2 ^ 31) : Ct G l yX12_lengthOf wsX12_lengthOf ({ frames := 0, cells := 0, slots := 0, locals := 0 }) 0 0 [.int (nI a)] Φ sz (fun v Φ1 sz1 => (v = some (.int (nI (lnN a)))) ∧ sz1 = sz ∧ (Im G x (rd, NN, fl, pe, le, nx, il, qu, kn, ec, nu, va) Φ1) ∧ Fr x (fun j9 => False) Φ Φ1) := by
  refine Ct.of (cc := cX12_lengthOf) (maxL := 1) (ret := (some .int)) (by decide) rfl (Nat.le_of_ble_eq_true rfl) ?_
  intro p9 e9 s9 m9 w9 t9 k9 B
  show Z p9 l e9 _ s9 m9 _ w9 t9 k9 _ G 1 0 [(0, .int (nI a))] [] Φ sz 0 0
  refine z_iload_n B dX12_lengthOf_0 rfl 0 rfl ?_
  by_cases e_1 : a = 0
  · subst e_1
    refine z_tableIn (off := 39) (tgt := 40) B dX12_lengthOf_1 (by decide) (by decide) (by decide) rfl ?_
    refine z_iconst (v := 1) B dX12_lengthOf_40 rfl ?_
    exact z_ret_i B dX12_lengthOf_41 ⟨rfl, rfl, hI, (fun b9 h9 => rfl)⟩
  by_cases e_2 : a = 1
  · subst e_2
    refine z_tableIn (off := 39) (tgt := 40) B dX12_lengthOf_1 (by decide) (by decide) (by decide) rfl ?_
    refine z_iconst (v := 1) B dX12_lengthOf_40 rfl ?_
    exact z_ret_i B dX12_lengthOf_41 ⟨rfl, rfl, hI, (fun b9 h9 => rfl)⟩
  by_cases e_3 : a = 2
  · subst e_3
    refine z_tableIn (off := 41) (tgt := 42) B dX12_lengthOf_1 (by decide) (by decide) (by decide) rfl ?_
    refine z_iconst (v := 2) B dX12_lengthOf_42 rfl ?_
    exact z_ret_i B dX12_lengthOf_43 ⟨rfl, rfl, hI, (fun b9 h9 => rfl)⟩
  by_cases e_4 : a = 3
  · subst e_4
    refine z_tableIn (off := 39) (tgt := 40) B dX12_lengthOf_1 (by decide) (by decide) (by decide) rfl ?_
    refine z_iconst (v := 1) B dX12_lengthOf_40 rfl ?_
    exact z_ret_i B dX12_lengthOf_41 ⟨rfl, rfl, hI, (fun b9 h9 => rfl)⟩
  by_cases e_5 : a = 4
  · subst e_5
    refine z_tableIn (off := 46) (tgt := 47) B dX12_lengthOf_1 (by decide) (by decide) (by decide) rfl ?_
    refine z_iconst (v := 4) B dX12_lengthOf_47 rfl ?_
    exact z_ret_i B dX12_lengthOf_48 ⟨rfl, rfl, hI, (fun b9 h9 => rfl)⟩
  by_cases e_6 : a = 5
  · subst e_6
    refine z_tableIn (off := 43) (tgt := 44) B dX12_lengthOf_1 (by decide) (by decide) (by decide) rfl ?_
    refine z_bipush (v := 8) B dX12_lengthOf_44 rfl ?_
    exact z_ret_i B dX12_lengthOf_46 ⟨rfl, rfl, hI, (fun b9 h9 => rfl)⟩
  have e_7 : (nI a).toInt ≠ 0 := fun q9 => e_1 (by rw [nI_toInt (by omega)] at q9; omega)
  have e_8 : (nI a).toInt ≠ 1 := fun q9 => e_2 (by rw [nI_toInt (by omega)] at q9; omega)
  have e_9 : (nI a).toInt ≠ 2 := fun q9 => e_3 (by rw [nI_toInt (by omega)] at q9; omega)
  have e_10 : (nI a).toInt ≠ 3 := fun q9 => e_4 (by rw [nI_toInt (by omega)] at q9; omega)
  have e_11 : (nI a).toInt ≠ 4 := fun q9 => e_5 (by rw [nI_toInt (by omega)] at q9; omega)
  have e_12 : (nI a).toInt ≠ 5 := fun q9 => e_6 (by rw [nI_toInt (by omega)] at q9; omega)
  refine z_tableOut (tgt := 47) B dX12_lengthOf_1 (by omega) rfl ?_
  refine z_iconst (v := 4) B dX12_lengthOf_47 rfl ?_
  exact z_ret_i B dX12_lengthOf_48 ⟨(congrArg (fun n9 => some (Value.int (nI n9))) (lnN_d e_1 e_2 e_3 e_4 e_6)).symm, rfl, hI, (fun b9 h9 => rfl)⟩

set_option maxHeartbeats 4000000 in
set_option maxRecDepth 100000 in
theorem r_recordLengthOf (G : EnvG) (l : Launch) (Φ : Hm) (sz x : Nat) (rd : (Nat → Int32) → Prop) (fl : Nat) (pe : Nat) (le : Nat) (nx : Nat) (il : Nat) (qu : Nat) (kn : Int32) (ec : Int32) (nu : Int32) (va : Int64) (t : Nat) (hx : G.2.2.2 ≤ x) (hI : Im G x (rd, NN, fl, pe, le, nx, il, qu, kn, ec, nu, va) Φ) (ht : t < 4) : Ct G l yX12_recordLengthOf wsX12_recordLengthOf ({ frames := 3, cells := 0, slots := 0, locals := 66 }) 0 0 [.ref x, .int (nI t)] Φ sz (fun v Φ1 sz1 => (∃ n9 : Nat, v = some (.int (nI n9)) ∧ n9 ≤ 29) ∧ sz1 = sz ∧ (Im G x (rd, NN, fl, pe, le, nx, il, qu, kn, ec, nu, va) Φ1) ∧ Fr x (fun j9 => False) Φ Φ1) := by
  refine Ct.of (cc := cX12_recordLengthOf) (maxL := 4) (ret := (some .int)) (by decide) rfl (Nat.le_of_ble_eq_true rfl) ?_
  intro p9 e9 s9 m9 w9 t9 k9 B
  show Z p9 l e9 _ s9 m9 _ w9 t9 k9 _ G 4 0 [(0, .ref x), (1, .int (nI t))] [] Φ sz 0 0
  refine z_iconst (v := 0) B dX12_recordLengthOf_0 rfl ?_
  refine z_istore_n (lv' := [(2, .int 0), (0, .ref x), (1, .int (nI t))]) B dX12_recordLengthOf_1 rfl (Nat.le_of_ble_eq_true rfl) rfl ?_
  refine z_iconst (v := 0) B dX12_recordLengthOf_2 rfl ?_
  refine z_istore_n (lv' := [(3, .int 0), (2, .int 0), (0, .ref x), (1, .int (nI t))]) B dX12_recordLengthOf_3 rfl (Nat.le_of_ble_eq_true rfl) rfl ?_
  refine z_lv [0, 1, 2, 3] rfl ?_
  refine z_loop (α := Nat × Nat) (fun (a9 : Nat × Nat) Φi => Im G x (rd, NN, fl, pe, le, nx, il, qu, kn, ec, nu, va) Φi ∧ Fr x (fun j9 => False) Φ Φi ∧ (a9.1 ≤ 9) ∧ (a9.2 ≤ lpx a9.1) ∧ True) (fun a9 => [(3, .int (nI (a9.1))), (2, .int (nI (a9.2))), (0, .ref x), (1, .int (nI t))]) (fun a9 => 9 - a9.1) ?_ (0, 0) ⟨hI, fun _ _ => rfl, (show 0 ≤ 9 by omega), (Nat.zero_le _), trivial⟩
  rintro ⟨i_1, i_2⟩ Φl1 ⟨hI1, hF1, b_1, b_2, -⟩ ih1
  replace hI1 : Im G x (rd, NN, fl, pe, le, nx, il, qu, kn, ec, nu, va) Φl1 := hI1
  replace b_1 : i_1 ≤ 9 := b_1
  replace b_2 : i_2 ≤ lpx i_1 := b_2
  show Z p9 l e9 _ s9 m9 _ w9 t9 k9 _ G 4 4 [(3, .int (nI i_1)), (2, .int (nI i_2)), (0, .ref x), (1, .int (nI t))] [] Φl1 _ _ _
  refine z_iload_n B dX12_recordLengthOf_4 rfl 0 rfl ?_
  have b_3 := lpx_le (k := i_1) (by omega)
  refine z_bipush (v := 9) B dX12_recordLengthOf_5 rfl ?_
  refine z_icmp_ge (tgt := 36) B dX12_recordLengthOf_7 rfl (fun c_1 => ?_) (fun c_1 => ?_)
  · have e_1 : 9 ≤ i_1 := (nI_leI (a := 9) (b := i_1) (by omega) (by omega)).mp c_1
    refine z_iload_n B dX12_recordLengthOf_36 rfl 1 rfl ?_
    exact z_ret_i B dX12_recordLengthOf_37 ⟨⟨i_2, rfl, (show i_2 ≤ 29 by omega)⟩, rfl, hI1, (fun b9 h9 => ((hF1 b9 (fun j9 h8 h7 => (show False from h7).elim)).trans rfl))⟩
  · have e_2 : ¬ (9 ≤ i_1) := fun h9 => c_1 ((nI_leI (a := 9) (b := i_1) (by omega) (by omega)).mpr h9)
    refine z_aload_n B dX12_recordLengthOf_10 rfl 2 rfl ?_
    refine z_iload_n B dX12_recordLengthOf_11 rfl 3 rfl ?_
    obtain ⟨v_1, v_2, v_3, n_1, v_4, v_5, v_6, v_7, v_8, v_9, v_10, v_11, v_12, n_2, v_13, n_3, n_4, v_14, v_15, h_1, b_15, b_4, b_5, b_6, b_7, b_8, b_9, b_10, b_11, b_12, b_13, b_14⟩ := im0 hI1
    replace b_4 : 1 ≤ n_1 := b_4
    replace b_5 : n_1 ≤ 1024 := b_5
    replace b_6 : fl ≤ 12 := b_6
    replace b_7 : pe ≤ 24 := b_7
    replace b_8 : le ≤ 700 := b_8
    replace b_9 : qu ≤ 12 := b_9
    replace b_10 : n_2 ≤ 8 := b_10
    replace b_11 : n_3 ≤ 24 := b_11
    replace b_12 : n_4 ≤ 24 := b_12
    replace b_13 : il ≤ 700 := b_13
    replace b_14 : nx ≤ 701 := b_14
    have h_2 : Φl1 x = some (o_ 14 [.int v_1, .ref (x + 1), .ref (x + 2), .int v_2, .int v_3, .int (nI n_1), .int v_4, .int v_5, .ref (x + 3), .ref (x + 4), .int v_6, .long v_7, .ref (x + 5), .int (nI fl), .int v_8, .long v_9, .long v_10, .long v_11, .long v_12, .ref (x + 6), .ref (x + 7), .int (nI pe), .ref (x + 8), .int (nI le), .ref (x + 9), .ref (x + 10), .int (nI qu), .ref (x + 11), .ref (x + 12), .ref (x + 13), .ref (x + 14), .ref (x + 15), .ref (x + 16), .int (nI n_2), .long v_13, .ref (x + 17), .ref (x + 18), .ref (x + 19), .ref (x + 20), .ref (x + 21), .ref (x + 22), .int (nI n_3), .ref (x + 23), .ref (x + 24), .int (nI n_4), .ref (x + 25), .int (nI il), .int (nI nx), .int ec, .int v_14, .int kn, .int v_15, .int nu, .long va]) := h_1
    refine z_callV (As := [.int (nI t)]) (rest := []) B (r_effective G l Φl1 sz x rd fl pe le nx il qu kn ec nu va t hx hI1 (show t < 4 by omega)) (cwV 1 B.1.2.2.2.2 gX12_recordLengthOf_X12_effective rfl rfl rfl (by decide +kernel) ⟨Nat.le_of_ble_eq_true rfl, Nat.le_of_ble_eq_true rfl⟩) h_2 rfl rfl rfl rfl (Nat.le_of_ble_eq_true rfl) dX12_recordLengthOf_12 ⟨Nat.le_of_ble_eq_true rfl, Nat.le_of_ble_eq_true rfl⟩ (fun r_1 Φ1 sz1 st1 hp1 hs1 => ?_)
    obtain ⟨⟨v_16, rfl⟩, hq1, hI2, hF2⟩ := hp1
    subst sz1
    replace hs1 : st1 = [.int v_16] := hs1
    subst st1
    replace hI2 : Im G x (rd, NN, fl, pe, le, nx, il, qu, kn, ec, nu, va) Φ1 := hI2
    refine z_iload_n B dX12_recordLengthOf_15 rfl 0 rfl ?_
    refine z_ishr B dX12_recordLengthOf_16 ?_
    refine z_fi (fun v_17 => ?_)
    refine z_iconst (v := 1) B dX12_recordLengthOf_17 rfl ?_
    refine z_iand B dX12_recordLengthOf_18 ?_
    refine z_fi (fun v_18 => ?_)
    refine z_iconst (v := 1) B dX12_recordLengthOf_19 rfl ?_
    refine z_icmp_ne (tgt := 30) B dX12_recordLengthOf_20 rfl (fun c_2 => ?_) (fun c_2 => ?_)
    · refine z_iinc (k := 0) (v := nI (i_1 + 1)) (lv' := [(3, .int (nI (i_1 + 1))), (2, .int (nI i_2)), (0, .ref x), (1, .int (nI t))]) B dX12_recordLengthOf_30 rfl (nI_add i_1 1) (Nat.le_of_ble_eq_true rfl) rfl ?_
      refine z_goto (tgt := 4) B dX12_recordLengthOf_33 rfl ?_
      refine z_lv [0, 1, 2, 3] rfl ?_
      exact ih1 (i_1 + 1, i_2) Φ1 (show 9 - (i_1 + 1) < 9 - i_1 by omega) ⟨hI2, (fun b9 h9 => ((hF2 b9 (fun j9 h8 h7 => (show False from h7).elim)).trans ((hF1 b9 (fun j9 h8 h7 => (show False from h7).elim)).trans rfl))), (show (i_1 + 1) ≤ 9 by omega), (lpx_k b_2), trivial⟩
    · refine z_iload_n B dX12_recordLengthOf_23 rfl 1 rfl ?_
      refine z_iload_n B dX12_recordLengthOf_24 rfl 0 rfl ?_
      refine z_callS (As := [.int (nI i_1)]) (rest := [.int (nI i_2)]) B (r_lengthOf G l Φ1 sz x rd fl pe le nx il qu kn ec nu va i_1 hx hI2 (show i_1 < 2 ^ 31 by omega)) (va_cwS 1 B.1.2.2.2.2 gX12_recordLengthOf_X12_lengthOf rfl rfl rfl (by decide +kernel) ⟨Nat.le_of_ble_eq_true rfl, Nat.le_of_ble_eq_true rfl⟩) rfl rfl (Nat.le_of_ble_eq_true rfl) dX12_recordLengthOf_25 ⟨Nat.le_of_ble_eq_true rfl, Nat.le_of_ble_eq_true rfl⟩ (fun r_2 Φ2 sz2 st2 hp2 hs2 => ?_)
      obtain ⟨rfl, hq2, hI3, hF3⟩ := hp2
      subst sz2
      replace hs2 : st2 = [.int (nI (lnN i_1)), .int (nI i_2)] := hs2
      subst st2
      have b_16 := lnN_pos i_1
      have b_17 := lnN_le i_1
      replace hI3 : Im G x (rd, NN, fl, pe, le, nx, il, qu, kn, ec, nu, va) Φ2 := hI3
      refine z_iadd B dX12_recordLengthOf_28 ?_
      refine z_top (st1 := [.int (nI (i_2 + lnN i_1))]) (congrArg (fun w9 : Int32 => ([.int w9] : List Value)) (nI_add i_2 (lnN i_1))) ?_
      refine z_istore_n (lv' := [(2, .int (nI (i_2 + lnN i_1))), (3, .int (nI i_1)), (0, .ref x), (1, .int (nI t))]) B dX12_recordLengthOf_29 rfl (Nat.le_of_ble_eq_true rfl) rfl ?_
      refine z_iinc (k := 1) (v := nI (i_1 + 1)) (lv' := [(3, .int (nI (i_1 + 1))), (2, .int (nI (i_2 + lnN i_1))), (0, .ref x), (1, .int (nI t))]) B dX12_recordLengthOf_30 rfl (nI_add i_1 1) (Nat.le_of_ble_eq_true rfl) rfl ?_
      refine z_goto (tgt := 4) B dX12_recordLengthOf_33 rfl ?_
      refine z_lv [0, 1, 2, 3] rfl ?_
      exact ih1 (i_1 + 1, i_2 + lnN i_1) Φ2 (show 9 - (i_1 + 1) < 9 - i_1 by omega) ⟨hI3, (fun b9 h9 => ((hF3 b9 (fun j9 h8 h7 => (show False from h7).elim)).trans ((hF2 b9 (fun j9 h8 h7 => (show False from h7).elim)).trans ((hF1 b9 (fun j9 h8 h7 => (show False from h7).elim)).trans rfl)))), (show (i_1 + 1) ≤ 9 by omega), (lpx_s b_2), trivial⟩

set_option maxHeartbeats 4000000 in
set_option maxRecDepth 100000 in
theorem r_templateFields (G : EnvG) (l : Launch) (Φ : Hm) (sz x : Nat) (rd : (Nat → Int32) → Prop) (fl : Nat) (pe : Nat) (le : Nat) (nx : Nat) (il : Nat) (qu : Nat) (kn : Int32) (ec : Int32) (nu : Int32) (va : Int64) (a : Int32) (hx : G.2.2.2 ≤ x) (hI : Im G x (rd, NN, fl, pe, le, nx, il, qu, kn, ec, nu, va) Φ)  : Ct G l yX12_templateFields wsX12_templateFields ({ frames := 2, cells := 0, slots := 0, locals := 46 }) 0 0 [.ref x, .int a] Φ sz (fun v Φ1 sz1 => (∃ r9 : Int32, v = some (.int r9)) ∧ sz1 = sz ∧ (Im G x (rd, NN, fl, pe, le, nx, il, qu, kn, ec, nu, va) Φ1) ∧ Fr x (fun j9 => j9 = 0) Φ Φ1) := by
  refine Ct.of (cc := cX12_templateFields) (maxL := 2) (ret := (some .int)) (by decide) rfl (Nat.le_of_ble_eq_true rfl) ?_
  intro p9 e9 s9 m9 w9 t9 k9 B
  show Z p9 l e9 _ s9 m9 _ w9 t9 k9 _ G 2 0 [(0, .ref x), (1, .int a)] [] Φ sz 0 0
  refine z_aload_n B dX12_templateFields_0 rfl 0 rfl ?_
  refine z_iconst (v := 0) B dX12_templateFields_1 rfl ?_
  obtain ⟨v_1, v_2, v_3, n_1, v_4, v_5, v_6, v_7, v_8, v_9, v_10, v_11, v_12, n_2, v_13, n_3, n_4, v_14, v_15, h_1, b_12, b_1, b_2, b_3, b_4, b_5, b_6, b_7, b_8, b_9, b_10, b_11⟩ := im0 hI
  replace b_1 : 1 ≤ n_1 := b_1
  replace b_2 : n_1 ≤ 1024 := b_2
  replace b_3 : fl ≤ 12 := b_3
  replace b_4 : pe ≤ 24 := b_4
  replace b_5 : le ≤ 700 := b_5
  replace b_6 : qu ≤ 12 := b_6
  replace b_7 : n_2 ≤ 8 := b_7
  replace b_8 : n_3 ≤ 24 := b_8
  replace b_9 : n_4 ≤ 24 := b_9
  replace b_10 : il ≤ 700 := b_10
  replace b_11 : nx ≤ 701 := b_11
  have h_2 : Φ x = some (o_ 14 [.int v_1, .ref (x + 1), .ref (x + 2), .int v_2, .int v_3, .int (nI n_1), .int v_4, .int v_5, .ref (x + 3), .ref (x + 4), .int v_6, .long v_7, .ref (x + 5), .int (nI fl), .int v_8, .long v_9, .long v_10, .long v_11, .long v_12, .ref (x + 6), .ref (x + 7), .int (nI pe), .ref (x + 8), .int (nI le), .ref (x + 9), .ref (x + 10), .int (nI qu), .ref (x + 11), .ref (x + 12), .ref (x + 13), .ref (x + 14), .ref (x + 15), .ref (x + 16), .int (nI n_2), .long v_13, .ref (x + 17), .ref (x + 18), .ref (x + 19), .ref (x + 20), .ref (x + 21), .ref (x + 22), .int (nI n_3), .ref (x + 23), .ref (x + 24), .int (nI n_4), .ref (x + 25), .int (nI il), .int (nI nx), .int ec, .int v_14, .int kn, .int v_15, .int nu, .long va]) := h_1
  refine z_put (ref := "FlowExporterModel") (C := RX12) (T := TX12) (N := 54) (ci := 14) (v := .int 0) B (by decide +kernel) tyX12 tyX12_ok nmX12 rfl 0 (by decide) (by decide +kernel) rfl (Or.inl rfl) h_2 hx rfl rfl (Nat.le_of_ble_eq_true rfl) dX12_templateFields_2 (fun Φ1 hΦ1 => ?_)
  have h_3 : Φ1 x = some (o_ 14 [.int 0, .ref (x + 1), .ref (x + 2), .int v_2, .int v_3, .int (nI n_1), .int v_4, .int v_5, .ref (x + 3), .ref (x + 4), .int v_6, .long v_7, .ref (x + 5), .int (nI fl), .int v_8, .long v_9, .long v_10, .long v_11, .long v_12, .ref (x + 6), .ref (x + 7), .int (nI pe), .ref (x + 8), .int (nI le), .ref (x + 9), .ref (x + 10), .int (nI qu), .ref (x + 11), .ref (x + 12), .ref (x + 13), .ref (x + 14), .ref (x + 15), .ref (x + 16), .int (nI n_2), .long v_13, .ref (x + 17), .ref (x + 18), .ref (x + 19), .ref (x + 20), .ref (x + 21), .ref (x + 22), .int (nI n_3), .ref (x + 23), .ref (x + 24), .int (nI n_4), .ref (x + 25), .int (nI il), .int (nI nx), .int ec, .int v_14, .int kn, .int v_15, .int nu, .long va]) := fset_at hΦ1
  have hI1 : Im G x (rd, NN, fl, pe, le, nx, il, qu, kn, ec, nu, va) Φ1 := Im.put0 hI hΦ1 ⟨0, v_2, v_3, n_1, v_4, v_5, v_6, v_7, v_8, v_9, v_10, v_11, v_12, n_2, v_13, n_3, n_4, v_14, v_15, rfl, b_12, (show 1 ≤ n_1 by omega), (show n_1 ≤ 1024 by omega), (show fl ≤ 12 by omega), (show pe ≤ 24 by omega), (show le ≤ 700 by omega), (show qu ≤ 12 by omega), (show n_2 ≤ 8 by omega), (show n_3 ≤ 24 by omega), (show n_4 ≤ 24 by omega), (show il ≤ 700 by omega), (show nx ≤ 701 by omega)⟩
  refine z_aload_n B dX12_templateFields_5 rfl 0 rfl ?_
  refine z_aload_n B dX12_templateFields_6 rfl 0 rfl ?_
  refine z_iload_n B dX12_templateFields_7 rfl 1 rfl ?_
  refine z_callV (As := [.int a]) (rest := [.ref x]) B (r_isTemplate G l Φ1 sz x rd fl pe le nx il qu kn ec nu va a hx hI1 ) (cwV 1 B.1.2.2.2.2 gX12_templateFields_X12_isTemplate rfl rfl rfl (by decide +kernel) ⟨Nat.le_of_ble_eq_true rfl, Nat.le_of_ble_eq_true rfl⟩) h_3 rfl rfl rfl rfl (Nat.le_of_ble_eq_true rfl) dX12_templateFields_8 ⟨Nat.le_of_ble_eq_true rfl, Nat.le_of_ble_eq_true rfl⟩ (fun r_1 Φ2 sz1 st1 hp1 hs1 => ?_)
  obtain ⟨ha1, hq1, hI2, hF1⟩ := hp1
  subst sz1
  replace hI2 : Im G x (rd, NN, fl, pe, le, nx, il, qu, kn, ec, nu, va) Φ2 := hI2
  rcases ha1 with rfl | ⟨rfl, n_5, b_13, rfl⟩
  · replace hs1 : st1 = [.int 0, .ref x] := hs1
    subst st1
    refine z_if_ne (tgt := 18) B dX12_templateFields_11 rfl (fun h9 => absurd (by decide) h9) (fun c_1 => ?_)
    refine z_iconst (v := 1) B dX12_templateFields_14 rfl ?_
    refine z_goto (tgt := 19) B dX12_templateFields_15 rfl ?_
    refine z_iconst (v := 1) B dX12_templateFields_19 rfl ?_
    have h_4 : Φ2 x = some (o_ 14 [.int 0, .ref (x + 1), .ref (x + 2), .int v_2, .int v_3, .int (nI n_1), .int v_4, .int v_5, .ref (x + 3), .ref (x + 4), .int v_6, .long v_7, .ref (x + 5), .int (nI fl), .int v_8, .long v_9, .long v_10, .long v_11, .long v_12, .ref (x + 6), .ref (x + 7), .int (nI pe), .ref (x + 8), .int (nI le), .ref (x + 9), .ref (x + 10), .int (nI qu), .ref (x + 11), .ref (x + 12), .ref (x + 13), .ref (x + 14), .ref (x + 15), .ref (x + 16), .int (nI n_2), .long v_13, .ref (x + 17), .ref (x + 18), .ref (x + 19), .ref (x + 20), .ref (x + 21), .ref (x + 22), .int (nI n_3), .ref (x + 23), .ref (x + 24), .int (nI n_4), .ref (x + 25), .int (nI il), .int (nI nx), .int ec, .int v_14, .int kn, .int v_15, .int nu, .long va]) := ((hF1 x (fun j9 h8 h7 => (show False from h7).elim)).trans h_3)
    refine z_callV (As := [.int 1, .int 1]) (rest := []) B (r_throwsIf G l Φ2 sz x rd fl pe le nx il qu kn ec nu va 1 1 hx hI2 (by decide)) (cwV 2 B.1.2.2.2.2 gX12_templateFields_X12_throwsIf rfl rfl rfl (by decide +kernel) ⟨Nat.le_of_ble_eq_true rfl, Nat.le_of_ble_eq_true rfl⟩) h_4 rfl rfl rfl rfl (Nat.le_of_ble_eq_true rfl) dX12_templateFields_20 ⟨Nat.le_of_ble_eq_true rfl, Nat.le_of_ble_eq_true rfl⟩ (fun r_2 Φ3 sz2 st2 hp2 hs2 => ?_)
    obtain ⟨rfl, hq2, hI3, hF2⟩ := hp2
    subst sz2
    replace hs2 : st2 = [.int 1] := hs2
    subst st2
    replace hI3 : Im G x (rd, NN, fl, pe, le, nx, il, qu, kn, ec, nu, va) Φ3 := hI3
    refine z_if_eq (tgt := 30) B dX12_templateFields_23 rfl (fun h9 => absurd h9 (by decide)) (fun c_2 => ?_)
    refine z_iconst (v := 0) B dX12_templateFields_26 rfl ?_
    refine z_goto (tgt := 35) B dX12_templateFields_27 rfl ?_
    exact z_ret_i B dX12_templateFields_35 ⟨⟨_, rfl⟩, rfl, hI3, (fun b9 h9 => ((hF2 b9 (fun j9 h8 h7 => h9 j9 h8 (show j9 = 0 by have h6 : j9 = 0 := h7; omega))).trans ((hF1 b9 (fun j9 h8 h7 => (show False from h7).elim)).trans ((fset_fr hΦ1 (fun h8 => h9 (0) h8 (show 0 = 0 by omega))).trans rfl))))⟩
  · replace hs1 : st1 = [.int 1, .ref x] := hs1
    subst st1
    replace b_13 : n_5 < 4 := b_13
    refine z_if_ne (tgt := 18) B dX12_templateFields_11 rfl (fun c_3 => ?_) (fun h9 => absurd h9 (by decide))
    refine z_iconst (v := 0) B dX12_templateFields_18 rfl ?_
    refine z_iconst (v := 1) B dX12_templateFields_19 rfl ?_
    have h_5 : Φ2 x = some (o_ 14 [.int 0, .ref (x + 1), .ref (x + 2), .int v_2, .int v_3, .int (nI n_1), .int v_4, .int v_5, .ref (x + 3), .ref (x + 4), .int v_6, .long v_7, .ref (x + 5), .int (nI fl), .int v_8, .long v_9, .long v_10, .long v_11, .long v_12, .ref (x + 6), .ref (x + 7), .int (nI pe), .ref (x + 8), .int (nI le), .ref (x + 9), .ref (x + 10), .int (nI qu), .ref (x + 11), .ref (x + 12), .ref (x + 13), .ref (x + 14), .ref (x + 15), .ref (x + 16), .int (nI n_2), .long v_13, .ref (x + 17), .ref (x + 18), .ref (x + 19), .ref (x + 20), .ref (x + 21), .ref (x + 22), .int (nI n_3), .ref (x + 23), .ref (x + 24), .int (nI n_4), .ref (x + 25), .int (nI il), .int (nI nx), .int ec, .int v_14, .int kn, .int v_15, .int nu, .long va]) := ((hF1 x (fun j9 h8 h7 => (show False from h7).elim)).trans h_3)
    refine z_callV (As := [.int 0, .int 1]) (rest := []) B (r_throwsIf G l Φ2 sz x rd fl pe le nx il qu kn ec nu va 0 1 hx hI2 (by decide)) (cwV 2 B.1.2.2.2.2 gX12_templateFields_X12_throwsIf rfl rfl rfl (by decide +kernel) ⟨Nat.le_of_ble_eq_true rfl, Nat.le_of_ble_eq_true rfl⟩) h_5 rfl rfl rfl rfl (Nat.le_of_ble_eq_true rfl) dX12_templateFields_20 ⟨Nat.le_of_ble_eq_true rfl, Nat.le_of_ble_eq_true rfl⟩ (fun r_3 Φ4 sz3 st3 hp3 hs3 => ?_)
    obtain ⟨rfl, hq3, hI4, hF3⟩ := hp3
    subst sz3
    replace hs3 : st3 = [.int 0] := hs3
    subst st3
    replace hI4 : Im G x (rd, NN, fl, pe, le, nx, il, qu, kn, ec, nu, va) Φ4 := hI4
    refine z_if_eq (tgt := 30) B dX12_templateFields_23 rfl (fun c_4 => ?_) (fun h9 => absurd (by decide) h9)
    refine z_aload_n B dX12_templateFields_30 rfl 0 rfl ?_
    refine z_iload_n B dX12_templateFields_31 rfl 1 rfl ?_
    obtain ⟨v_16, v_17, v_18, n_6, v_19, v_20, v_21, v_22, v_23, v_24, v_25, v_26, v_27, n_7, v_28, n_8, n_9, v_29, v_30, h_6, b_25, b_14, b_15, b_16, b_17, b_18, b_19, b_20, b_21, b_22, b_23, b_24⟩ := im0 hI4
    replace b_14 : 1 ≤ n_6 := b_14
    replace b_15 : n_6 ≤ 1024 := b_15
    replace b_16 : fl ≤ 12 := b_16
    replace b_17 : pe ≤ 24 := b_17
    replace b_18 : le ≤ 700 := b_18
    replace b_19 : qu ≤ 12 := b_19
    replace b_20 : n_7 ≤ 8 := b_20
    replace b_21 : n_8 ≤ 24 := b_21
    replace b_22 : n_9 ≤ 24 := b_22
    replace b_23 : il ≤ 700 := b_23
    replace b_24 : nx ≤ 701 := b_24
    have h_7 : Φ4 x = some (o_ 14 [.int v_16, .ref (x + 1), .ref (x + 2), .int v_17, .int v_18, .int (nI n_6), .int v_19, .int v_20, .ref (x + 3), .ref (x + 4), .int v_21, .long v_22, .ref (x + 5), .int (nI fl), .int v_23, .long v_24, .long v_25, .long v_26, .long v_27, .ref (x + 6), .ref (x + 7), .int (nI pe), .ref (x + 8), .int (nI le), .ref (x + 9), .ref (x + 10), .int (nI qu), .ref (x + 11), .ref (x + 12), .ref (x + 13), .ref (x + 14), .ref (x + 15), .ref (x + 16), .int (nI n_7), .long v_28, .ref (x + 17), .ref (x + 18), .ref (x + 19), .ref (x + 20), .ref (x + 21), .ref (x + 22), .int (nI n_8), .ref (x + 23), .ref (x + 24), .int (nI n_9), .ref (x + 25), .int (nI il), .int (nI nx), .int ec, .int v_29, .int kn, .int v_30, .int nu, .long va]) := h_6
    refine z_callV (As := [.int (nI n_5)]) (rest := []) B (r_fieldsOf G l Φ4 sz x rd fl pe le nx il qu kn ec nu va n_5 hx hI4 (show n_5 < 4 by omega)) (cwV 1 B.1.2.2.2.2 gX12_templateFields_X12_fieldsOf rfl rfl rfl (by decide +kernel) ⟨Nat.le_of_ble_eq_true rfl, Nat.le_of_ble_eq_true rfl⟩) h_7 rfl rfl rfl rfl (Nat.le_of_ble_eq_true rfl) dX12_templateFields_32 ⟨Nat.le_of_ble_eq_true rfl, Nat.le_of_ble_eq_true rfl⟩ (fun r_4 Φ5 sz4 st4 hp4 hs4 => ?_)
    obtain ⟨⟨v_31, rfl⟩, hq4, hI5, hF4⟩ := hp4
    subst sz4
    replace hs4 : st4 = [.int v_31] := hs4
    subst st4
    replace hI5 : Im G x (rd, NN, fl, pe, le, nx, il, qu, kn, ec, nu, va) Φ5 := hI5
    exact z_ret_i B dX12_templateFields_35 ⟨⟨_, rfl⟩, rfl, hI5, (fun b9 h9 => ((hF4 b9 (fun j9 h8 h7 => (show False from h7).elim)).trans ((hF3 b9 (fun j9 h8 h7 => h9 j9 h8 (show j9 = 0 by have h6 : j9 = 0 := h7; omega))).trans ((hF1 b9 (fun j9 h8 h7 => (show False from h7).elim)).trans ((fset_fr hΦ1 (fun h8 => h9 (0) h8 (show 0 = 0 by omega))).trans rfl)))))⟩

set_option maxHeartbeats 4000000 in
set_option maxRecDepth 100000 in
theorem r_effectiveFields (G : EnvG) (l : Launch) (Φ : Hm) (sz x : Nat) (rd : (Nat → Int32) → Prop) (fl : Nat) (pe : Nat) (le : Nat) (nx : Nat) (il : Nat) (qu : Nat) (kn : Int32) (ec : Int32) (nu : Int32) (va : Int64) (a : Int32) (hx : G.2.2.2 ≤ x) (hI : Im G x (rd, NN, fl, pe, le, nx, il, qu, kn, ec, nu, va) Φ)  : Ct G l yX12_effectiveFields wsX12_effectiveFields ({ frames := 3, cells := 0, slots := 0, locals := 66 }) 0 0 [.ref x, .int a] Φ sz (fun v Φ1 sz1 => (∃ r9 : Int32, v = some (.int r9)) ∧ sz1 = sz ∧ (Im G x (rd, NN, fl, pe, le, nx, il, qu, kn, ec, nu, va) Φ1) ∧ Fr x (fun j9 => j9 = 0) Φ Φ1) := by
  refine Ct.of (cc := cX12_effectiveFields) (maxL := 2) (ret := (some .int)) (by decide) rfl (Nat.le_of_ble_eq_true rfl) ?_
  intro p9 e9 s9 m9 w9 t9 k9 B
  show Z p9 l e9 _ s9 m9 _ w9 t9 k9 _ G 2 0 [(0, .ref x), (1, .int a)] [] Φ sz 0 0
  refine z_aload_n B dX12_effectiveFields_0 rfl 0 rfl ?_
  refine z_iconst (v := 0) B dX12_effectiveFields_1 rfl ?_
  obtain ⟨v_1, v_2, v_3, n_1, v_4, v_5, v_6, v_7, v_8, v_9, v_10, v_11, v_12, n_2, v_13, n_3, n_4, v_14, v_15, h_1, b_12, b_1, b_2, b_3, b_4, b_5, b_6, b_7, b_8, b_9, b_10, b_11⟩ := im0 hI
  replace b_1 : 1 ≤ n_1 := b_1
  replace b_2 : n_1 ≤ 1024 := b_2
  replace b_3 : fl ≤ 12 := b_3
  replace b_4 : pe ≤ 24 := b_4
  replace b_5 : le ≤ 700 := b_5
  replace b_6 : qu ≤ 12 := b_6
  replace b_7 : n_2 ≤ 8 := b_7
  replace b_8 : n_3 ≤ 24 := b_8
  replace b_9 : n_4 ≤ 24 := b_9
  replace b_10 : il ≤ 700 := b_10
  replace b_11 : nx ≤ 701 := b_11
  have h_2 : Φ x = some (o_ 14 [.int v_1, .ref (x + 1), .ref (x + 2), .int v_2, .int v_3, .int (nI n_1), .int v_4, .int v_5, .ref (x + 3), .ref (x + 4), .int v_6, .long v_7, .ref (x + 5), .int (nI fl), .int v_8, .long v_9, .long v_10, .long v_11, .long v_12, .ref (x + 6), .ref (x + 7), .int (nI pe), .ref (x + 8), .int (nI le), .ref (x + 9), .ref (x + 10), .int (nI qu), .ref (x + 11), .ref (x + 12), .ref (x + 13), .ref (x + 14), .ref (x + 15), .ref (x + 16), .int (nI n_2), .long v_13, .ref (x + 17), .ref (x + 18), .ref (x + 19), .ref (x + 20), .ref (x + 21), .ref (x + 22), .int (nI n_3), .ref (x + 23), .ref (x + 24), .int (nI n_4), .ref (x + 25), .int (nI il), .int (nI nx), .int ec, .int v_14, .int kn, .int v_15, .int nu, .long va]) := h_1
  refine z_put (ref := "FlowExporterModel") (C := RX12) (T := TX12) (N := 54) (ci := 14) (v := .int 0) B (by decide +kernel) tyX12 tyX12_ok nmX12 rfl 0 (by decide) (by decide +kernel) rfl (Or.inl rfl) h_2 hx rfl rfl (Nat.le_of_ble_eq_true rfl) dX12_effectiveFields_2 (fun Φ1 hΦ1 => ?_)
  have h_3 : Φ1 x = some (o_ 14 [.int 0, .ref (x + 1), .ref (x + 2), .int v_2, .int v_3, .int (nI n_1), .int v_4, .int v_5, .ref (x + 3), .ref (x + 4), .int v_6, .long v_7, .ref (x + 5), .int (nI fl), .int v_8, .long v_9, .long v_10, .long v_11, .long v_12, .ref (x + 6), .ref (x + 7), .int (nI pe), .ref (x + 8), .int (nI le), .ref (x + 9), .ref (x + 10), .int (nI qu), .ref (x + 11), .ref (x + 12), .ref (x + 13), .ref (x + 14), .ref (x + 15), .ref (x + 16), .int (nI n_2), .long v_13, .ref (x + 17), .ref (x + 18), .ref (x + 19), .ref (x + 20), .ref (x + 21), .ref (x + 22), .int (nI n_3), .ref (x + 23), .ref (x + 24), .int (nI n_4), .ref (x + 25), .int (nI il), .int (nI nx), .int ec, .int v_14, .int kn, .int v_15, .int nu, .long va]) := fset_at hΦ1
  have hI1 : Im G x (rd, NN, fl, pe, le, nx, il, qu, kn, ec, nu, va) Φ1 := Im.put0 hI hΦ1 ⟨0, v_2, v_3, n_1, v_4, v_5, v_6, v_7, v_8, v_9, v_10, v_11, v_12, n_2, v_13, n_3, n_4, v_14, v_15, rfl, b_12, (show 1 ≤ n_1 by omega), (show n_1 ≤ 1024 by omega), (show fl ≤ 12 by omega), (show pe ≤ 24 by omega), (show le ≤ 700 by omega), (show qu ≤ 12 by omega), (show n_2 ≤ 8 by omega), (show n_3 ≤ 24 by omega), (show n_4 ≤ 24 by omega), (show il ≤ 700 by omega), (show nx ≤ 701 by omega)⟩
  refine z_aload_n B dX12_effectiveFields_5 rfl 0 rfl ?_
  refine z_aload_n B dX12_effectiveFields_6 rfl 0 rfl ?_
  refine z_iload_n B dX12_effectiveFields_7 rfl 1 rfl ?_
  refine z_callV (As := [.int a]) (rest := [.ref x]) B (r_isTemplate G l Φ1 sz x rd fl pe le nx il qu kn ec nu va a hx hI1 ) (cwV 1 B.1.2.2.2.2 gX12_effectiveFields_X12_isTemplate rfl rfl rfl (by decide +kernel) ⟨Nat.le_of_ble_eq_true rfl, Nat.le_of_ble_eq_true rfl⟩) h_3 rfl rfl rfl rfl (Nat.le_of_ble_eq_true rfl) dX12_effectiveFields_8 ⟨Nat.le_of_ble_eq_true rfl, Nat.le_of_ble_eq_true rfl⟩ (fun r_1 Φ2 sz1 st1 hp1 hs1 => ?_)
  obtain ⟨ha1, hq1, hI2, hF1⟩ := hp1
  subst sz1
  replace hI2 : Im G x (rd, NN, fl, pe, le, nx, il, qu, kn, ec, nu, va) Φ2 := hI2
  rcases ha1 with rfl | ⟨rfl, n_5, b_13, rfl⟩
  · replace hs1 : st1 = [.int 0, .ref x] := hs1
    subst st1
    refine z_if_ne (tgt := 18) B dX12_effectiveFields_11 rfl (fun h9 => absurd (by decide) h9) (fun c_1 => ?_)
    refine z_iconst (v := 1) B dX12_effectiveFields_14 rfl ?_
    refine z_goto (tgt := 19) B dX12_effectiveFields_15 rfl ?_
    refine z_iconst (v := 1) B dX12_effectiveFields_19 rfl ?_
    have h_4 : Φ2 x = some (o_ 14 [.int 0, .ref (x + 1), .ref (x + 2), .int v_2, .int v_3, .int (nI n_1), .int v_4, .int v_5, .ref (x + 3), .ref (x + 4), .int v_6, .long v_7, .ref (x + 5), .int (nI fl), .int v_8, .long v_9, .long v_10, .long v_11, .long v_12, .ref (x + 6), .ref (x + 7), .int (nI pe), .ref (x + 8), .int (nI le), .ref (x + 9), .ref (x + 10), .int (nI qu), .ref (x + 11), .ref (x + 12), .ref (x + 13), .ref (x + 14), .ref (x + 15), .ref (x + 16), .int (nI n_2), .long v_13, .ref (x + 17), .ref (x + 18), .ref (x + 19), .ref (x + 20), .ref (x + 21), .ref (x + 22), .int (nI n_3), .ref (x + 23), .ref (x + 24), .int (nI n_4), .ref (x + 25), .int (nI il), .int (nI nx), .int ec, .int v_14, .int kn, .int v_15, .int nu, .long va]) := ((hF1 x (fun j9 h8 h7 => (show False from h7).elim)).trans h_3)
    refine z_callV (As := [.int 1, .int 1]) (rest := []) B (r_throwsIf G l Φ2 sz x rd fl pe le nx il qu kn ec nu va 1 1 hx hI2 (by decide)) (cwV 2 B.1.2.2.2.2 gX12_effectiveFields_X12_throwsIf rfl rfl rfl (by decide +kernel) ⟨Nat.le_of_ble_eq_true rfl, Nat.le_of_ble_eq_true rfl⟩) h_4 rfl rfl rfl rfl (Nat.le_of_ble_eq_true rfl) dX12_effectiveFields_20 ⟨Nat.le_of_ble_eq_true rfl, Nat.le_of_ble_eq_true rfl⟩ (fun r_2 Φ3 sz2 st2 hp2 hs2 => ?_)
    obtain ⟨rfl, hq2, hI3, hF2⟩ := hp2
    subst sz2
    replace hs2 : st2 = [.int 1] := hs2
    subst st2
    replace hI3 : Im G x (rd, NN, fl, pe, le, nx, il, qu, kn, ec, nu, va) Φ3 := hI3
    refine z_if_eq (tgt := 30) B dX12_effectiveFields_23 rfl (fun h9 => absurd h9 (by decide)) (fun c_2 => ?_)
    refine z_iconst (v := 0) B dX12_effectiveFields_26 rfl ?_
    refine z_goto (tgt := 35) B dX12_effectiveFields_27 rfl ?_
    exact z_ret_i B dX12_effectiveFields_35 ⟨⟨_, rfl⟩, rfl, hI3, (fun b9 h9 => ((hF2 b9 (fun j9 h8 h7 => h9 j9 h8 (show j9 = 0 by have h6 : j9 = 0 := h7; omega))).trans ((hF1 b9 (fun j9 h8 h7 => (show False from h7).elim)).trans ((fset_fr hΦ1 (fun h8 => h9 (0) h8 (show 0 = 0 by omega))).trans rfl))))⟩
  · replace hs1 : st1 = [.int 1, .ref x] := hs1
    subst st1
    replace b_13 : n_5 < 4 := b_13
    refine z_if_ne (tgt := 18) B dX12_effectiveFields_11 rfl (fun c_3 => ?_) (fun h9 => absurd h9 (by decide))
    refine z_iconst (v := 0) B dX12_effectiveFields_18 rfl ?_
    refine z_iconst (v := 1) B dX12_effectiveFields_19 rfl ?_
    have h_5 : Φ2 x = some (o_ 14 [.int 0, .ref (x + 1), .ref (x + 2), .int v_2, .int v_3, .int (nI n_1), .int v_4, .int v_5, .ref (x + 3), .ref (x + 4), .int v_6, .long v_7, .ref (x + 5), .int (nI fl), .int v_8, .long v_9, .long v_10, .long v_11, .long v_12, .ref (x + 6), .ref (x + 7), .int (nI pe), .ref (x + 8), .int (nI le), .ref (x + 9), .ref (x + 10), .int (nI qu), .ref (x + 11), .ref (x + 12), .ref (x + 13), .ref (x + 14), .ref (x + 15), .ref (x + 16), .int (nI n_2), .long v_13, .ref (x + 17), .ref (x + 18), .ref (x + 19), .ref (x + 20), .ref (x + 21), .ref (x + 22), .int (nI n_3), .ref (x + 23), .ref (x + 24), .int (nI n_4), .ref (x + 25), .int (nI il), .int (nI nx), .int ec, .int v_14, .int kn, .int v_15, .int nu, .long va]) := ((hF1 x (fun j9 h8 h7 => (show False from h7).elim)).trans h_3)
    refine z_callV (As := [.int 0, .int 1]) (rest := []) B (r_throwsIf G l Φ2 sz x rd fl pe le nx il qu kn ec nu va 0 1 hx hI2 (by decide)) (cwV 2 B.1.2.2.2.2 gX12_effectiveFields_X12_throwsIf rfl rfl rfl (by decide +kernel) ⟨Nat.le_of_ble_eq_true rfl, Nat.le_of_ble_eq_true rfl⟩) h_5 rfl rfl rfl rfl (Nat.le_of_ble_eq_true rfl) dX12_effectiveFields_20 ⟨Nat.le_of_ble_eq_true rfl, Nat.le_of_ble_eq_true rfl⟩ (fun r_3 Φ4 sz3 st3 hp3 hs3 => ?_)
    obtain ⟨rfl, hq3, hI4, hF3⟩ := hp3
    subst sz3
    replace hs3 : st3 = [.int 0] := hs3
    subst st3
    replace hI4 : Im G x (rd, NN, fl, pe, le, nx, il, qu, kn, ec, nu, va) Φ4 := hI4
    refine z_if_eq (tgt := 30) B dX12_effectiveFields_23 rfl (fun c_4 => ?_) (fun h9 => absurd (by decide) h9)
    refine z_aload_n B dX12_effectiveFields_30 rfl 0 rfl ?_
    refine z_iload_n B dX12_effectiveFields_31 rfl 1 rfl ?_
    obtain ⟨v_16, v_17, v_18, n_6, v_19, v_20, v_21, v_22, v_23, v_24, v_25, v_26, v_27, n_7, v_28, n_8, n_9, v_29, v_30, h_6, b_25, b_14, b_15, b_16, b_17, b_18, b_19, b_20, b_21, b_22, b_23, b_24⟩ := im0 hI4
    replace b_14 : 1 ≤ n_6 := b_14
    replace b_15 : n_6 ≤ 1024 := b_15
    replace b_16 : fl ≤ 12 := b_16
    replace b_17 : pe ≤ 24 := b_17
    replace b_18 : le ≤ 700 := b_18
    replace b_19 : qu ≤ 12 := b_19
    replace b_20 : n_7 ≤ 8 := b_20
    replace b_21 : n_8 ≤ 24 := b_21
    replace b_22 : n_9 ≤ 24 := b_22
    replace b_23 : il ≤ 700 := b_23
    replace b_24 : nx ≤ 701 := b_24
    have h_7 : Φ4 x = some (o_ 14 [.int v_16, .ref (x + 1), .ref (x + 2), .int v_17, .int v_18, .int (nI n_6), .int v_19, .int v_20, .ref (x + 3), .ref (x + 4), .int v_21, .long v_22, .ref (x + 5), .int (nI fl), .int v_23, .long v_24, .long v_25, .long v_26, .long v_27, .ref (x + 6), .ref (x + 7), .int (nI pe), .ref (x + 8), .int (nI le), .ref (x + 9), .ref (x + 10), .int (nI qu), .ref (x + 11), .ref (x + 12), .ref (x + 13), .ref (x + 14), .ref (x + 15), .ref (x + 16), .int (nI n_7), .long v_28, .ref (x + 17), .ref (x + 18), .ref (x + 19), .ref (x + 20), .ref (x + 21), .ref (x + 22), .int (nI n_8), .ref (x + 23), .ref (x + 24), .int (nI n_9), .ref (x + 25), .int (nI il), .int (nI nx), .int ec, .int v_29, .int kn, .int v_30, .int nu, .long va]) := h_6
    refine z_callV (As := [.int (nI n_5)]) (rest := []) B (r_effective G l Φ4 sz x rd fl pe le nx il qu kn ec nu va n_5 hx hI4 (show n_5 < 4 by omega)) (cwV 1 B.1.2.2.2.2 gX12_effectiveFields_X12_effective rfl rfl rfl (by decide +kernel) ⟨Nat.le_of_ble_eq_true rfl, Nat.le_of_ble_eq_true rfl⟩) h_7 rfl rfl rfl rfl (Nat.le_of_ble_eq_true rfl) dX12_effectiveFields_32 ⟨Nat.le_of_ble_eq_true rfl, Nat.le_of_ble_eq_true rfl⟩ (fun r_4 Φ5 sz4 st4 hp4 hs4 => ?_)
    obtain ⟨⟨v_31, rfl⟩, hq4, hI5, hF4⟩ := hp4
    subst sz4
    replace hs4 : st4 = [.int v_31] := hs4
    subst st4
    replace hI5 : Im G x (rd, NN, fl, pe, le, nx, il, qu, kn, ec, nu, va) Φ5 := hI5
    exact z_ret_i B dX12_effectiveFields_35 ⟨⟨_, rfl⟩, rfl, hI5, (fun b9 h9 => ((hF4 b9 (fun j9 h8 h7 => (show False from h7).elim)).trans ((hF3 b9 (fun j9 h8 h7 => h9 j9 h8 (show j9 = 0 by have h6 : j9 = 0 := h7; omega))).trans ((hF1 b9 (fun j9 h8 h7 => (show False from h7).elim)).trans ((fset_fr hΦ1 (fun h8 => h9 (0) h8 (show 0 = 0 by omega))).trans rfl)))))⟩

set_option maxHeartbeats 4000000 in
set_option maxRecDepth 100000 in
theorem r_fieldAt (G : EnvG) (l : Launch) (Φ : Hm) (sz x : Nat) (rd : (Nat → Int32) → Prop) (fl : Nat) (pe : Nat) (le : Nat) (nx : Nat) (il : Nat) (qu : Nat) (kn : Int32) (ec : Int32) (nu : Int32) (va : Int64) (a : Int32) (b : Int32) (hx : G.2.2.2 ≤ x) (hI : Im G x (rd, NN, fl, pe, le, nx, il, qu, kn, ec, nu, va) Φ)  : Ct G l yX12_fieldAt wsX12_fieldAt ({ frames := 2, cells := 0, slots := 0, locals := 46 }) 0 0 [.ref x, .int a, .int b] Φ sz (fun v Φ1 sz1 => (∃ r9 : Int32, v = some (.int r9)) ∧ sz1 = sz ∧ (Im G x (rd, NN, fl, pe, le, nx, il, qu, kn, ec, nu, va) Φ1) ∧ Fr x (fun j9 => j9 = 0) Φ Φ1) := by
  refine Ct.of (cc := cX12_fieldAt) (maxL := 3) (ret := (some .int)) (by decide) rfl (Nat.le_of_ble_eq_true rfl) ?_
  intro p9 e9 s9 m9 w9 t9 k9 B
  show Z p9 l e9 _ s9 m9 _ w9 t9 k9 _ G 3 0 [(0, .ref x), (1, .int a), (2, .int b)] [] Φ sz 0 0
  refine z_aload_n B dX12_fieldAt_0 rfl 0 rfl ?_
  refine z_iconst (v := 0) B dX12_fieldAt_1 rfl ?_
  obtain ⟨v_1, v_2, v_3, n_1, v_4, v_5, v_6, v_7, v_8, v_9, v_10, v_11, v_12, n_2, v_13, n_3, n_4, v_14, v_15, h_1, b_12, b_1, b_2, b_3, b_4, b_5, b_6, b_7, b_8, b_9, b_10, b_11⟩ := im0 hI
  replace b_1 : 1 ≤ n_1 := b_1
  replace b_2 : n_1 ≤ 1024 := b_2
  replace b_3 : fl ≤ 12 := b_3
  replace b_4 : pe ≤ 24 := b_4
  replace b_5 : le ≤ 700 := b_5
  replace b_6 : qu ≤ 12 := b_6
  replace b_7 : n_2 ≤ 8 := b_7
  replace b_8 : n_3 ≤ 24 := b_8
  replace b_9 : n_4 ≤ 24 := b_9
  replace b_10 : il ≤ 700 := b_10
  replace b_11 : nx ≤ 701 := b_11
  have h_2 : Φ x = some (o_ 14 [.int v_1, .ref (x + 1), .ref (x + 2), .int v_2, .int v_3, .int (nI n_1), .int v_4, .int v_5, .ref (x + 3), .ref (x + 4), .int v_6, .long v_7, .ref (x + 5), .int (nI fl), .int v_8, .long v_9, .long v_10, .long v_11, .long v_12, .ref (x + 6), .ref (x + 7), .int (nI pe), .ref (x + 8), .int (nI le), .ref (x + 9), .ref (x + 10), .int (nI qu), .ref (x + 11), .ref (x + 12), .ref (x + 13), .ref (x + 14), .ref (x + 15), .ref (x + 16), .int (nI n_2), .long v_13, .ref (x + 17), .ref (x + 18), .ref (x + 19), .ref (x + 20), .ref (x + 21), .ref (x + 22), .int (nI n_3), .ref (x + 23), .ref (x + 24), .int (nI n_4), .ref (x + 25), .int (nI il), .int (nI nx), .int ec, .int v_14, .int kn, .int v_15, .int nu, .long va]) := h_1
  refine z_put (ref := "FlowExporterModel") (C := RX12) (T := TX12) (N := 54) (ci := 14) (v := .int 0) B (by decide +kernel) tyX12 tyX12_ok nmX12 rfl 0 (by decide) (by decide +kernel) rfl (Or.inl rfl) h_2 hx rfl rfl (Nat.le_of_ble_eq_true rfl) dX12_fieldAt_2 (fun Φ1 hΦ1 => ?_)
  have h_3 : Φ1 x = some (o_ 14 [.int 0, .ref (x + 1), .ref (x + 2), .int v_2, .int v_3, .int (nI n_1), .int v_4, .int v_5, .ref (x + 3), .ref (x + 4), .int v_6, .long v_7, .ref (x + 5), .int (nI fl), .int v_8, .long v_9, .long v_10, .long v_11, .long v_12, .ref (x + 6), .ref (x + 7), .int (nI pe), .ref (x + 8), .int (nI le), .ref (x + 9), .ref (x + 10), .int (nI qu), .ref (x + 11), .ref (x + 12), .ref (x + 13), .ref (x + 14), .ref (x + 15), .ref (x + 16), .int (nI n_2), .long v_13, .ref (x + 17), .ref (x + 18), .ref (x + 19), .ref (x + 20), .ref (x + 21), .ref (x + 22), .int (nI n_3), .ref (x + 23), .ref (x + 24), .int (nI n_4), .ref (x + 25), .int (nI il), .int (nI nx), .int ec, .int v_14, .int kn, .int v_15, .int nu, .long va]) := fset_at hΦ1
  have hI1 : Im G x (rd, NN, fl, pe, le, nx, il, qu, kn, ec, nu, va) Φ1 := Im.put0 hI hΦ1 ⟨0, v_2, v_3, n_1, v_4, v_5, v_6, v_7, v_8, v_9, v_10, v_11, v_12, n_2, v_13, n_3, n_4, v_14, v_15, rfl, b_12, (show 1 ≤ n_1 by omega), (show n_1 ≤ 1024 by omega), (show fl ≤ 12 by omega), (show pe ≤ 24 by omega), (show le ≤ 700 by omega), (show qu ≤ 12 by omega), (show n_2 ≤ 8 by omega), (show n_3 ≤ 24 by omega), (show n_4 ≤ 24 by omega), (show il ≤ 700 by omega), (show nx ≤ 701 by omega)⟩
  refine z_aload_n B dX12_fieldAt_5 rfl 0 rfl ?_
  refine z_aload_n B dX12_fieldAt_6 rfl 0 rfl ?_
  refine z_iload_n B dX12_fieldAt_7 rfl 1 rfl ?_
  refine z_callV (As := [.int a]) (rest := [.ref x]) B (r_isTemplate G l Φ1 sz x rd fl pe le nx il qu kn ec nu va a hx hI1 ) (cwV 1 B.1.2.2.2.2 gX12_fieldAt_X12_isTemplate rfl rfl rfl (by decide +kernel) ⟨Nat.le_of_ble_eq_true rfl, Nat.le_of_ble_eq_true rfl⟩) h_3 rfl rfl rfl rfl (Nat.le_of_ble_eq_true rfl) dX12_fieldAt_8 ⟨Nat.le_of_ble_eq_true rfl, Nat.le_of_ble_eq_true rfl⟩ (fun r_1 Φ2 sz1 st1 hp1 hs1 => ?_)
  obtain ⟨ha1, hq1, hI2, hF1⟩ := hp1
  subst sz1
  replace hI2 : Im G x (rd, NN, fl, pe, le, nx, il, qu, kn, ec, nu, va) Φ2 := hI2
  rcases ha1 with rfl | ⟨rfl, n_5, b_13, rfl⟩
  · replace hs1 : st1 = [.int 0, .ref x] := hs1
    subst st1
    refine z_if_ne (tgt := 18) B dX12_fieldAt_11 rfl (fun h9 => absurd (by decide) h9) (fun c_1 => ?_)
    refine z_iconst (v := 1) B dX12_fieldAt_14 rfl ?_
    refine z_goto (tgt := 19) B dX12_fieldAt_15 rfl ?_
    refine z_iconst (v := 1) B dX12_fieldAt_19 rfl ?_
    have h_4 : Φ2 x = some (o_ 14 [.int 0, .ref (x + 1), .ref (x + 2), .int v_2, .int v_3, .int (nI n_1), .int v_4, .int v_5, .ref (x + 3), .ref (x + 4), .int v_6, .long v_7, .ref (x + 5), .int (nI fl), .int v_8, .long v_9, .long v_10, .long v_11, .long v_12, .ref (x + 6), .ref (x + 7), .int (nI pe), .ref (x + 8), .int (nI le), .ref (x + 9), .ref (x + 10), .int (nI qu), .ref (x + 11), .ref (x + 12), .ref (x + 13), .ref (x + 14), .ref (x + 15), .ref (x + 16), .int (nI n_2), .long v_13, .ref (x + 17), .ref (x + 18), .ref (x + 19), .ref (x + 20), .ref (x + 21), .ref (x + 22), .int (nI n_3), .ref (x + 23), .ref (x + 24), .int (nI n_4), .ref (x + 25), .int (nI il), .int (nI nx), .int ec, .int v_14, .int kn, .int v_15, .int nu, .long va]) := ((hF1 x (fun j9 h8 h7 => (show False from h7).elim)).trans h_3)
    refine z_callV (As := [.int 1, .int 1]) (rest := []) B (r_throwsIf G l Φ2 sz x rd fl pe le nx il qu kn ec nu va 1 1 hx hI2 (by decide)) (cwV 2 B.1.2.2.2.2 gX12_fieldAt_X12_throwsIf rfl rfl rfl (by decide +kernel) ⟨Nat.le_of_ble_eq_true rfl, Nat.le_of_ble_eq_true rfl⟩) h_4 rfl rfl rfl rfl (Nat.le_of_ble_eq_true rfl) dX12_fieldAt_20 ⟨Nat.le_of_ble_eq_true rfl, Nat.le_of_ble_eq_true rfl⟩ (fun r_2 Φ3 sz2 st2 hp2 hs2 => ?_)
    obtain ⟨rfl, hq2, hI3, hF2⟩ := hp2
    subst sz2
    replace hs2 : st2 = [.int 1] := hs2
    subst st2
    replace hI3 : Im G x (rd, NN, fl, pe, le, nx, il, qu, kn, ec, nu, va) Φ3 := hI3
    refine z_if_eq (tgt := 30) B dX12_fieldAt_23 rfl (fun h9 => absurd h9 (by decide)) (fun c_2 => ?_)
    refine z_iconst (v := 0) B dX12_fieldAt_26 rfl ?_
    refine z_goto (tgt := 57) B dX12_fieldAt_27 rfl ?_
    exact z_ret_i B dX12_fieldAt_57 ⟨⟨_, rfl⟩, rfl, hI3, (fun b9 h9 => ((hF2 b9 (fun j9 h8 h7 => h9 j9 h8 (show j9 = 0 by have h6 : j9 = 0 := h7; omega))).trans ((hF1 b9 (fun j9 h8 h7 => (show False from h7).elim)).trans ((fset_fr hΦ1 (fun h8 => h9 (0) h8 (show 0 = 0 by omega))).trans rfl))))⟩
  · replace hs1 : st1 = [.int 1, .ref x] := hs1
    subst st1
    replace b_13 : n_5 < 4 := b_13
    refine z_if_ne (tgt := 18) B dX12_fieldAt_11 rfl (fun c_3 => ?_) (fun h9 => absurd h9 (by decide))
    refine z_iconst (v := 0) B dX12_fieldAt_18 rfl ?_
    refine z_iconst (v := 1) B dX12_fieldAt_19 rfl ?_
    have h_5 : Φ2 x = some (o_ 14 [.int 0, .ref (x + 1), .ref (x + 2), .int v_2, .int v_3, .int (nI n_1), .int v_4, .int v_5, .ref (x + 3), .ref (x + 4), .int v_6, .long v_7, .ref (x + 5), .int (nI fl), .int v_8, .long v_9, .long v_10, .long v_11, .long v_12, .ref (x + 6), .ref (x + 7), .int (nI pe), .ref (x + 8), .int (nI le), .ref (x + 9), .ref (x + 10), .int (nI qu), .ref (x + 11), .ref (x + 12), .ref (x + 13), .ref (x + 14), .ref (x + 15), .ref (x + 16), .int (nI n_2), .long v_13, .ref (x + 17), .ref (x + 18), .ref (x + 19), .ref (x + 20), .ref (x + 21), .ref (x + 22), .int (nI n_3), .ref (x + 23), .ref (x + 24), .int (nI n_4), .ref (x + 25), .int (nI il), .int (nI nx), .int ec, .int v_14, .int kn, .int v_15, .int nu, .long va]) := ((hF1 x (fun j9 h8 h7 => (show False from h7).elim)).trans h_3)
    refine z_callV (As := [.int 0, .int 1]) (rest := []) B (r_throwsIf G l Φ2 sz x rd fl pe le nx il qu kn ec nu va 0 1 hx hI2 (by decide)) (cwV 2 B.1.2.2.2.2 gX12_fieldAt_X12_throwsIf rfl rfl rfl (by decide +kernel) ⟨Nat.le_of_ble_eq_true rfl, Nat.le_of_ble_eq_true rfl⟩) h_5 rfl rfl rfl rfl (Nat.le_of_ble_eq_true rfl) dX12_fieldAt_20 ⟨Nat.le_of_ble_eq_true rfl, Nat.le_of_ble_eq_true rfl⟩ (fun r_3 Φ4 sz3 st3 hp3 hs3 => ?_)
    obtain ⟨rfl, hq3, hI4, hF3⟩ := hp3
    subst sz3
    replace hs3 : st3 = [.int 0] := hs3
    subst st3
    replace hI4 : Im G x (rd, NN, fl, pe, le, nx, il, qu, kn, ec, nu, va) Φ4 := hI4
    refine z_if_eq (tgt := 30) B dX12_fieldAt_23 rfl (fun c_4 => ?_) (fun h9 => absurd (by decide) h9)
    refine z_iload_n B dX12_fieldAt_30 rfl 2 rfl ?_
    refine z_i2l (v := b.toInt64) B dX12_fieldAt_31 rfl ?_
    refine z_lconst (v := 0) B dX12_fieldAt_32 rfl ?_
    refine z_aload_n B dX12_fieldAt_33 rfl 0 rfl ?_
    refine z_iload_n B dX12_fieldAt_34 rfl 1 rfl ?_
    obtain ⟨v_16, v_17, v_18, n_6, v_19, v_20, v_21, v_22, v_23, v_24, v_25, v_26, v_27, n_7, v_28, n_8, n_9, v_29, v_30, h_6, b_25, b_14, b_15, b_16, b_17, b_18, b_19, b_20, b_21, b_22, b_23, b_24⟩ := im0 hI4
    replace b_14 : 1 ≤ n_6 := b_14
    replace b_15 : n_6 ≤ 1024 := b_15
    replace b_16 : fl ≤ 12 := b_16
    replace b_17 : pe ≤ 24 := b_17
    replace b_18 : le ≤ 700 := b_18
    replace b_19 : qu ≤ 12 := b_19
    replace b_20 : n_7 ≤ 8 := b_20
    replace b_21 : n_8 ≤ 24 := b_21
    replace b_22 : n_9 ≤ 24 := b_22
    replace b_23 : il ≤ 700 := b_23
    replace b_24 : nx ≤ 701 := b_24
    have h_7 : Φ4 x = some (o_ 14 [.int v_16, .ref (x + 1), .ref (x + 2), .int v_17, .int v_18, .int (nI n_6), .int v_19, .int v_20, .ref (x + 3), .ref (x + 4), .int v_21, .long v_22, .ref (x + 5), .int (nI fl), .int v_23, .long v_24, .long v_25, .long v_26, .long v_27, .ref (x + 6), .ref (x + 7), .int (nI pe), .ref (x + 8), .int (nI le), .ref (x + 9), .ref (x + 10), .int (nI qu), .ref (x + 11), .ref (x + 12), .ref (x + 13), .ref (x + 14), .ref (x + 15), .ref (x + 16), .int (nI n_7), .long v_28, .ref (x + 17), .ref (x + 18), .ref (x + 19), .ref (x + 20), .ref (x + 21), .ref (x + 22), .int (nI n_8), .ref (x + 23), .ref (x + 24), .int (nI n_9), .ref (x + 25), .int (nI il), .int (nI nx), .int ec, .int v_29, .int kn, .int v_30, .int nu, .long va]) := h_6
    refine z_callV (As := [.int (nI n_5)]) (rest := [.long 0, .long b.toInt64]) B (r_sizeOf G l Φ4 sz x rd fl pe le nx il qu kn ec nu va n_5 hx hI4 (show n_5 < 4 by omega)) (cwV 1 B.1.2.2.2.2 gX12_fieldAt_X12_sizeOf rfl rfl rfl (by decide +kernel) ⟨Nat.le_of_ble_eq_true rfl, Nat.le_of_ble_eq_true rfl⟩) h_7 rfl rfl rfl rfl (Nat.le_of_ble_eq_true rfl) dX12_fieldAt_35 ⟨Nat.le_of_ble_eq_true rfl, Nat.le_of_ble_eq_true rfl⟩ (fun r_4 Φ5 sz4 st4 hp4 hs4 => ?_)
    obtain ⟨⟨n_10, rfl, b_26⟩, hq4, hI5, hF4⟩ := hp4
    subst sz4
    replace hs4 : st4 = [.int (nI n_10), .long 0, .long b.toInt64] := hs4
    subst st4
    replace b_26 : n_10 ≤ 9 := b_26
    replace hI5 : Im G x (rd, NN, fl, pe, le, nx, il, qu, kn, ec, nu, va) Φ5 := hI5
    refine z_iconst (v := 1) B dX12_fieldAt_38 rfl ?_
    refine z_isub B dX12_fieldAt_39 ?_
    refine z_i2l (v := (nI n_10 - 1).toInt64) B dX12_fieldAt_40 rfl ?_
    by_cases hR1 : inP b.toInt64 0 ((nI n_10 - 1).toInt64)
    · obtain ⟨n_11, e_1, e_2, e_3, rfl⟩ := in_get (L := 0) (H := ((n_10 : Nat) : Int) - 1) (by decide) (predL (by omega)) hR1
      refine z_callS (As := [.long ((nI n_11).toInt64), .long 0, .long ((nI n_10 - 1).toInt64)]) (rest := []) B (c_inR1 G l Φ5 sz ((nI n_11).toInt64) 0 ((nI n_10 - 1).toInt64) hR1 (fun v8 Φ8 sz8 => v8 = some (.int 1) ∧ sz8 = sz ∧ Im G x (rd, NN, fl, pe, le, nx, il, qu, kn, ec, nu, va) Φ8 ∧ Fr x (fun j9 => False) Φ5 Φ8) ⟨rfl, rfl, hI5, fun _ _ => rfl⟩) (va_cwS 3 B.1.2.2.2.2 gX12_fieldAt_X12_inRange rfl rfl rfl (by decide +kernel) ⟨Nat.le_of_ble_eq_true rfl, Nat.le_of_ble_eq_true rfl⟩) rfl rfl (Nat.le_of_ble_eq_true rfl) dX12_fieldAt_41 ⟨Nat.le_of_ble_eq_true rfl, Nat.le_of_ble_eq_true rfl⟩ (fun r_5 Φ6 sz5 st5 hp5 hs5 => ?_)
      obtain ⟨rfl, hq5, hI6, hF5⟩ := hp5
      subst sz5
      replace hs5 : st5 = [.int 1] := hs5
      subst st5
      refine z_if_eq (tgt := 56) B dX12_fieldAt_44 rfl (fun h9 => absurd h9 (by decide)) (fun c_5 => ?_)
      refine z_aload_n B dX12_fieldAt_47 rfl 0 rfl ?_
      refine z_iload_n B dX12_fieldAt_48 rfl 1 rfl ?_
      refine z_iload_n B dX12_fieldAt_49 rfl 2 rfl ?_
      have h_8 : Φ6 x = some (o_ 14 [.int v_16, .ref (x + 1), .ref (x + 2), .int v_17, .int v_18, .int (nI n_6), .int v_19, .int v_20, .ref (x + 3), .ref (x + 4), .int v_21, .long v_22, .ref (x + 5), .int (nI fl), .int v_23, .long v_24, .long v_25, .long v_26, .long v_27, .ref (x + 6), .ref (x + 7), .int (nI pe), .ref (x + 8), .int (nI le), .ref (x + 9), .ref (x + 10), .int (nI qu), .ref (x + 11), .ref (x + 12), .ref (x + 13), .ref (x + 14), .ref (x + 15), .ref (x + 16), .int (nI n_7), .long v_28, .ref (x + 17), .ref (x + 18), .ref (x + 19), .ref (x + 20), .ref (x + 21), .ref (x + 22), .int (nI n_8), .ref (x + 23), .ref (x + 24), .int (nI n_9), .ref (x + 25), .int (nI il), .int (nI nx), .int ec, .int v_29, .int kn, .int v_30, .int nu, .long va]) := ((hF5 x (fun j9 h8 h7 => (show False from h7).elim)).trans ((hF4 x (fun j9 h8 h7 => (show False from h7).elim)).trans h_7))
      refine z_callV (As := [.int (nI n_5), .int (nI n_11)]) (rest := []) B (r_fieldOf G l Φ6 sz x rd fl pe le nx il qu kn ec nu va n_5 n_11 hx hI6 (show n_5 < 4 by omega) (show n_11 < 9 by omega)) (cwV 2 B.1.2.2.2.2 gX12_fieldAt_X12_fieldOf rfl rfl rfl (by decide +kernel) ⟨Nat.le_of_ble_eq_true rfl, Nat.le_of_ble_eq_true rfl⟩) h_8 rfl rfl rfl rfl (Nat.le_of_ble_eq_true rfl) dX12_fieldAt_50 ⟨Nat.le_of_ble_eq_true rfl, Nat.le_of_ble_eq_true rfl⟩ (fun r_6 Φ7 sz6 st6 hp6 hs6 => ?_)
      obtain ⟨⟨n_12, rfl, b_27⟩, hq6, hI7, hF6⟩ := hp6
      subst sz6
      replace hs6 : st6 = [.int (nI n_12)] := hs6
      subst st6
      replace b_27 : n_12 ≤ 8 := b_27
      replace hI7 : Im G x (rd, NN, fl, pe, le, nx, il, qu, kn, ec, nu, va) Φ7 := hI7
      refine z_goto (tgt := 57) B dX12_fieldAt_53 rfl ?_
      exact z_ret_i B dX12_fieldAt_57 ⟨⟨_, rfl⟩, rfl, hI7, (fun b9 h9 => ((hF6 b9 (fun j9 h8 h7 => (show False from h7).elim)).trans ((hF5 b9 (fun j9 h8 h7 => (show False from h7).elim)).trans ((hF4 b9 (fun j9 h8 h7 => (show False from h7).elim)).trans ((hF3 b9 (fun j9 h8 h7 => h9 j9 h8 (show j9 = 0 by have h6 : j9 = 0 := h7; omega))).trans ((hF1 b9 (fun j9 h8 h7 => (show False from h7).elim)).trans ((fset_fr hΦ1 (fun h8 => h9 (0) h8 (show 0 = 0 by omega))).trans rfl)))))))⟩
    · refine z_callS (As := [.long b.toInt64, .long 0, .long ((nI n_10 - 1).toInt64)]) (rest := []) B (c_inR0 G l Φ5 sz b.toInt64 0 ((nI n_10 - 1).toInt64) hR1 (fun v8 Φ8 sz8 => v8 = some (.int 0) ∧ sz8 = sz ∧ Im G x (rd, NN, fl, pe, le, nx, il, qu, kn, ec, nu, va) Φ8 ∧ Fr x (fun j9 => False) Φ5 Φ8) ⟨rfl, rfl, hI5, fun _ _ => rfl⟩) (va_cwS 3 B.1.2.2.2.2 gX12_fieldAt_X12_inRange rfl rfl rfl (by decide +kernel) ⟨Nat.le_of_ble_eq_true rfl, Nat.le_of_ble_eq_true rfl⟩) rfl rfl (Nat.le_of_ble_eq_true rfl) dX12_fieldAt_41 ⟨Nat.le_of_ble_eq_true rfl, Nat.le_of_ble_eq_true rfl⟩ (fun r_7 Φ8 sz7 st7 hp7 hs7 => ?_)
      obtain ⟨rfl, hq7, hI8, hF7⟩ := hp7
      subst sz7
      replace hs7 : st7 = [.int 0] := hs7
      subst st7
      refine z_if_eq (tgt := 56) B dX12_fieldAt_44 rfl (fun c_6 => ?_) (fun h9 => absurd (by decide) h9)
      refine z_iconst (v := (-1)) B dX12_fieldAt_56 rfl ?_
      exact z_ret_i B dX12_fieldAt_57 ⟨⟨_, rfl⟩, rfl, hI8, (fun b9 h9 => ((hF7 b9 (fun j9 h8 h7 => (show False from h7).elim)).trans ((hF4 b9 (fun j9 h8 h7 => (show False from h7).elim)).trans ((hF3 b9 (fun j9 h8 h7 => h9 j9 h8 (show j9 = 0 by have h6 : j9 = 0 := h7; omega))).trans ((hF1 b9 (fun j9 h8 h7 => (show False from h7).elim)).trans ((fset_fr hΦ1 (fun h8 => h9 (0) h8 (show 0 = 0 by omega))).trans rfl))))))⟩

set_option maxHeartbeats 4000000 in
set_option maxRecDepth 100000 in
theorem r_recordLength (G : EnvG) (l : Launch) (Φ : Hm) (sz x : Nat) (rd : (Nat → Int32) → Prop) (fl : Nat) (pe : Nat) (le : Nat) (nx : Nat) (il : Nat) (qu : Nat) (kn : Int32) (ec : Int32) (nu : Int32) (va : Int64) (a : Int32) (hx : G.2.2.2 ≤ x) (hI : Im G x (rd, NN, fl, pe, le, nx, il, qu, kn, ec, nu, va) Φ)  : Ct G l yX12_recordLength wsX12_recordLength ({ frames := 4, cells := 0, slots := 0, locals := 89 }) 0 0 [.ref x, .int a] Φ sz (fun v Φ1 sz1 => (∃ r9 : Int32, v = some (.int r9)) ∧ sz1 = sz ∧ (Im G x (rd, NN, fl, pe, le, nx, il, qu, kn, ec, nu, va) Φ1) ∧ Fr x (fun j9 => j9 = 0) Φ Φ1) := by
  refine Ct.of (cc := cX12_recordLength) (maxL := 2) (ret := (some .int)) (by decide) rfl (Nat.le_of_ble_eq_true rfl) ?_
  intro p9 e9 s9 m9 w9 t9 k9 B
  show Z p9 l e9 _ s9 m9 _ w9 t9 k9 _ G 2 0 [(0, .ref x), (1, .int a)] [] Φ sz 0 0
  refine z_aload_n B dX12_recordLength_0 rfl 0 rfl ?_
  refine z_iconst (v := 0) B dX12_recordLength_1 rfl ?_
  obtain ⟨v_1, v_2, v_3, n_1, v_4, v_5, v_6, v_7, v_8, v_9, v_10, v_11, v_12, n_2, v_13, n_3, n_4, v_14, v_15, h_1, b_12, b_1, b_2, b_3, b_4, b_5, b_6, b_7, b_8, b_9, b_10, b_11⟩ := im0 hI
  replace b_1 : 1 ≤ n_1 := b_1
  replace b_2 : n_1 ≤ 1024 := b_2
  replace b_3 : fl ≤ 12 := b_3
  replace b_4 : pe ≤ 24 := b_4
  replace b_5 : le ≤ 700 := b_5
  replace b_6 : qu ≤ 12 := b_6
  replace b_7 : n_2 ≤ 8 := b_7
  replace b_8 : n_3 ≤ 24 := b_8
  replace b_9 : n_4 ≤ 24 := b_9
  replace b_10 : il ≤ 700 := b_10
  replace b_11 : nx ≤ 701 := b_11
  have h_2 : Φ x = some (o_ 14 [.int v_1, .ref (x + 1), .ref (x + 2), .int v_2, .int v_3, .int (nI n_1), .int v_4, .int v_5, .ref (x + 3), .ref (x + 4), .int v_6, .long v_7, .ref (x + 5), .int (nI fl), .int v_8, .long v_9, .long v_10, .long v_11, .long v_12, .ref (x + 6), .ref (x + 7), .int (nI pe), .ref (x + 8), .int (nI le), .ref (x + 9), .ref (x + 10), .int (nI qu), .ref (x + 11), .ref (x + 12), .ref (x + 13), .ref (x + 14), .ref (x + 15), .ref (x + 16), .int (nI n_2), .long v_13, .ref (x + 17), .ref (x + 18), .ref (x + 19), .ref (x + 20), .ref (x + 21), .ref (x + 22), .int (nI n_3), .ref (x + 23), .ref (x + 24), .int (nI n_4), .ref (x + 25), .int (nI il), .int (nI nx), .int ec, .int v_14, .int kn, .int v_15, .int nu, .long va]) := h_1
  refine z_put (ref := "FlowExporterModel") (C := RX12) (T := TX12) (N := 54) (ci := 14) (v := .int 0) B (by decide +kernel) tyX12 tyX12_ok nmX12 rfl 0 (by decide) (by decide +kernel) rfl (Or.inl rfl) h_2 hx rfl rfl (Nat.le_of_ble_eq_true rfl) dX12_recordLength_2 (fun Φ1 hΦ1 => ?_)
  have h_3 : Φ1 x = some (o_ 14 [.int 0, .ref (x + 1), .ref (x + 2), .int v_2, .int v_3, .int (nI n_1), .int v_4, .int v_5, .ref (x + 3), .ref (x + 4), .int v_6, .long v_7, .ref (x + 5), .int (nI fl), .int v_8, .long v_9, .long v_10, .long v_11, .long v_12, .ref (x + 6), .ref (x + 7), .int (nI pe), .ref (x + 8), .int (nI le), .ref (x + 9), .ref (x + 10), .int (nI qu), .ref (x + 11), .ref (x + 12), .ref (x + 13), .ref (x + 14), .ref (x + 15), .ref (x + 16), .int (nI n_2), .long v_13, .ref (x + 17), .ref (x + 18), .ref (x + 19), .ref (x + 20), .ref (x + 21), .ref (x + 22), .int (nI n_3), .ref (x + 23), .ref (x + 24), .int (nI n_4), .ref (x + 25), .int (nI il), .int (nI nx), .int ec, .int v_14, .int kn, .int v_15, .int nu, .long va]) := fset_at hΦ1
  have hI1 : Im G x (rd, NN, fl, pe, le, nx, il, qu, kn, ec, nu, va) Φ1 := Im.put0 hI hΦ1 ⟨0, v_2, v_3, n_1, v_4, v_5, v_6, v_7, v_8, v_9, v_10, v_11, v_12, n_2, v_13, n_3, n_4, v_14, v_15, rfl, b_12, (show 1 ≤ n_1 by omega), (show n_1 ≤ 1024 by omega), (show fl ≤ 12 by omega), (show pe ≤ 24 by omega), (show le ≤ 700 by omega), (show qu ≤ 12 by omega), (show n_2 ≤ 8 by omega), (show n_3 ≤ 24 by omega), (show n_4 ≤ 24 by omega), (show il ≤ 700 by omega), (show nx ≤ 701 by omega)⟩
  refine z_aload_n B dX12_recordLength_5 rfl 0 rfl ?_
  refine z_aload_n B dX12_recordLength_6 rfl 0 rfl ?_
  refine z_iload_n B dX12_recordLength_7 rfl 1 rfl ?_
  refine z_callV (As := [.int a]) (rest := [.ref x]) B (r_isTemplate G l Φ1 sz x rd fl pe le nx il qu kn ec nu va a hx hI1 ) (cwV 1 B.1.2.2.2.2 gX12_recordLength_X12_isTemplate rfl rfl rfl (by decide +kernel) ⟨Nat.le_of_ble_eq_true rfl, Nat.le_of_ble_eq_true rfl⟩) h_3 rfl rfl rfl rfl (Nat.le_of_ble_eq_true rfl) dX12_recordLength_8 ⟨Nat.le_of_ble_eq_true rfl, Nat.le_of_ble_eq_true rfl⟩ (fun r_1 Φ2 sz1 st1 hp1 hs1 => ?_)
  obtain ⟨ha1, hq1, hI2, hF1⟩ := hp1
  subst sz1
  replace hI2 : Im G x (rd, NN, fl, pe, le, nx, il, qu, kn, ec, nu, va) Φ2 := hI2
  rcases ha1 with rfl | ⟨rfl, n_5, b_13, rfl⟩
  · replace hs1 : st1 = [.int 0, .ref x] := hs1
    subst st1
    refine z_if_ne (tgt := 18) B dX12_recordLength_11 rfl (fun h9 => absurd (by decide) h9) (fun c_1 => ?_)
    refine z_iconst (v := 1) B dX12_recordLength_14 rfl ?_
    refine z_goto (tgt := 19) B dX12_recordLength_15 rfl ?_
    refine z_iconst (v := 1) B dX12_recordLength_19 rfl ?_
    have h_4 : Φ2 x = some (o_ 14 [.int 0, .ref (x + 1), .ref (x + 2), .int v_2, .int v_3, .int (nI n_1), .int v_4, .int v_5, .ref (x + 3), .ref (x + 4), .int v_6, .long v_7, .ref (x + 5), .int (nI fl), .int v_8, .long v_9, .long v_10, .long v_11, .long v_12, .ref (x + 6), .ref (x + 7), .int (nI pe), .ref (x + 8), .int (nI le), .ref (x + 9), .ref (x + 10), .int (nI qu), .ref (x + 11), .ref (x + 12), .ref (x + 13), .ref (x + 14), .ref (x + 15), .ref (x + 16), .int (nI n_2), .long v_13, .ref (x + 17), .ref (x + 18), .ref (x + 19), .ref (x + 20), .ref (x + 21), .ref (x + 22), .int (nI n_3), .ref (x + 23), .ref (x + 24), .int (nI n_4), .ref (x + 25), .int (nI il), .int (nI nx), .int ec, .int v_14, .int kn, .int v_15, .int nu, .long va]) := ((hF1 x (fun j9 h8 h7 => (show False from h7).elim)).trans h_3)
    refine z_callV (As := [.int 1, .int 1]) (rest := []) B (r_throwsIf G l Φ2 sz x rd fl pe le nx il qu kn ec nu va 1 1 hx hI2 (by decide)) (cwV 2 B.1.2.2.2.2 gX12_recordLength_X12_throwsIf rfl rfl rfl (by decide +kernel) ⟨Nat.le_of_ble_eq_true rfl, Nat.le_of_ble_eq_true rfl⟩) h_4 rfl rfl rfl rfl (Nat.le_of_ble_eq_true rfl) dX12_recordLength_20 ⟨Nat.le_of_ble_eq_true rfl, Nat.le_of_ble_eq_true rfl⟩ (fun r_2 Φ3 sz2 st2 hp2 hs2 => ?_)
    obtain ⟨rfl, hq2, hI3, hF2⟩ := hp2
    subst sz2
    replace hs2 : st2 = [.int 1] := hs2
    subst st2
    replace hI3 : Im G x (rd, NN, fl, pe, le, nx, il, qu, kn, ec, nu, va) Φ3 := hI3
    refine z_if_eq (tgt := 30) B dX12_recordLength_23 rfl (fun h9 => absurd h9 (by decide)) (fun c_2 => ?_)
    refine z_iconst (v := 0) B dX12_recordLength_26 rfl ?_
    refine z_goto (tgt := 35) B dX12_recordLength_27 rfl ?_
    exact z_ret_i B dX12_recordLength_35 ⟨⟨_, rfl⟩, rfl, hI3, (fun b9 h9 => ((hF2 b9 (fun j9 h8 h7 => h9 j9 h8 (show j9 = 0 by have h6 : j9 = 0 := h7; omega))).trans ((hF1 b9 (fun j9 h8 h7 => (show False from h7).elim)).trans ((fset_fr hΦ1 (fun h8 => h9 (0) h8 (show 0 = 0 by omega))).trans rfl))))⟩
  · replace hs1 : st1 = [.int 1, .ref x] := hs1
    subst st1
    replace b_13 : n_5 < 4 := b_13
    refine z_if_ne (tgt := 18) B dX12_recordLength_11 rfl (fun c_3 => ?_) (fun h9 => absurd h9 (by decide))
    refine z_iconst (v := 0) B dX12_recordLength_18 rfl ?_
    refine z_iconst (v := 1) B dX12_recordLength_19 rfl ?_
    have h_5 : Φ2 x = some (o_ 14 [.int 0, .ref (x + 1), .ref (x + 2), .int v_2, .int v_3, .int (nI n_1), .int v_4, .int v_5, .ref (x + 3), .ref (x + 4), .int v_6, .long v_7, .ref (x + 5), .int (nI fl), .int v_8, .long v_9, .long v_10, .long v_11, .long v_12, .ref (x + 6), .ref (x + 7), .int (nI pe), .ref (x + 8), .int (nI le), .ref (x + 9), .ref (x + 10), .int (nI qu), .ref (x + 11), .ref (x + 12), .ref (x + 13), .ref (x + 14), .ref (x + 15), .ref (x + 16), .int (nI n_2), .long v_13, .ref (x + 17), .ref (x + 18), .ref (x + 19), .ref (x + 20), .ref (x + 21), .ref (x + 22), .int (nI n_3), .ref (x + 23), .ref (x + 24), .int (nI n_4), .ref (x + 25), .int (nI il), .int (nI nx), .int ec, .int v_14, .int kn, .int v_15, .int nu, .long va]) := ((hF1 x (fun j9 h8 h7 => (show False from h7).elim)).trans h_3)
    refine z_callV (As := [.int 0, .int 1]) (rest := []) B (r_throwsIf G l Φ2 sz x rd fl pe le nx il qu kn ec nu va 0 1 hx hI2 (by decide)) (cwV 2 B.1.2.2.2.2 gX12_recordLength_X12_throwsIf rfl rfl rfl (by decide +kernel) ⟨Nat.le_of_ble_eq_true rfl, Nat.le_of_ble_eq_true rfl⟩) h_5 rfl rfl rfl rfl (Nat.le_of_ble_eq_true rfl) dX12_recordLength_20 ⟨Nat.le_of_ble_eq_true rfl, Nat.le_of_ble_eq_true rfl⟩ (fun r_3 Φ4 sz3 st3 hp3 hs3 => ?_)
    obtain ⟨rfl, hq3, hI4, hF3⟩ := hp3
    subst sz3
    replace hs3 : st3 = [.int 0] := hs3
    subst st3
    replace hI4 : Im G x (rd, NN, fl, pe, le, nx, il, qu, kn, ec, nu, va) Φ4 := hI4
    refine z_if_eq (tgt := 30) B dX12_recordLength_23 rfl (fun c_4 => ?_) (fun h9 => absurd (by decide) h9)
    refine z_aload_n B dX12_recordLength_30 rfl 0 rfl ?_
    refine z_iload_n B dX12_recordLength_31 rfl 1 rfl ?_
    obtain ⟨v_16, v_17, v_18, n_6, v_19, v_20, v_21, v_22, v_23, v_24, v_25, v_26, v_27, n_7, v_28, n_8, n_9, v_29, v_30, h_6, b_25, b_14, b_15, b_16, b_17, b_18, b_19, b_20, b_21, b_22, b_23, b_24⟩ := im0 hI4
    replace b_14 : 1 ≤ n_6 := b_14
    replace b_15 : n_6 ≤ 1024 := b_15
    replace b_16 : fl ≤ 12 := b_16
    replace b_17 : pe ≤ 24 := b_17
    replace b_18 : le ≤ 700 := b_18
    replace b_19 : qu ≤ 12 := b_19
    replace b_20 : n_7 ≤ 8 := b_20
    replace b_21 : n_8 ≤ 24 := b_21
    replace b_22 : n_9 ≤ 24 := b_22
    replace b_23 : il ≤ 700 := b_23
    replace b_24 : nx ≤ 701 := b_24
    have h_7 : Φ4 x = some (o_ 14 [.int v_16, .ref (x + 1), .ref (x + 2), .int v_17, .int v_18, .int (nI n_6), .int v_19, .int v_20, .ref (x + 3), .ref (x + 4), .int v_21, .long v_22, .ref (x + 5), .int (nI fl), .int v_23, .long v_24, .long v_25, .long v_26, .long v_27, .ref (x + 6), .ref (x + 7), .int (nI pe), .ref (x + 8), .int (nI le), .ref (x + 9), .ref (x + 10), .int (nI qu), .ref (x + 11), .ref (x + 12), .ref (x + 13), .ref (x + 14), .ref (x + 15), .ref (x + 16), .int (nI n_7), .long v_28, .ref (x + 17), .ref (x + 18), .ref (x + 19), .ref (x + 20), .ref (x + 21), .ref (x + 22), .int (nI n_8), .ref (x + 23), .ref (x + 24), .int (nI n_9), .ref (x + 25), .int (nI il), .int (nI nx), .int ec, .int v_29, .int kn, .int v_30, .int nu, .long va]) := h_6
    refine z_callV (As := [.int (nI n_5)]) (rest := []) B (r_recordLengthOf G l Φ4 sz x rd fl pe le nx il qu kn ec nu va n_5 hx hI4 (show n_5 < 4 by omega)) (cwV 1 B.1.2.2.2.2 gX12_recordLength_X12_recordLengthOf rfl rfl rfl (by decide +kernel) ⟨Nat.le_of_ble_eq_true rfl, Nat.le_of_ble_eq_true rfl⟩) h_7 rfl rfl rfl rfl (Nat.le_of_ble_eq_true rfl) dX12_recordLength_32 ⟨Nat.le_of_ble_eq_true rfl, Nat.le_of_ble_eq_true rfl⟩ (fun r_4 Φ5 sz4 st4 hp4 hs4 => ?_)
    obtain ⟨⟨n_10, rfl, b_26⟩, hq4, hI5, hF4⟩ := hp4
    subst sz4
    replace hs4 : st4 = [.int (nI n_10)] := hs4
    subst st4
    replace b_26 : n_10 ≤ 29 := b_26
    replace hI5 : Im G x (rd, NN, fl, pe, le, nx, il, qu, kn, ec, nu, va) Φ5 := hI5
    exact z_ret_i B dX12_recordLength_35 ⟨⟨_, rfl⟩, rfl, hI5, (fun b9 h9 => ((hF4 b9 (fun j9 h8 h7 => (show False from h7).elim)).trans ((hF3 b9 (fun j9 h8 h7 => h9 j9 h8 (show j9 = 0 by have h6 : j9 = 0 := h7; omega))).trans ((hF1 b9 (fun j9 h8 h7 => (show False from h7).elim)).trans ((fset_fr hΦ1 (fun h8 => h9 (0) h8 (show 0 = 0 by omega))).trans rfl)))))⟩

set_option maxHeartbeats 4000000 in
set_option maxRecDepth 100000 in
theorem r_due (G : EnvG) (l : Launch) (Φ : Hm) (sz x : Nat) (rd : (Nat → Int32) → Prop) (fl : Nat) (pe : Nat) (le : Nat) (nx : Nat) (il : Nat) (qu : Nat) (kn : Int32) (ec : Int32) (nu : Int32) (va : Int64) (t : Nat) (hx : G.2.2.2 ≤ x) (hI : Im G x (rd, NN, fl, pe, le, nx, il, qu, kn, ec, nu, va) Φ) (ht : t < 4) : Ct G l yX12_due wsX12_due ({ frames := 3, cells := 0, slots := 0, locals := 66 }) 0 0 [.ref x, .int (nI t)] Φ sz (fun v Φ1 sz1 => (∃ r9 : Int32, v = some (.int r9) ∧ (r9 = 0 ∨ r9 = 1)) ∧ sz1 = sz ∧ (Im G x (rd, NN, fl, pe, le, nx, il, qu, kn, ec, nu, va) Φ1) ∧ Fr x (fun j9 => False) Φ Φ1) := by
  refine Ct.of (cc := cX12_due) (maxL := 2) (ret := (some .boolean)) (by decide) rfl (Nat.le_of_ble_eq_true rfl) ?_
  intro p9 e9 s9 m9 w9 t9 k9 B
  show Z p9 l e9 _ s9 m9 _ w9 t9 k9 _ G 2 0 [(0, .ref x), (1, .int (nI t))] [] Φ sz 0 0
  refine z_aload_n B dX12_due_0 rfl 0 rfl ?_
  refine z_iload_n B dX12_due_1 rfl 1 rfl ?_
  obtain ⟨v_1, v_2, v_3, n_1, v_4, v_5, v_6, v_7, v_8, v_9, v_10, v_11, v_12, n_2, v_13, n_3, n_4, v_14, v_15, h_1, b_12, b_1, b_2, b_3, b_4, b_5, b_6, b_7, b_8, b_9, b_10, b_11⟩ := im0 hI
  replace b_1 : 1 ≤ n_1 := b_1
  replace b_2 : n_1 ≤ 1024 := b_2
  replace b_3 : fl ≤ 12 := b_3
  replace b_4 : pe ≤ 24 := b_4
  replace b_5 : le ≤ 700 := b_5
  replace b_6 : qu ≤ 12 := b_6
  replace b_7 : n_2 ≤ 8 := b_7
  replace b_8 : n_3 ≤ 24 := b_8
  replace b_9 : n_4 ≤ 24 := b_9
  replace b_10 : il ≤ 700 := b_10
  replace b_11 : nx ≤ 701 := b_11
  have h_2 : Φ x = some (o_ 14 [.int v_1, .ref (x + 1), .ref (x + 2), .int v_2, .int v_3, .int (nI n_1), .int v_4, .int v_5, .ref (x + 3), .ref (x + 4), .int v_6, .long v_7, .ref (x + 5), .int (nI fl), .int v_8, .long v_9, .long v_10, .long v_11, .long v_12, .ref (x + 6), .ref (x + 7), .int (nI pe), .ref (x + 8), .int (nI le), .ref (x + 9), .ref (x + 10), .int (nI qu), .ref (x + 11), .ref (x + 12), .ref (x + 13), .ref (x + 14), .ref (x + 15), .ref (x + 16), .int (nI n_2), .long v_13, .ref (x + 17), .ref (x + 18), .ref (x + 19), .ref (x + 20), .ref (x + 21), .ref (x + 22), .int (nI n_3), .ref (x + 23), .ref (x + 24), .int (nI n_4), .ref (x + 25), .int (nI il), .int (nI nx), .int ec, .int v_14, .int kn, .int v_15, .int nu, .long va]) := h_1
  refine z_callV (As := [.int (nI t)]) (rest := []) B (r_effective G l Φ sz x rd fl pe le nx il qu kn ec nu va t hx hI (show t < 4 by omega)) (cwV 1 B.1.2.2.2.2 gX12_due_X12_effective rfl rfl rfl (by decide +kernel) ⟨Nat.le_of_ble_eq_true rfl, Nat.le_of_ble_eq_true rfl⟩) h_2 rfl rfl rfl rfl (Nat.le_of_ble_eq_true rfl) dX12_due_2 ⟨Nat.le_of_ble_eq_true rfl, Nat.le_of_ble_eq_true rfl⟩ (fun r_1 Φ1 sz1 st1 hp1 hs1 => ?_)
  obtain ⟨⟨v_16, rfl⟩, hq1, hI1, hF1⟩ := hp1
  subst sz1
  replace hs1 : st1 = [.int v_16] := hs1
  subst st1
  replace hI1 : Im G x (rd, NN, fl, pe, le, nx, il, qu, kn, ec, nu, va) Φ1 := hI1
  refine z_if_ne (tgt := 10) B dX12_due_5 rfl (fun c_1 => ?_) (fun c_1 => ?_)
  · refine z_aload_n B dX12_due_10 rfl 0 rfl ?_
    have h_3 : Φ1 x = some (o_ 14 [.int v_1, .ref (x + 1), .ref (x + 2), .int v_2, .int v_3, .int (nI n_1), .int v_4, .int v_5, .ref (x + 3), .ref (x + 4), .int v_6, .long v_7, .ref (x + 5), .int (nI fl), .int v_8, .long v_9, .long v_10, .long v_11, .long v_12, .ref (x + 6), .ref (x + 7), .int (nI pe), .ref (x + 8), .int (nI le), .ref (x + 9), .ref (x + 10), .int (nI qu), .ref (x + 11), .ref (x + 12), .ref (x + 13), .ref (x + 14), .ref (x + 15), .ref (x + 16), .int (nI n_2), .long v_13, .ref (x + 17), .ref (x + 18), .ref (x + 19), .ref (x + 20), .ref (x + 21), .ref (x + 22), .int (nI n_3), .ref (x + 23), .ref (x + 24), .int (nI n_4), .ref (x + 25), .int (nI il), .int (nI nx), .int ec, .int v_14, .int kn, .int v_15, .int nu, .long va]) := ((hF1 x (fun j9 h8 h7 => (show False from h7).elim)).trans h_2)
    refine z_get (ref := "FlowExporterModel") (C := RX12) (T := TX12) (N := 54) (ci := 14) (v := .ref (x + 3)) B (by decide +kernel) rfl 8 (by decide) (by decide +kernel) rfl h_3 rfl dX12_due_11 ?_
    refine z_iload_n B dX12_due_14 rfl 1 rfl ?_
    obtain ⟨f_1, h_4⟩ := imk (k := 3) hI1
    have h_5 : Φ1 (x + 3) = some (ai_ G 4 f_1) := h_4
    refine z_iald B h_5 (vp_in_nI (by omega) (by omega)) dX12_due_15 ?_
    refine z_fi (fun v_17 => ?_)
    refine z_iconst (v := (-1)) B dX12_due_16 rfl ?_
    refine z_icmp_eq (tgt := 62) B dX12_due_17 rfl (fun c_2 => ?_) (fun c_2 => ?_)
    · refine z_iconst (v := 1) B dX12_due_62 rfl ?_
      refine z_goto (tgt := 67) B dX12_due_63 rfl ?_
      exact z_ret_z B dX12_due_67 (by decide) ⟨⟨_, rfl, by decide⟩, rfl, hI1, (fun b9 h9 => ((hF1 b9 (fun j9 h8 h7 => (show False from h7).elim)).trans rfl))⟩
    · refine z_aload_n B dX12_due_20 rfl 0 rfl ?_
      refine z_get (ref := "FlowExporterModel") (C := RX12) (T := TX12) (N := 54) (ci := 14) (v := .int v_6) B (by decide +kernel) rfl 10 (by decide) (by decide +kernel) rfl h_3 rfl dX12_due_21 ?_
      refine z_aload_n B dX12_due_24 rfl 0 rfl ?_
      refine z_get (ref := "FlowExporterModel") (C := RX12) (T := TX12) (N := 54) (ci := 14) (v := .ref (x + 3)) B (by decide +kernel) rfl 8 (by decide) (by decide +kernel) rfl h_3 rfl dX12_due_25 ?_
      refine z_iload_n B dX12_due_28 rfl 1 rfl ?_
      refine z_iald B h_5 (vp_in_nI (by omega) (by omega)) dX12_due_29 ?_
      refine z_fi (fun v_18 => ?_)
      refine z_isub B dX12_due_30 ?_
      refine z_fi (fun v_19 => ?_)
      refine z_iconst (v := 1) B dX12_due_31 rfl ?_
      refine z_isub B dX12_due_32 ?_
      refine z_fi (fun v_20 => ?_)
      refine z_aload_n B dX12_due_33 rfl 0 rfl ?_
      refine z_get (ref := "FlowExporterModel") (C := RX12) (T := TX12) (N := 54) (ci := 14) (v := .ref (x + 2)) B (by decide +kernel) rfl 2 (by decide) (by decide +kernel) rfl h_3 rfl dX12_due_34 ?_
      refine z_iconst (v := 4) B dX12_due_37 rfl ?_
      obtain ⟨f_2, h_6, r_3⟩ := imk (k := 2) hI1
      replace r_3 : NN f_2 := r_3
      have h_7 : Φ1 (x + 2) = some (ai_ G 307 f_2) := h_6
      refine z_iald B h_7 (vin rfl) dX12_due_38 ?_
      refine z_fi (fun v_21 => ?_)
      refine z_icmp_ge (tgt := 62) B dX12_due_39 rfl (fun c_3 => ?_) (fun c_3 => ?_)
      · refine z_iconst (v := 1) B dX12_due_62 rfl ?_
        refine z_goto (tgt := 67) B dX12_due_63 rfl ?_
        exact z_ret_z B dX12_due_67 (by decide) ⟨⟨_, rfl, by decide⟩, rfl, hI1, (fun b9 h9 => ((hF1 b9 (fun j9 h8 h7 => (show False from h7).elim)).trans rfl))⟩
      · refine z_aload_n B dX12_due_42 rfl 0 rfl ?_
        refine z_get (ref := "FlowExporterModel") (C := RX12) (T := TX12) (N := 54) (ci := 14) (v := .int v_2) B (by decide +kernel) rfl 3 (by decide) (by decide +kernel) rfl h_3 rfl dX12_due_43 ?_
        refine z_aload_n B dX12_due_46 rfl 0 rfl ?_
        refine z_get (ref := "FlowExporterModel") (C := RX12) (T := TX12) (N := 54) (ci := 14) (v := .ref (x + 4)) B (by decide +kernel) rfl 9 (by decide) (by decide +kernel) rfl h_3 rfl dX12_due_47 ?_
        refine z_iload_n B dX12_due_50 rfl 1 rfl ?_
        obtain ⟨f_3, h_8⟩ := imk (k := 4) hI1
        have h_9 : Φ1 (x + 4) = some (ai_ G 4 f_3) := h_8
        refine z_iald B h_9 (vp_in_nI (by omega) (by omega)) dX12_due_51 ?_
        refine z_fi (fun v_22 => ?_)
        refine z_isub B dX12_due_52 ?_
        refine z_fi (fun v_23 => ?_)
        refine z_aload_n B dX12_due_53 rfl 0 rfl ?_
        refine z_get (ref := "FlowExporterModel") (C := RX12) (T := TX12) (N := 54) (ci := 14) (v := .ref (x + 2)) B (by decide +kernel) rfl 2 (by decide) (by decide +kernel) rfl h_3 rfl dX12_due_54 ?_
        refine z_iconst (v := 5) B dX12_due_57 rfl ?_
        refine z_iald B h_7 (vin rfl) dX12_due_58 ?_
        refine z_fi (fun v_24 => ?_)
        refine z_icmp_lt (tgt := 66) B dX12_due_59 rfl (fun c_4 => ?_) (fun c_4 => ?_)
        · refine z_iconst (v := 0) B dX12_due_66 rfl ?_
          exact z_ret_z B dX12_due_67 (by decide) ⟨⟨_, rfl, by decide⟩, rfl, hI1, (fun b9 h9 => ((hF1 b9 (fun j9 h8 h7 => (show False from h7).elim)).trans rfl))⟩
        · refine z_iconst (v := 1) B dX12_due_62 rfl ?_
          refine z_goto (tgt := 67) B dX12_due_63 rfl ?_
          exact z_ret_z B dX12_due_67 (by decide) ⟨⟨_, rfl, by decide⟩, rfl, hI1, (fun b9 h9 => ((hF1 b9 (fun j9 h8 h7 => (show False from h7).elim)).trans rfl))⟩
  · refine z_iconst (v := 0) B dX12_due_8 rfl ?_
    exact z_ret_z B dX12_due_9 (by decide) ⟨⟨_, rfl, by decide⟩, rfl, hI1, (fun b9 h9 => ((hF1 b9 (fun j9 h8 h7 => (show False from h7).elim)).trans rfl))⟩

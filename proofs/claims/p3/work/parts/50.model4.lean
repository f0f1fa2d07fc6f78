set_option maxHeartbeats 4000000 in
set_option maxRecDepth 100000 in
theorem r_sizeOfE (G : EnvG) (l : Launch) (Φ : Hm) (sz x : Nat) (rd : (Nat → Int32) → Prop) (fl : Nat) (pe : Nat) (le : Nat) (nx : Nat) (il : Nat) (qu : Nat) (kn : Int32) (ec : Int32) (nu : Int32) (va : Int64) (fN : Nat → Int32) (t : Nat) (hx : G.2.2.2 ≤ x) (hI : Im G x (rd, NN, fl, pe, le, nx, il, qu, kn, ec, nu, va) Φ) (hc0 : Φ (x + 2) = some (ai_ G 307 fN)) (hN : NN fN) (ht : t < 4) : Ct G l yX12_sizeOf wsX12_sizeOf ({ frames := 0, cells := 0, slots := 0, locals := 0 }) 0 0 [.ref x, .int (nI t)] Φ sz (fun v Φ1 sz1 => (∃ n9 : Nat, v = some (.int (nI n9)) ∧ n9 ≤ 9 ∧ fN (11 + t) = nI n9 ∧ lsm fN (15 + 9 * t) n9 ≤ 29) ∧ sz1 = sz ∧ (Im G x (rd, NN, fl, pe, le, nx, il, qu, kn, ec, nu, va) Φ1) ∧ Fr x (fun j9 => False) Φ Φ1) := by
  refine Ct.of (cc := cX12_sizeOf) (maxL := 2) (ret := (some .int)) (by decide) rfl (Nat.le_of_ble_eq_true rfl) ?_
  intro p9 e9 s9 m9 w9 t9 k9 B
  show Z p9 l e9 _ s9 m9 _ w9 t9 k9 _ G 2 0 [(0, .ref x), (1, .int (nI t))] [] Φ sz 0 0
  refine z_aload_n B dX12_sizeOf_0 rfl 0 rfl ?_
  obtain ⟨v_1, v_2, v_3, n_1, v_4, v_5, v_6, v_7, v_8, v_9, v_10, v_11, v_12, n_2, v_13, n_3, n_4, v_14, v_15, h_1, b_12, b_1, b_2, b_3, b_4, b_5, b_6, b_7, b_8, b_9, b_10, b_11⟩ := im0 hI
  replace b_1 : 1 ≤ n_1 := b_1
  replace b_2 : n_1 ≤ 1024 := b_2
  replace b_3 : fl ≤ 12 := b_3
  replace b_4 : pe ≤ 24 := b_4
  replace b_5 : le ≤ 700 := b_5
  replace b_6 : qu ≤ 12 := b_6
  replace b_7 : n_2 ≤ 8 := b_7
  replace b_8 : n_3 ≤ 24 := b_8
  replace b_9 : n_4 ≤ 24 := b_9
  replace b_10 : il ≤ 700 := b_10
  replace b_11 : nx ≤ 701 := b_11
  have h_2 : Φ x = some (o_ 14 [.int v_1, .ref (x + 1), .ref (x + 2), .int v_2, .int v_3, .int (nI n_1), .int v_4, .int v_5, .ref (x + 3), .ref (x + 4), .int v_6, .long v_7, .ref (x + 5), .int (nI fl), .int v_8, .long v_9, .long v_10, .long v_11, .long v_12, .ref (x + 6), .ref (x + 7), .int (nI pe), .ref (x + 8), .int (nI le), .ref (x + 9), .ref (x + 10), .int (nI qu), .ref (x + 11), .ref (x + 12), .ref (x + 13), .ref (x + 14), .ref (x + 15), .ref (x + 16), .int (nI n_2), .long v_13, .ref (x + 17), .ref (x + 18), .ref (x + 19), .ref (x + 20), .ref (x + 21), .ref (x + 22), .int (nI n_3), .ref (x + 23), .ref (x + 24), .int (nI n_4), .ref (x + 25), .int (nI il), .int (nI nx), .int ec, .int v_14, .int kn, .int v_15, .int nu, .long va]) := h_1
  refine z_get (ref := "FlowExporterModel") (C := RX12) (T := TX12) (N := 54) (ci := 14) (v := .ref (x + 2)) B (by decide +kernel) rfl 2 (by decide) (by decide +kernel) rfl h_2 rfl dX12_sizeOf_1 ?_
  refine z_bipush (v := 11) B dX12_sizeOf_4 rfl ?_
  refine z_iload_n B dX12_sizeOf_6 rfl 1 rfl ?_
  refine z_iadd B dX12_sizeOf_7 ?_
  refine z_top (st1 := [.int (nI (11 + t)), .ref (x + 2)]) (congrArg (fun w9 : Int32 => ([.int w9, .ref (x + 2)] : List Value)) (nI_add 11 t)) ?_
  refine z_iald B hc0 (vp_in_nI (by omega) (by omega)) dX12_sizeOf_8 ?_
  obtain ⟨n_5, hs1, hs2, hs3⟩ := NN.size hN ht
  refine z_top (st1 := [.int (nI n_5)]) (congrArg (fun w9 : Int32 => ([.int w9] : List Value)) ((congrArg fN (nI_clamp (by omega))).trans hs2)) ?_
  exact z_ret_i B dX12_sizeOf_9 ⟨⟨_, rfl, hs1, hs2, hs3⟩, rfl, hI, (fun b9 h9 => rfl)⟩

set_option maxHeartbeats 4000000 in
set_option maxRecDepth 100000 in
theorem r_fieldOfE (G : EnvG) (l : Launch) (Φ : Hm) (sz x : Nat) (rd : (Nat → Int32) → Prop) (fl : Nat) (pe : Nat) (le : Nat) (nx : Nat) (il : Nat) (qu : Nat) (kn : Int32) (ec : Int32) (nu : Int32) (va : Int64) (fN : Nat → Int32) (t : Nat) (q : Nat) (hx : G.2.2.2 ≤ x) (hI : Im G x (rd, NN, fl, pe, le, nx, il, qu, kn, ec, nu, va) Φ) (hc0 : Φ (x + 2) = some (ai_ G 307 fN)) (hN : NN fN) (ht : t < 4) (hq : q < 9) : Ct G l yX12_fieldOf wsX12_fieldOf ({ frames := 0, cells := 0, slots := 0, locals := 0 }) 0 0 [.ref x, .int (nI t), .int (nI q)] Φ sz (fun v Φ1 sz1 => (∃ n9 : Nat, v = some (.int (nI n9)) ∧ n9 ≤ 8 ∧ fN (15 + 9 * t + q) = nI n9) ∧ sz1 = sz ∧ (Im G x (rd, NN, fl, pe, le, nx, il, qu, kn, ec, nu, va) Φ1) ∧ Fr x (fun j9 => False) Φ Φ1) := by
  refine Ct.of (cc := cX12_fieldOf) (maxL := 3) (ret := (some .int)) (by decide) rfl (Nat.le_of_ble_eq_true rfl) ?_
  intro p9 e9 s9 m9 w9 t9 k9 B
  show Z p9 l e9 _ s9 m9 _ w9 t9 k9 _ G 3 0 [(0, .ref x), (1, .int (nI t)), (2, .int (nI q))] [] Φ sz 0 0
  refine z_aload_n B dX12_fieldOf_0 rfl 0 rfl ?_
  obtain ⟨v_1, v_2, v_3, n_1, v_4, v_5, v_6, v_7, v_8, v_9, v_10, v_11, v_12, n_2, v_13, n_3, n_4, v_14, v_15, h_1, b_12, b_1, b_2, b_3, b_4, b_5, b_6, b_7, b_8, b_9, b_10, b_11⟩ := im0 hI
  replace b_1 : 1 ≤ n_1 := b_1
  replace b_2 : n_1 ≤ 1024 := b_2
  replace b_3 : fl ≤ 12 := b_3
  replace b_4 : pe ≤ 24 := b_4
  replace b_5 : le ≤ 700 := b_5
  replace b_6 : qu ≤ 12 := b_6
  replace b_7 : n_2 ≤ 8 := b_7
  replace b_8 : n_3 ≤ 24 := b_8
  replace b_9 : n_4 ≤ 24 := b_9
  replace b_10 : il ≤ 700 := b_10
  replace b_11 : nx ≤ 701 := b_11
  have h_2 : Φ x = some (o_ 14 [.int v_1, .ref (x + 1), .ref (x + 2), .int v_2, .int v_3, .int (nI n_1), .int v_4, .int v_5, .ref (x + 3), .ref (x + 4), .int v_6, .long v_7, .ref (x + 5), .int (nI fl), .int v_8, .long v_9, .long v_10, .long v_11, .long v_12, .ref (x + 6), .ref (x + 7), .int (nI pe), .ref (x + 8), .int (nI le), .ref (x + 9), .ref (x + 10), .int (nI qu), .ref (x + 11), .ref (x + 12), .ref (x + 13), .ref (x + 14), .ref (x + 15), .ref (x + 16), .int (nI n_2), .long v_13, .ref (x + 17), .ref (x + 18), .ref (x + 19), .ref (x + 20), .ref (x + 21), .ref (x + 22), .int (nI n_3), .ref (x + 23), .ref (x + 24), .int (nI n_4), .ref (x + 25), .int (nI il), .int (nI nx), .int ec, .int v_14, .int kn, .int v_15, .int nu, .long va]) := h_1
  refine z_get (ref := "FlowExporterModel") (C := RX12) (T := TX12) (N := 54) (ci := 14) (v := .ref (x + 2)) B (by decide +kernel) rfl 2 (by decide) (by decide +kernel) rfl h_2 rfl dX12_fieldOf_1 ?_
  refine z_bipush (v := 15) B dX12_fieldOf_4 rfl ?_
  refine z_bipush (v := 9) B dX12_fieldOf_6 rfl ?_
  refine z_iload_n B dX12_fieldOf_8 rfl 1 rfl ?_
  refine z_imul B dX12_fieldOf_9 ?_
  refine z_top (st1 := [.int (nI (9 * t)), .int 15, .ref (x + 2)]) (congrArg (fun w9 : Int32 => ([.int w9, .int 15, .ref (x + 2)] : List Value)) (nI_mul 9 t)) ?_
  refine z_iadd B dX12_fieldOf_10 ?_
  refine z_top (st1 := [.int (nI (15 + 9 * t)), .ref (x + 2)]) (congrArg (fun w9 : Int32 => ([.int w9, .ref (x + 2)] : List Value)) (nI_add 15 (9 * t))) ?_
  refine z_iload_n B dX12_fieldOf_11 rfl 2 rfl ?_
  refine z_iadd B dX12_fieldOf_12 ?_
  refine z_top (st1 := [.int (nI (15 + 9 * t + q)), .ref (x + 2)]) (congrArg (fun w9 : Int32 => ([.int w9, .ref (x + 2)] : List Value)) (nI_add (15 + 9 * t) q)) ?_
  refine z_iald B hc0 (vp_in_nI (by omega) (by omega)) dX12_fieldOf_13 ?_
  obtain ⟨n_5, hs1, hs2⟩ := hN.2.1 (15 + 9 * t + q) (by omega) (by omega)
  refine z_top (st1 := [.int (nI n_5)]) (congrArg (fun w9 : Int32 => ([.int w9] : List Value)) ((congrArg fN (nI_clamp (by omega))).trans hs2)) ?_
  exact z_ret_i B dX12_fieldOf_14 ⟨⟨_, rfl, hs1, hs2⟩, rfl, hI, (fun b9 h9 => rfl)⟩

set_option maxHeartbeats 4000000 in
set_option maxRecDepth 100000 in
theorem r_appendRecord (G : EnvG) (l : Launch) (Φ : Hm) (sz x : Nat) (rd : (Nat → Int32) → Prop) (fl : Nat) (pe : Nat) (le : Nat) (nx : Nat) (il : Nat) (qu : Nat) (kn : Int32) (ec : Int32) (nu : Int32) (va : Int64) (f : Nat) (t : Nat) (hx : G.2.2.2 ≤ x) (hI : Im G x (rd, NN, fl, pe, le, nx, il, qu, kn, ec, nu, va) Φ) (hf : f < 12) (ht : t < 4) (hp : pe < 24) : Ct G l yX12_appendRecord wsX12_appendRecord ({ frames := 3, cells := 0, slots := 0, locals := 62 }) 0 0 [.ref x, .int (nI f), .int (nI t)] Φ sz (fun v Φ1 sz1 => (v = none) ∧ sz1 = sz ∧ (∃ (pe1 : Nat), (pe1 = pe + 1) ∧ Im G x (rd, NN, fl, pe1, le, nx, il, qu, kn, ec, nu, va) Φ1) ∧ Fr x (fun j9 => j9 = 0 ∨ j9 = 6 ∨ j9 = 7) Φ Φ1) := by
  refine Ct.of (cc := cX12_appendRecord) (maxL := 7) (ret := none) (by decide) rfl (Nat.le_of_ble_eq_true rfl) ?_
  intro p9 e9 s9 m9 w9 t9 k9 B
  show Z p9 l e9 _ s9 m9 _ w9 t9 k9 _ G 7 0 [(0, .ref x), (1, .int (nI f)), (2, .int (nI t))] [] Φ sz 0 0
  refine z_bipush (v := 30) B dX12_appendRecord_0 rfl ?_
  refine z_aload_n B dX12_appendRecord_2 rfl 0 rfl ?_
  obtain ⟨v_1, v_2, v_3, n_1, v_4, v_5, v_6, v_7, v_8, v_9, v_10, v_11, v_12, n_2, v_13, n_3, n_4, v_14, v_15, h_1, b_12, b_1, b_2, b_3, b_4, b_5, b_6, b_7, b_8, b_9, b_10, b_11⟩ := im0 hI
  replace b_1 : 1 ≤ n_1 := b_1
  replace b_2 : n_1 ≤ 1024 := b_2
  replace b_3 : fl ≤ 12 := b_3
  replace b_4 : pe ≤ 24 := b_4
  replace b_5 : le ≤ 700 := b_5
  replace b_6 : qu ≤ 12 := b_6
  replace b_7 : n_2 ≤ 8 := b_7
  replace b_8 : n_3 ≤ 24 := b_8
  replace b_9 : n_4 ≤ 24 := b_9
  replace b_10 : il ≤ 700 := b_10
  replace b_11 : nx ≤ 701 := b_11
  have h_2 : Φ x = some (o_ 14 [.int v_1, .ref (x + 1), .ref (x + 2), .int v_2, .int v_3, .int (nI n_1), .int v_4, .int v_5, .ref (x + 3), .ref (x + 4), .int v_6, .long v_7, .ref (x + 5), .int (nI fl), .int v_8, .long v_9, .long v_10, .long v_11, .long v_12, .ref (x + 6), .ref (x + 7), .int (nI pe), .ref (x + 8), .int (nI le), .ref (x + 9), .ref (x + 10), .int (nI qu), .ref (x + 11), .ref (x + 12), .ref (x + 13), .ref (x + 14), .ref (x + 15), .ref (x + 16), .int (nI n_2), .long v_13, .ref (x + 17), .ref (x + 18), .ref (x + 19), .ref (x + 20), .ref (x + 21), .ref (x + 22), .int (nI n_3), .ref (x + 23), .ref (x + 24), .int (nI n_4), .ref (x + 25), .int (nI il), .int (nI nx), .int ec, .int v_14, .int kn, .int v_15, .int nu, .long va]) := h_1
  refine z_get (ref := "FlowExporterModel") (C := RX12) (T := TX12) (N := 54) (ci := 14) (v := .int (nI pe)) B (by decide +kernel) rfl 21 (by decide) (by decide +kernel) rfl h_2 rfl dX12_appendRecord_3 ?_
  refine z_imul B dX12_appendRecord_6 ?_
  refine z_top (st1 := [.int (nI (30 * pe))]) (congrArg (fun w9 : Int32 => ([.int w9] : List Value)) (nI_mul 30 pe)) ?_
  refine z_istore_n (lv' := [(3, .int (nI (30 * pe))), (0, .ref x), (1, .int (nI f)), (2, .int (nI t))]) B dX12_appendRecord_7 rfl (Nat.le_of_ble_eq_true rfl) rfl ?_
  obtain ⟨f_1, h_3, r_1⟩ := imk (k := 2) hI
  replace r_1 : NN f_1 := r_1
  have h_4 : Φ (x + 2) = some (ai_ G 307 f_1) := h_3
  refine z_iconst (v := 0) B dX12_appendRecord_8 rfl ?_
  refine z_istore (lv' := [(4, .int 0), (3, .int (nI (30 * pe))), (0, .ref x), (1, .int (nI f)), (2, .int (nI t))]) B dX12_appendRecord_9 (Nat.le_of_ble_eq_true rfl) rfl ?_
  refine z_lv [0, 1, 2, 3, 4] rfl ?_
  refine z_loop (α := Nat × Nat) (fun (a9 : Nat × Nat) Φi => Im G x (rd, NN, fl, pe, le, nx, il, qu, kn, ec, nu, va) Φi ∧ Fr x (fun j9 => j9 = 7) Φ Φi ∧ (a9.1 ≤ 9) ∧ (a9.2 ≤ 30 * pe + lsm f_1 (15 + 9 * t) a9.1) ∧ True) (fun a9 => [(4, .int (nI (a9.1))), (3, .int (nI (a9.2))), (0, .ref x), (1, .int (nI f)), (2, .int (nI t))]) (fun a9 => 9 - a9.1) ?_ (0, 30 * pe) ⟨hI, fun _ _ => rfl, (show 0 ≤ 9 by omega), (show 30 * pe ≤ 30 * pe + 0 by omega), trivial⟩
  rintro ⟨i_1, i_2⟩ Φl1 ⟨hI1, hF1, b_13, b_14, -⟩ ih1
  replace hI1 : Im G x (rd, NN, fl, pe, le, nx, il, qu, kn, ec, nu, va) Φl1 := hI1
  replace b_13 : i_1 ≤ 9 := b_13
  replace b_14 : i_2 ≤ 30 * pe + lsm f_1 (15 + 9 * t) i_1 := b_14
  show Z p9 l e9 _ s9 m9 _ w9 t9 k9 _ G 7 11 [(4, .int (nI i_1)), (3, .int (nI i_2)), (0, .ref x), (1, .int (nI f)), (2, .int (nI t))] [] Φl1 _ _ _
  refine z_iload B dX12_appendRecord_11 0 rfl ?_
  refine z_aload_n B dX12_appendRecord_13 rfl 2 rfl ?_
  refine z_iload_n B dX12_appendRecord_14 rfl 4 rfl ?_
  have h_5 : Φl1 (x + 2) = some (ai_ G 307 f_1) := ((hF1 (x + 2) (fun j9 h8 h7 => by have h6 : j9 = 7 := h7; omega)).trans h_4)
  have h_6 : Φl1 x = some (o_ 14 [.int v_1, .ref (x + 1), .ref (x + 2), .int v_2, .int v_3, .int (nI n_1), .int v_4, .int v_5, .ref (x + 3), .ref (x + 4), .int v_6, .long v_7, .ref (x + 5), .int (nI fl), .int v_8, .long v_9, .long v_10, .long v_11, .long v_12, .ref (x + 6), .ref (x + 7), .int (nI pe), .ref (x + 8), .int (nI le), .ref (x + 9), .ref (x + 10), .int (nI qu), .ref (x + 11), .ref (x + 12), .ref (x + 13), .ref (x + 14), .ref (x + 15), .ref (x + 16), .int (nI n_2), .long v_13, .ref (x + 17), .ref (x + 18), .ref (x + 19), .ref (x + 20), .ref (x + 21), .ref (x + 22), .int (nI n_3), .ref (x + 23), .ref (x + 24), .int (nI n_4), .ref (x + 25), .int (nI il), .int (nI nx), .int ec, .int v_14, .int kn, .int v_15, .int nu, .long va]) := ((hF1 x (fun j9 h8 h7 => by have h6 : j9 = 7 := h7; omega)).trans h_2)
  refine z_callV (As := [.int (nI t)]) (rest := [.int (nI i_1)]) B (r_sizeOfE G l Φl1 sz x rd fl pe le nx il qu kn ec nu va f_1 t hx hI1 h_5 r_1 (show t < 4 by omega)) (cwV 1 B.1.2.2.2.2 gX12_appendRecord_X12_sizeOf rfl rfl rfl (by decide +kernel) ⟨Nat.le_of_ble_eq_true rfl, Nat.le_of_ble_eq_true rfl⟩) h_6 rfl rfl rfl rfl (Nat.le_of_ble_eq_true rfl) dX12_appendRecord_15 ⟨Nat.le_of_ble_eq_true rfl, Nat.le_of_ble_eq_true rfl⟩ (fun r_2 Φ1 sz1 st1 hp1 hs1 => ?_)
  obtain ⟨⟨n_5, rfl, b_15, b_16, b_17⟩, hq1, hI2, hF2⟩ := hp1
  subst sz1
  replace hs1 : st1 = [.int (nI n_5), .int (nI i_1)] := hs1
  subst st1
  replace b_15 : n_5 ≤ 9 := b_15
  replace b_16 : f_1 (11 + t) = nI n_5 := b_16
  replace b_17 : lsm f_1 (15 + 9 * t) n_5 ≤ 29 := b_17
  replace hI2 : Im G x (rd, NN, fl, pe, le, nx, il, qu, kn, ec, nu, va) Φ1 := hI2
  have q_1 := fun h9 : i_1 + 1 ≤ n_5 => lsm_mono (f := f_1) (b := 15 + 9 * t) h9
  refine z_icmp_ge (tgt := 96) B dX12_appendRecord_18 rfl (fun c_1 => ?_) (fun c_1 => ?_)
  · have e_1 : n_5 ≤ i_1 := (nI_leI (a := n_5) (b := i_1) (by omega) (by omega)).mp c_1
    refine z_aload_n B dX12_appendRecord_96 rfl 2 rfl ?_
    have h_7 : Φ1 x = some (o_ 14 [.int v_1, .ref (x + 1), .ref (x + 2), .int v_2, .int v_3, .int (nI n_1), .int v_4, .int v_5, .ref (x + 3), .ref (x + 4), .int v_6, .long v_7, .ref (x + 5), .int (nI fl), .int v_8, .long v_9, .long v_10, .long v_11, .long v_12, .ref (x + 6), .ref (x + 7), .int (nI pe), .ref (x + 8), .int (nI le), .ref (x + 9), .ref (x + 10), .int (nI qu), .ref (x + 11), .ref (x + 12), .ref (x + 13), .ref (x + 14), .ref (x + 15), .ref (x + 16), .int (nI n_2), .long v_13, .ref (x + 17), .ref (x + 18), .ref (x + 19), .ref (x + 20), .ref (x + 21), .ref (x + 22), .int (nI n_3), .ref (x + 23), .ref (x + 24), .int (nI n_4), .ref (x + 25), .int (nI il), .int (nI nx), .int ec, .int v_14, .int kn, .int v_15, .int nu, .long va]) := ((hF2 x (fun j9 h8 h7 => (show False from h7).elim)).trans h_6)
    refine z_get (ref := "FlowExporterModel") (C := RX12) (T := TX12) (N := 54) (ci := 14) (v := .ref (x + 6)) B (by decide +kernel) rfl 19 (by decide) (by decide +kernel) rfl h_7 rfl dX12_appendRecord_97 ?_
    refine z_aload_n B dX12_appendRecord_100 rfl 2 rfl ?_
    refine z_get (ref := "FlowExporterModel") (C := RX12) (T := TX12) (N := 54) (ci := 14) (v := .int (nI pe)) B (by decide +kernel) rfl 21 (by decide) (by decide +kernel) rfl h_7 rfl dX12_appendRecord_101 ?_
    refine z_iload_n B dX12_appendRecord_104 rfl 4 rfl ?_
    obtain ⟨f_2, h_8, r_3⟩ := imk (k := 6) hI2
    replace r_3 : Rw 3 f_2 := r_3
    have h_9 : Φ1 (x + 6) = some (ai_ G 24 f_2) := h_8
    refine z_iast B h_9 (Nat.le_trans hx (Nat.le_add_right x 6)) (vp_in_nI (by omega) (by omega)) dX12_appendRecord_105 (fun Φ2 hΦ1 => ?_)
    have h_10 : Φ2 (x + 6) = some (ai_ G 24 (upd f_2 (nI pe).toNatClampNeg (nI t))) := fset_at hΦ1
    have hI3 : Im G x (rd, NN, fl, pe, le, nx, il, qu, kn, ec, nu, va) Φ2 := Im.put (k := 6) hI2 hΦ1 ⟨_, rfl, Rw.up (n := t) r_3 (show t ≤ 3 by omega)⟩
    refine z_aload_n B dX12_appendRecord_106 rfl 2 rfl ?_
    refine z_dup B dX12_appendRecord_107 rfl ?_
    have h_11 : Φ2 x = some (o_ 14 [.int v_1, .ref (x + 1), .ref (x + 2), .int v_2, .int v_3, .int (nI n_1), .int v_4, .int v_5, .ref (x + 3), .ref (x + 4), .int v_6, .long v_7, .ref (x + 5), .int (nI fl), .int v_8, .long v_9, .long v_10, .long v_11, .long v_12, .ref (x + 6), .ref (x + 7), .int (nI pe), .ref (x + 8), .int (nI le), .ref (x + 9), .ref (x + 10), .int (nI qu), .ref (x + 11), .ref (x + 12), .ref (x + 13), .ref (x + 14), .ref (x + 15), .ref (x + 16), .int (nI n_2), .long v_13, .ref (x + 17), .ref (x + 18), .ref (x + 19), .ref (x + 20), .ref (x + 21), .ref (x + 22), .int (nI n_3), .ref (x + 23), .ref (x + 24), .int (nI n_4), .ref (x + 25), .int (nI il), .int (nI nx), .int ec, .int v_14, .int kn, .int v_15, .int nu, .long va]) := ((fset_fr hΦ1 (ne_off (x := x) (i := 0) (j := 6) rfl)).trans h_7)
    refine z_get (ref := "FlowExporterModel") (C := RX12) (T := TX12) (N := 54) (ci := 14) (v := .int (nI pe)) B (by decide +kernel) rfl 21 (by decide) (by decide +kernel) rfl h_11 rfl dX12_appendRecord_108 ?_
    refine z_iconst (v := 1) B dX12_appendRecord_111 rfl ?_
    refine z_iadd B dX12_appendRecord_112 ?_
    refine z_top (st1 := [.int (nI (pe + 1)), .ref x]) (congrArg (fun w9 : Int32 => ([.int w9, .ref x] : List Value)) (nI_add pe 1)) ?_
    refine z_put (ref := "FlowExporterModel") (C := RX12) (T := TX12) (N := 54) (ci := 14) (v := .int (nI (pe + 1))) B (by decide +kernel) tyX12 tyX12_ok nmX12 rfl 21 (by decide) (by decide +kernel) rfl (Or.inl rfl) h_11 hx rfl rfl (Nat.le_of_ble_eq_true rfl) dX12_appendRecord_113 (fun Φ3 hΦ2 => ?_)
    have h_12 : Φ3 x = some (o_ 14 [.int v_1, .ref (x + 1), .ref (x + 2), .int v_2, .int v_3, .int (nI n_1), .int v_4, .int v_5, .ref (x + 3), .ref (x + 4), .int v_6, .long v_7, .ref (x + 5), .int (nI fl), .int v_8, .long v_9, .long v_10, .long v_11, .long v_12, .ref (x + 6), .ref (x + 7), .int (nI (pe + 1)), .ref (x + 8), .int (nI le), .ref (x + 9), .ref (x + 10), .int (nI qu), .ref (x + 11), .ref (x + 12), .ref (x + 13), .ref (x + 14), .ref (x + 15), .ref (x + 16), .int (nI n_2), .long v_13, .ref (x + 17), .ref (x + 18), .ref (x + 19), .ref (x + 20), .ref (x + 21), .ref (x + 22), .int (nI n_3), .ref (x + 23), .ref (x + 24), .int (nI n_4), .ref (x + 25), .int (nI il), .int (nI nx), .int ec, .int v_14, .int kn, .int v_15, .int nu, .long va]) := fset_at hΦ2
    have hI4 : Im G x (rd, NN, fl, pe + 1, le, nx, il, qu, kn, ec, nu, va) Φ3 := Im.put0 hI3 hΦ2 ⟨v_1, v_2, v_3, n_1, v_4, v_5, v_6, v_7, v_8, v_9, v_10, v_11, v_12, n_2, v_13, n_3, n_4, v_14, v_15, rfl, b_12, (show 1 ≤ n_1 by omega), (show n_1 ≤ 1024 by omega), (show fl ≤ 12 by omega), (show (pe + 1) ≤ 24 by omega), (show le ≤ 700 by omega), (show qu ≤ 12 by omega), (show n_2 ≤ 8 by omega), (show n_3 ≤ 24 by omega), (show n_4 ≤ 24 by omega), (show il ≤ 700 by omega), (show nx ≤ 701 by omega)⟩
    exact z_ret_v B dX12_appendRecord_116 ⟨rfl, rfl, ⟨pe + 1, (show (pe + 1) = pe + 1 by omega), hI4⟩, (fun b9 h9 => ((fset_fr hΦ2 (fun h8 => h9 (0) h8 (show 0 = 0 ∨ 0 = 6 ∨ 0 = 7 by omega))).trans ((fset_fr hΦ1 (fun h8 => h9 (6) h8 (show 6 = 0 ∨ 6 = 6 ∨ 6 = 7 by omega))).trans ((hF2 b9 (fun j9 h8 h7 => (show False from h7).elim)).trans ((hF1 b9 (fun j9 h8 h7 => h9 j9 h8 (show j9 = 0 ∨ j9 = 6 ∨ j9 = 7 by have h6 : j9 = 7 := h7; omega))).trans rfl)))))⟩
  · have e_2 : ¬ (n_5 ≤ i_1) := fun h9 => c_1 ((nI_leI (a := n_5) (b := i_1) (by omega) (by omega)).mpr h9)
    replace q_1 := q_1 (by omega)
    refine z_aload_n B dX12_appendRecord_21 rfl 2 rfl ?_
    refine z_iload_n B dX12_appendRecord_22 rfl 4 rfl ?_
    refine z_iload B dX12_appendRecord_23 0 rfl ?_
    have h_13 : Φ1 (x + 2) = some (ai_ G 307 f_1) := ((hF2 (x + 2) (fun j9 h8 h7 => (show False from h7).elim)).trans h_5)
    have h_14 : Φ1 x = some (o_ 14 [.int v_1, .ref (x + 1), .ref (x + 2), .int v_2, .int v_3, .int (nI n_1), .int v_4, .int v_5, .ref (x + 3), .ref (x + 4), .int v_6, .long v_7, .ref (x + 5), .int (nI fl), .int v_8, .long v_9, .long v_10, .long v_11, .long v_12, .ref (x + 6), .ref (x + 7), .int (nI pe), .ref (x + 8), .int (nI le), .ref (x + 9), .ref (x + 10), .int (nI qu), .ref (x + 11), .ref (x + 12), .ref (x + 13), .ref (x + 14), .ref (x + 15), .ref (x + 16), .int (nI n_2), .long v_13, .ref (x + 17), .ref (x + 18), .ref (x + 19), .ref (x + 20), .ref (x + 21), .ref (x + 22), .int (nI n_3), .ref (x + 23), .ref (x + 24), .int (nI n_4), .ref (x + 25), .int (nI il), .int (nI nx), .int ec, .int v_14, .int kn, .int v_15, .int nu, .long va]) := ((hF2 x (fun j9 h8 h7 => (show False from h7).elim)).trans h_6)
    refine z_callV (As := [.int (nI t), .int (nI i_1)]) (rest := []) B (r_fieldOfE G l Φ1 sz x rd fl pe le nx il qu kn ec nu va f_1 t i_1 hx hI2 h_13 r_1 (show t < 4 by omega) (show i_1 < 9 by omega)) (cwV 2 B.1.2.2.2.2 gX12_appendRecord_X12_fieldOf rfl rfl rfl (by decide +kernel) ⟨Nat.le_of_ble_eq_true rfl, Nat.le_of_ble_eq_true rfl⟩) h_14 rfl rfl rfl rfl (Nat.le_of_ble_eq_true rfl) dX12_appendRecord_25 ⟨Nat.le_of_ble_eq_true rfl, Nat.le_of_ble_eq_true rfl⟩ (fun r_4 Φ4 sz2 st2 hp2 hs2 => ?_)
    obtain ⟨⟨n_6, rfl, b_18, b_19⟩, hq2, hI5, hF3⟩ := hp2
    subst sz2
    replace hs2 : st2 = [.int (nI n_6)] := hs2
    subst st2
    replace b_18 : n_6 ≤ 8 := b_18
    replace b_19 : f_1 (15 + 9 * t + i_1) = nI n_6 := b_19
    replace hI5 : Im G x (rd, NN, fl, pe, le, nx, il, qu, kn, ec, nu, va) Φ4 := hI5
    have e_3 := lsm_s (f := f_1) (b := 15 + 9 * t) (q := i_1) (n := n_6) b_19 (by omega)
    have b_20 := lnN_pos n_6
    have b_21 := lnN_le n_6
    refine z_istore (lv' := [(5, .int (nI n_6)), (4, .int (nI i_1)), (3, .int (nI i_2)), (0, .ref x), (1, .int (nI f)), (2, .int (nI t))]) B dX12_appendRecord_28 (Nat.le_of_ble_eq_true rfl) rfl ?_
    refine z_aload_n B dX12_appendRecord_30 rfl 3 rfl ?_
    refine z_iload B dX12_appendRecord_31 0 rfl ?_
    have h_15 : Φ4 x = some (o_ 14 [.int v_1, .ref (x + 1), .ref (x + 2), .int v_2, .int v_3, .int (nI n_1), .int v_4, .int v_5, .ref (x + 3), .ref (x + 4), .int v_6, .long v_7, .ref (x + 5), .int (nI fl), .int v_8, .long v_9, .long v_10, .long v_11, .long v_12, .ref (x + 6), .ref (x + 7), .int (nI pe), .ref (x + 8), .int (nI le), .ref (x + 9), .ref (x + 10), .int (nI qu), .ref (x + 11), .ref (x + 12), .ref (x + 13), .ref (x + 14), .ref (x + 15), .ref (x + 16), .int (nI n_2), .long v_13, .ref (x + 17), .ref (x + 18), .ref (x + 19), .ref (x + 20), .ref (x + 21), .ref (x + 22), .int (nI n_3), .ref (x + 23), .ref (x + 24), .int (nI n_4), .ref (x + 25), .int (nI il), .int (nI nx), .int ec, .int v_14, .int kn, .int v_15, .int nu, .long va]) := ((hF3 x (fun j9 h8 h7 => (show False from h7).elim)).trans h_14)
    refine z_callV (As := [.int (nI n_6)]) (rest := []) B (r_isSupported G l Φ4 sz x rd fl pe le nx il qu kn ec nu va (nI n_6) hx hI5 ) (cwV 1 B.1.2.2.2.2 gX12_appendRecord_X12_isSupported rfl rfl rfl (by decide +kernel) ⟨Nat.le_of_ble_eq_true rfl, Nat.le_of_ble_eq_true rfl⟩) h_15 rfl rfl rfl rfl (Nat.le_of_ble_eq_true rfl) dX12_appendRecord_33 ⟨Nat.le_of_ble_eq_true rfl, Nat.le_of_ble_eq_true rfl⟩ (fun r_5 Φ5 sz3 st3 hp3 hs3 => ?_)
    obtain ⟨⟨v_16, rfl, b_22⟩, hq3, hI6, hF4⟩ := hp3
    subst sz3
    replace hs3 : st3 = [.int v_16] := hs3
    subst st3
    replace hI6 : Im G x (rd, NN, fl, pe, le, nx, il, qu, kn, ec, nu, va) Φ5 := hI6
    refine z_if_ne (tgt := 42) B dX12_appendRecord_36 rfl (fun c_2 => ?_) (fun c_2 => ?_)
    · refine z_bipush (v := 8) B dX12_appendRecord_42 rfl ?_
      refine z_iload B dX12_appendRecord_44 0 rfl ?_
      refine z_callS (As := [.int (nI n_6)]) (rest := [.int 8]) B (r_lengthOf G l Φ5 sz x rd fl pe le nx il qu kn ec nu va n_6 hx hI6 (show n_6 < 2 ^ 31 by omega)) (va_cwS 1 B.1.2.2.2.2 gX12_appendRecord_X12_lengthOf rfl rfl rfl (by decide +kernel) ⟨Nat.le_of_ble_eq_true rfl, Nat.le_of_ble_eq_true rfl⟩) rfl rfl (Nat.le_of_ble_eq_true rfl) dX12_appendRecord_46 ⟨Nat.le_of_ble_eq_true rfl, Nat.le_of_ble_eq_true rfl⟩ (fun r_6 Φ6 sz4 st4 hp4 hs4 => ?_)
      obtain ⟨rfl, hq4, hI7, hF5⟩ := hp4
      subst sz4
      replace hs4 : st4 = [.int (nI (lnN n_6)), .int 8] := hs4
      subst st4
      have b_23 := lnN_pos n_6
      have b_24 := lnN_le n_6
      replace hI7 : Im G x (rd, NN, fl, pe, le, nx, il, qu, kn, ec, nu, va) Φ6 := hI7
      refine z_imul B dX12_appendRecord_49 ?_
      refine z_top (st1 := [.int (nI (8 * (lnN n_6)))]) (congrArg (fun w9 : Int32 => ([.int w9] : List Value)) (nI_mul 8 (lnN n_6))) ?_
      refine z_bipush (v := 8) B dX12_appendRecord_50 rfl ?_
      refine z_isub B dX12_appendRecord_52 ?_
      refine z_istore (lv' := [(6, .int (nI (8 * (lnN n_6)) - 8)), (5, .int (nI n_6)), (4, .int (nI i_1)), (3, .int (nI i_2)), (0, .ref x), (1, .int (nI f)), (2, .int (nI t))]) B dX12_appendRecord_53 (Nat.le_of_ble_eq_true rfl) rfl ?_
      refine z_lv [0, 1, 2, 3, 4, 5, 6] rfl ?_
      refine z_loop (α := Nat × Nat) (fun (a9 : Nat × Nat) Φi => Im G x (rd, NN, fl, pe, le, nx, il, qu, kn, ec, nu, va) Φi ∧ Fr x (fun j9 => j9 = 7) Φ6 Φi ∧ (a9.1 ≤ 8) ∧ (a9.2 + a9.1 ≤ i_2 + lnN n_6) ∧ True) (fun a9 => [(6, .int (nI (8 * (a9.1)) - 8)), (5, .int (nI n_6)), (4, .int (nI i_1)), (3, .int (nI (a9.2))), (0, .ref x), (1, .int (nI f)), (2, .int (nI t))]) (fun a9 => a9.1) ?_ (lnN n_6, i_2) ⟨hI7, fun _ _ => rfl, (show (lnN n_6) ≤ 8 by omega), (show i_2 + (lnN n_6) ≤ i_2 + lnN n_6 by omega), trivial⟩
      rintro ⟨i_3, i_4⟩ Φl2 ⟨hI8, hF6, b_25, b_26, -⟩ ih2
      replace hI8 : Im G x (rd, NN, fl, pe, le, nx, il, qu, kn, ec, nu, va) Φl2 := hI8
      replace b_25 : i_3 ≤ 8 := b_25
      replace b_26 : i_4 + i_3 ≤ i_2 + lnN n_6 := b_26
      show Z p9 l e9 _ s9 m9 _ w9 t9 k9 _ G 7 55 [(6, .int (nI (8 * i_3) - 8)), (5, .int (nI n_6)), (4, .int (nI i_1)), (3, .int (nI i_4)), (0, .ref x), (1, .int (nI f)), (2, .int (nI t))] [] Φl2 _ _ _
      refine z_iload B dX12_appendRecord_55 0 rfl ?_
      refine z_if_lt (tgt := 90) B dX12_appendRecord_57 rfl (fun c_3 => ?_) (fun c_3 => ?_)
      · have e_4 : i_3 = 0 := (m8_lt (j := i_3) (by omega)).1 c_3
        refine z_iinc (k := 2) (v := nI (i_1 + 1)) (lv' := [(4, .int (nI (i_1 + 1))), (6, .int (nI (8 * i_3) - 8)), (5, .int (nI n_6)), (3, .int (nI i_4)), (0, .ref x), (1, .int (nI f)), (2, .int (nI t))]) B dX12_appendRecord_90 rfl (nI_add i_1 1) (Nat.le_of_ble_eq_true rfl) rfl ?_
        refine z_goto (tgt := 11) B dX12_appendRecord_93 rfl ?_
        refine z_lv [0, 3, 4, 5, 6] rfl ?_
        exact ih1 (i_1 + 1, i_4) Φl2 (show 9 - (i_1 + 1) < 9 - i_1 by omega) ⟨hI8, (fun b9 h9 => ((hF6 b9 (fun j9 h8 h7 => h9 j9 h8 (show j9 = 7 by have h6 : j9 = 7 := h7; omega))).trans ((hF5 b9 (fun j9 h8 h7 => (show False from h7).elim)).trans ((hF4 b9 (fun j9 h8 h7 => (show False from h7).elim)).trans ((hF3 b9 (fun j9 h8 h7 => (show False from h7).elim)).trans ((hF2 b9 (fun j9 h8 h7 => (show False from h7).elim)).trans ((hF1 b9 (fun j9 h8 h7 => h9 j9 h8 (show j9 = 7 by have h6 : j9 = 7 := h7; omega))).trans rfl))))))), (show (i_1 + 1) ≤ 9 by omega), (show i_4 ≤ 30 * pe + lsm f_1 (15 + 9 * t) (i_1 + 1) by omega), trivial⟩
      · have e_5 : 1 ≤ i_3 := (m8_lt (j := i_3) (by omega)).2 c_3
        refine z_aload_n B dX12_appendRecord_60 rfl 4 rfl ?_
        have h_16 : Φl2 x = some (o_ 14 [.int v_1, .ref (x + 1), .ref (x + 2), .int v_2, .int v_3, .int (nI n_1), .int v_4, .int v_5, .ref (x + 3), .ref (x + 4), .int v_6, .long v_7, .ref (x + 5), .int (nI fl), .int v_8, .long v_9, .long v_10, .long v_11, .long v_12, .ref (x + 6), .ref (x + 7), .int (nI pe), .ref (x + 8), .int (nI le), .ref (x + 9), .ref (x + 10), .int (nI qu), .ref (x + 11), .ref (x + 12), .ref (x + 13), .ref (x + 14), .ref (x + 15), .ref (x + 16), .int (nI n_2), .long v_13, .ref (x + 17), .ref (x + 18), .ref (x + 19), .ref (x + 20), .ref (x + 21), .ref (x + 22), .int (nI n_3), .ref (x + 23), .ref (x + 24), .int (nI n_4), .ref (x + 25), .int (nI il), .int (nI nx), .int ec, .int v_14, .int kn, .int v_15, .int nu, .long va]) := ((hF6 x (fun j9 h8 h7 => by have h6 : j9 = 7 := h7; omega)).trans ((hF5 x (fun j9 h8 h7 => (show False from h7).elim)).trans ((hF4 x (fun j9 h8 h7 => (show False from h7).elim)).trans h_15)))
        refine z_get (ref := "FlowExporterModel") (C := RX12) (T := TX12) (N := 54) (ci := 14) (v := .ref (x + 7)) B (by decide +kernel) rfl 20 (by decide) (by decide +kernel) rfl h_16 rfl dX12_appendRecord_61 ?_
        refine z_iload_n B dX12_appendRecord_64 rfl 3 rfl ?_
        refine z_aload_n B dX12_appendRecord_65 rfl 4 rfl ?_
        refine z_iload_n B dX12_appendRecord_66 rfl 5 rfl ?_
        refine z_iload B dX12_appendRecord_67 1 rfl ?_
        refine z_callV (As := [.int (nI f), .int (nI n_6)]) (rest := [.int (nI i_4), .ref (x + 7)]) B (r_contentOf G l Φl2 sz x rd fl pe le nx il qu kn ec nu va f n_6 hx hI8 (show f < 12 by omega) (show n_6 ≤ 8 by omega)) (cwV 2 B.1.2.2.2.2 gX12_appendRecord_X12_contentOf rfl rfl rfl (by decide +kernel) ⟨Nat.le_of_ble_eq_true rfl, Nat.le_of_ble_eq_true rfl⟩) h_16 rfl rfl rfl rfl (Nat.le_of_ble_eq_true rfl) dX12_appendRecord_69 ⟨Nat.le_of_ble_eq_true rfl, Nat.le_of_ble_eq_true rfl⟩ (fun r_7 Φ7 sz5 st5 hp5 hs5 => ?_)
        obtain ⟨⟨v_17, rfl⟩, hq5, hI9, hF7⟩ := hp5
        subst sz5
        replace hs5 : st5 = [.long v_17, .int (nI i_4), .ref (x + 7)] := hs5
        subst st5
        replace hI9 : Im G x (rd, NN, fl, pe, le, nx, il, qu, kn, ec, nu, va) Φ7 := hI9
        refine z_iload B dX12_appendRecord_72 0 rfl ?_
        refine z_lshr (v := v_17 >>> ((nI (8 * i_3) - 8 : Int32).toInt64 &&& 63)) B dX12_appendRecord_74 rfl ?_
        refine z_fl (fun v_18 => ?_)
        refine z_ldc2 (v := 255) B (by decide +kernel) dX12_appendRecord_75 ?_
        refine z_land B dX12_appendRecord_78 ?_
        refine z_fl (fun v_19 => ?_)
        refine z_l2i (v := v_19.toInt32) B dX12_appendRecord_79 rfl ?_
        refine z_fi (fun v_20 => ?_)
        obtain ⟨f_3, h_17⟩ := imk (k := 7) hI9
        have h_18 : Φ7 (x + 7) = some (ai_ G 720 f_3) := h_17
        refine z_iast B h_18 (Nat.le_trans hx (Nat.le_add_right x 7)) (vp_in_nI (by omega) (by omega)) dX12_appendRecord_80 (fun Φ8 hΦ3 => ?_)
        have h_19 : Φ8 (x + 7) = some (ai_ G 720 (upd f_3 (nI i_4).toNatClampNeg v_20)) := fset_at hΦ3
        have hI10 : Im G x (rd, NN, fl, pe, le, nx, il, qu, kn, ec, nu, va) Φ8 := Im.put (k := 7) hI9 hΦ3 ⟨_, rfl⟩
        refine z_iinc (k := 3) (v := nI (i_4 + 1)) (lv' := [(3, .int (nI (i_4 + 1))), (6, .int (nI (8 * i_3) - 8)), (5, .int (nI n_6)), (4, .int (nI i_1)), (0, .ref x), (1, .int (nI f)), (2, .int (nI t))]) B dX12_appendRecord_81 rfl (nI_add i_4 1) (Nat.le_of_ble_eq_true rfl) rfl ?_
        refine z_iinc (k := 1) (v := nI (8 * (i_3 - 1)) - 8) (lv' := [(6, .int (nI (8 * (i_3 - 1)) - 8)), (3, .int (nI (i_4 + 1))), (5, .int (nI n_6)), (4, .int (nI i_1)), (0, .ref x), (1, .int (nI f)), (2, .int (nI t))]) B dX12_appendRecord_84 rfl (m8_dec (show 1 ≤ i_3 by omega)) (Nat.le_of_ble_eq_true rfl) rfl ?_
        refine z_goto (tgt := 55) B dX12_appendRecord_87 rfl ?_
        refine z_lv [0, 2, 3, 1, 4, 5, 6] rfl ?_
        exact ih2 (i_3 - 1, i_4 + 1) Φ8 (show (i_3 - 1) < i_3 by omega) ⟨hI10, (fun b9 h9 => ((fset_fr hΦ3 (fun h8 => h9 (7) h8 (show 7 = 7 by omega))).trans ((hF7 b9 (fun j9 h8 h7 => (show False from h7).elim)).trans ((hF6 b9 (fun j9 h8 h7 => h9 j9 h8 (show j9 = 7 by have h6 : j9 = 7 := h7; omega))).trans rfl)))), (show (i_3 - 1) ≤ 8 by omega), (show (i_4 + 1) + (i_3 - 1) ≤ i_2 + lnN n_6 by omega), trivial⟩
    · refine z_goto (tgt := 90) B dX12_appendRecord_39 rfl ?_
      refine z_iinc (k := 1) (v := nI (i_1 + 1)) (lv' := [(4, .int (nI (i_1 + 1))), (5, .int (nI n_6)), (3, .int (nI i_2)), (0, .ref x), (1, .int (nI f)), (2, .int (nI t))]) B dX12_appendRecord_90 rfl (nI_add i_1 1) (Nat.le_of_ble_eq_true rfl) rfl ?_
      refine z_goto (tgt := 11) B dX12_appendRecord_93 rfl ?_
      refine z_lv [0, 2, 3, 4, 5] rfl ?_
      exact ih1 (i_1 + 1, i_2) Φ5 (show 9 - (i_1 + 1) < 9 - i_1 by omega) ⟨hI6, (fun b9 h9 => ((hF4 b9 (fun j9 h8 h7 => (show False from h7).elim)).trans ((hF3 b9 (fun j9 h8 h7 => (show False from h7).elim)).trans ((hF2 b9 (fun j9 h8 h7 => (show False from h7).elim)).trans ((hF1 b9 (fun j9 h8 h7 => h9 j9 h8 (show j9 = 7 by have h6 : j9 = 7 := h7; omega))).trans rfl))))), (show (i_1 + 1) ≤ 9 by omega), (show i_2 ≤ 30 * pe + lsm f_1 (15 + 9 * t) (i_1 + 1) by omega), trivial⟩

theorem al_inj {G : EnvG} {n : Nat} {f g : Nat → Int64} (h : some (al_ G n f) = some (al_ G n g)) : f = g := by
  have h1 := Option.some.inj h
  have h2 := Sum.inl.inj h1
  have h3 := (Prod.mk.inj (Prod.mk.inj h2).2).2
  exact Sum.inl.inj (Sum.inr.inj h3)
theorem ai_inj {G : EnvG} {n : Nat} {f g : Nat → Int32} (h : some (ai_ G n f) = some (ai_ G n g)) : f = g := by
  have h1 := Option.some.inj h
  have h2 := Sum.inl.inj h1
  have h3 := (Prod.mk.inj (Prod.mk.inj h2).2).2
  exact Sum.inl.inj h3
theorem no_s {P : Nat → Prop} {i : Nat} (h : ∀ j, j < i → ¬ P j) (hi : ¬ P i) : ∀ j, j < i + 1 → ¬ P j := by
  intro j hj
  by_cases e : j = i
  · subst e
    exact hi
  · exact h j (by omega)

set_option maxHeartbeats 4000000 in
set_option maxRecDepth 100000 in
theorem r_export (G : EnvG) (l : Launch) (Φ : Hm) (sz x : Nat) (rd : (Nat → Int32) → Prop) (fl : Nat) (pe : Nat) (le : Nat) (nx : Nat) (il : Nat) (qu : Nat) (kn : Int32) (ec : Int32) (nu : Int32) (va : Int64) (f : Nat) (hx : G.2.2.2 ≤ x) (hI : Im G x (rd, NN, fl, pe, le, nx, il, qu, kn, ec, nu, va) Φ) (hf : f < fl) (hp : pe < 24) : Ct G l yX12_export wsX12_export ({ frames := 4, cells := 0, slots := 0, locals := 88 }) 0 0 [.ref x, .int (nI f)] Φ sz (fun v Φ1 sz1 => (v = none) ∧ sz1 = sz ∧ (∃ (fl1 : Nat) (pe1 : Nat), (fl1 + 1 = fl) ∧ (pe1 ≤ pe + 1) ∧ Im G x (rd, NN, fl1, pe1, le, nx, il, qu, kn, ec, nu, va) Φ1) ∧ Fr x (fun j9 => j9 = 0 ∨ j9 = 5 ∨ j9 = 6 ∨ j9 = 7) Φ Φ1) := by
  refine Ct.of (cc := cX12_export) (maxL := 4) (ret := none) (by decide) rfl (Nat.le_of_ble_eq_true rfl) ?_
  intro p9 e9 s9 m9 w9 t9 k9 B
  show Z p9 l e9 _ s9 m9 _ w9 t9 k9 _ G 4 0 [(0, .ref x), (1, .int (nI f))] [] Φ sz 0 0
  refine z_aload_n B dX12_export_0 rfl 0 rfl ?_
  obtain ⟨v_1, v_2, v_3, n_1, v_4, v_5, v_6, v_7, v_8, v_9, v_10, v_11, v_12, n_2, v_13, n_3, n_4, v_14, v_15, h_1, b_12, b_1, b_2, b_3, b_4, b_5, b_6, b_7, b_8, b_9, b_10, b_11⟩ := im0 hI
  replace b_1 : 1 ≤ n_1 := b_1
  replace b_2 : n_1 ≤ 1024 := b_2
  replace b_3 : fl ≤ 12 := b_3
  replace b_4 : pe ≤ 24 := b_4
  replace b_5 : le ≤ 700 := b_5
  replace b_6 : qu ≤ 12 := b_6
  replace b_7 : n_2 ≤ 8 := b_7
  replace b_8 : n_3 ≤ 24 := b_8
  replace b_9 : n_4 ≤ 24 := b_9
  replace b_10 : il ≤ 700 := b_10
  replace b_11 : nx ≤ 701 := b_11
  have h_2 : Φ x = some (o_ 14 [.int v_1, .ref (x + 1), .ref (x + 2), .int v_2, .int v_3, .int (nI n_1), .int v_4, .int v_5, .ref (x + 3), .ref (x + 4), .int v_6, .long v_7, .ref (x + 5), .int (nI fl), .int v_8, .long v_9, .long v_10, .long v_11, .long v_12, .ref (x + 6), .ref (x + 7), .int (nI pe), .ref (x + 8), .int (nI le), .ref (x + 9), .ref (x + 10), .int (nI qu), .ref (x + 11), .ref (x + 12), .ref (x + 13), .ref (x + 14), .ref (x + 15), .ref (x + 16), .int (nI n_2), .long v_13, .ref (x + 17), .ref (x + 18), .ref (x + 19), .ref (x + 20), .ref (x + 21), .ref (x + 22), .int (nI n_3), .ref (x + 23), .ref (x + 24), .int (nI n_4), .ref (x + 25), .int (nI il), .int (nI nx), .int ec, .int v_14, .int kn, .int v_15, .int nu, .long va]) := h_1
  refine z_get (ref := "FlowExporterModel") (C := RX12) (T := TX12) (N := 54) (ci := 14) (v := .ref (x + 2)) B (by decide +kernel) rfl 2 (by decide) (by decide +kernel) rfl h_2 rfl dX12_export_1 ?_
  refine z_bipush (v := 51) B dX12_export_4 rfl ?_
  refine z_aload_n B dX12_export_6 rfl 0 rfl ?_
  refine z_get (ref := "FlowExporterModel") (C := RX12) (T := TX12) (N := 54) (ci := 14) (v := .ref (x + 5)) B (by decide +kernel) rfl 12 (by decide) (by decide +kernel) rfl h_2 rfl dX12_export_7 ?_
  refine z_bipush (v := 8) B dX12_export_10 rfl ?_
  refine z_iload_n B dX12_export_12 rfl 1 rfl ?_
  refine z_imul B dX12_export_13 ?_
  refine z_top (st1 := [.int (nI (8 * f)), .ref (x + 5), .int 51, .ref (x + 2)]) (congrArg (fun w9 : Int32 => ([.int w9, .ref (x + 5), .int 51, .ref (x + 2)] : List Value)) (nI_mul 8 f)) ?_
  refine z_iconst (v := 3) B dX12_export_14 rfl ?_
  refine z_iadd B dX12_export_15 ?_
  refine z_top (st1 := [.int (nI (8 * f + 3)), .ref (x + 5), .int 51, .ref (x + 2)]) (congrArg (fun w9 : Int32 => ([.int w9, .ref (x + 5), .int 51, .ref (x + 2)] : List Value)) (nI_add (8 * f) 3)) ?_
  obtain ⟨f_1, h_3, r_1⟩ := imk (k := 5) hI
  replace r_1 : CC f_1 := r_1
  have h_4 : Φ (x + 5) = some (al_ G 96 f_1) := h_3
  refine z_lald B h_4 (vp_in_nI (by omega) (by omega)) dX12_export_16 ?_
  obtain ⟨n_5, b_13, e_1⟩ := r_1 f (by omega)
  refine z_top (st1 := [.long (Int64.ofNat n_5), .int 51, .ref (x + 2)]) (congrArg (fun w9 : Int64 => ([.long w9, .int 51, .ref (x + 2)] : List Value)) ((congrArg f_1 (nI_clamp (by omega))).trans e_1)) ?_
  refine z_l2i (v := (Int64.ofNat n_5).toInt32) B dX12_export_17 rfl ?_
  refine z_top (st1 := [.int (nI n_5), .int 51, .ref (x + 2)]) (congrArg (fun w9 : Int32 => ([.int w9, .int 51, .ref (x + 2)] : List Value)) (ofL (by omega))) ?_
  refine z_iadd B dX12_export_18 ?_
  refine z_top (st1 := [.int (nI (51 + n_5)), .ref (x + 2)]) (congrArg (fun w9 : Int32 => ([.int w9, .ref (x + 2)] : List Value)) (nI_add 51 n_5)) ?_
  obtain ⟨f_2, h_5, r_2⟩ := imk (k := 2) hI
  replace r_2 : NN f_2 := r_2
  have h_6 : Φ (x + 2) = some (ai_ G 307 f_2) := h_5
  refine z_iald B h_6 (vp_in_nI (by omega) (by omega)) dX12_export_19 ?_
  obtain ⟨n_6, b_14, e_2⟩ := r_2.2.2.1 (51 + n_5) (by omega) (by omega)
  refine z_top (st1 := [.int (nI n_6)]) (congrArg (fun w9 : Int32 => ([.int w9] : List Value)) ((congrArg f_2 (nI_clamp (by omega))).trans e_2)) ?_
  refine z_istore_n (lv' := [(2, .int (nI n_6)), (0, .ref x), (1, .int (nI f))]) B dX12_export_20 rfl (Nat.le_of_ble_eq_true rfl) rfl ?_
  refine z_aload_n B dX12_export_21 rfl 1 rfl ?_
  refine z_iload_n B dX12_export_22 rfl 0 rfl ?_
  refine z_callV (As := [.int (nI n_6)]) (rest := []) B (r_effective G l Φ sz x rd fl pe le nx il qu kn ec nu va n_6 hx hI (show n_6 < 4 by omega)) (cwV 1 B.1.2.2.2.2 gX12_export_X12_effective rfl rfl rfl (by decide +kernel) ⟨Nat.le_of_ble_eq_true rfl, Nat.le_of_ble_eq_true rfl⟩) h_2 rfl rfl rfl rfl (Nat.le_of_ble_eq_true rfl) dX12_export_23 ⟨Nat.le_of_ble_eq_true rfl, Nat.le_of_ble_eq_true rfl⟩ (fun r_3 Φ1 sz1 st1 hp1 hs1 => ?_)
  obtain ⟨⟨v_16, rfl⟩, hq1, hI1, hF1⟩ := hp1
  subst sz1
  replace hs1 : st1 = [.int v_16] := hs1
  subst st1
  replace hI1 : Im G x (rd, NN, fl, pe, le, nx, il, qu, kn, ec, nu, va) Φ1 := hI1
  refine z_if_eq (tgt := 38) B dX12_export_26 rfl (fun c_1 => ?_) (fun c_1 => ?_)
  · refine z_aload_n B dX12_export_38 rfl 1 rfl ?_
    refine z_dup B dX12_export_39 rfl ?_
    have h_7 : Φ1 x = some (o_ 14 [.int v_1, .ref (x + 1), .ref (x + 2), .int v_2, .int v_3, .int (nI n_1), .int v_4, .int v_5, .ref (x + 3), .ref (x + 4), .int v_6, .long v_7, .ref (x + 5), .int (nI fl), .int v_8, .long v_9, .long v_10, .long v_11, .long v_12, .ref (x + 6), .ref (x + 7), .int (nI pe), .ref (x + 8), .int (nI le), .ref (x + 9), .ref (x + 10), .int (nI qu), .ref (x + 11), .ref (x + 12), .ref (x + 13), .ref (x + 14), .ref (x + 15), .ref (x + 16), .int (nI n_2), .long v_13, .ref (x + 17), .ref (x + 18), .ref (x + 19), .ref (x + 20), .ref (x + 21), .ref (x + 22), .int (nI n_3), .ref (x + 23), .ref (x + 24), .int (nI n_4), .ref (x + 25), .int (nI il), .int (nI nx), .int ec, .int v_14, .int kn, .int v_15, .int nu, .long va]) := ((hF1 x (fun j9 h8 h7 => (show False from h7).elim)).trans h_2)
    refine z_get (ref := "FlowExporterModel") (C := RX12) (T := TX12) (N := 54) (ci := 14) (v := .long v_12) B (by decide +kernel) rfl 18 (by decide) (by decide +kernel) rfl h_7 rfl dX12_export_40 ?_
    refine z_lconst (v := 1) B dX12_export_43 rfl ?_
    refine z_ladd B dX12_export_44 ?_
    refine z_fl (fun v_17 => ?_)
    refine z_put (ref := "FlowExporterModel") (C := RX12) (T := TX12) (N := 54) (ci := 14) (v := .long v_17) B (by decide +kernel) tyX12 tyX12_ok nmX12 rfl 18 (by decide) (by decide +kernel) rfl (Or.inl rfl) h_7 hx rfl rfl (Nat.le_of_ble_eq_true rfl) dX12_export_45 (fun Φ2 hΦ1 => ?_)
    have h_8 : Φ2 x = some (o_ 14 [.int v_1, .ref (x + 1), .ref (x + 2), .int v_2, .int v_3, .int (nI n_1), .int v_4, .int v_5, .ref (x + 3), .ref (x + 4), .int v_6, .long v_7, .ref (x + 5), .int (nI fl), .int v_8, .long v_9, .long v_10, .long v_11, .long v_17, .ref (x + 6), .ref (x + 7), .int (nI pe), .ref (x + 8), .int (nI le), .ref (x + 9), .ref (x + 10), .int (nI qu), .ref (x + 11), .ref (x + 12), .ref (x + 13), .ref (x + 14), .ref (x + 15), .ref (x + 16), .int (nI n_2), .long v_13, .ref (x + 17), .ref (x + 18), .ref (x + 19), .ref (x + 20), .ref (x + 21), .ref (x + 22), .int (nI n_3), .ref (x + 23), .ref (x + 24), .int (nI n_4), .ref (x + 25), .int (nI il), .int (nI nx), .int ec, .int v_14, .int kn, .int v_15, .int nu, .long va]) := fset_at hΦ1
    have hI2 : Im G x (rd, NN, fl, pe, le, nx, il, qu, kn, ec, nu, va) Φ2 := Im.put0 hI1 hΦ1 ⟨v_1, v_2, v_3, n_1, v_4, v_5, v_6, v_7, v_8, v_9, v_10, v_11, v_17, n_2, v_13, n_3, n_4, v_14, v_15, rfl, b_12, (show 1 ≤ n_1 by omega), (show n_1 ≤ 1024 by omega), (show fl ≤ 12 by omega), (show pe ≤ 24 by omega), (show le ≤ 700 by omega), (show qu ≤ 12 by omega), (show n_2 ≤ 8 by omega), (show n_3 ≤ 24 by omega), (show n_4 ≤ 24 by omega), (show il ≤ 700 by omega), (show nx ≤ 701 by omega)⟩
    refine z_aload_n B dX12_export_48 rfl 1 rfl ?_
    refine z_dup B dX12_export_49 rfl ?_
    refine z_get (ref := "FlowExporterModel") (C := RX12) (T := TX12) (N := 54) (ci := 14) (v := .int v_4) B (by decide +kernel) rfl 6 (by decide) (by decide +kernel) rfl h_8 rfl dX12_export_50 ?_
    refine z_iconst (v := 1) B dX12_export_53 rfl ?_
    refine z_iadd B dX12_export_54 ?_
    refine z_fi (fun v_18 => ?_)
    refine z_put (ref := "FlowExporterModel") (C := RX12) (T := TX12) (N := 54) (ci := 14) (v := .int v_18) B (by decide +kernel) tyX12 tyX12_ok nmX12 rfl 6 (by decide) (by decide +kernel) rfl (Or.inl rfl) h_8 hx rfl rfl (Nat.le_of_ble_eq_true rfl) dX12_export_55 (fun Φ3 hΦ2 => ?_)
    have h_9 : Φ3 x = some (o_ 14 [.int v_1, .ref (x + 1), .ref (x + 2), .int v_2, .int v_3, .int (nI n_1), .int v_18, .int v_5, .ref (x + 3), .ref (x + 4), .int v_6, .long v_7, .ref (x + 5), .int (nI fl), .int v_8, .long v_9, .long v_10, .long v_11, .long v_17, .ref (x + 6), .ref (x + 7), .int (nI pe), .ref (x + 8), .int (nI le), .ref (x + 9), .ref (x + 10), .int (nI qu), .ref (x + 11), .ref (x + 12), .ref (x + 13), .ref (x + 14), .ref (x + 15), .ref (x + 16), .int (nI n_2), .long v_13, .ref (x + 17), .ref (x + 18), .ref (x + 19), .ref (x + 20), .ref (x + 21), .ref (x + 22), .int (nI n_3), .ref (x + 23), .ref (x + 24), .int (nI n_4), .ref (x + 25), .int (nI il), .int (nI nx), .int ec, .int v_14, .int kn, .int v_15, .int nu, .long va]) := fset_at hΦ2
    have hI3 : Im G x (rd, NN, fl, pe, le, nx, il, qu, kn, ec, nu, va) Φ3 := Im.put0 hI2 hΦ2 ⟨v_1, v_2, v_3, n_1, v_18, v_5, v_6, v_7, v_8, v_9, v_10, v_11, v_17, n_2, v_13, n_3, n_4, v_14, v_15, rfl, b_12, (show 1 ≤ n_1 by omega), (show n_1 ≤ 1024 by omega), (show fl ≤ 12 by omega), (show pe ≤ 24 by omega), (show le ≤ 700 by omega), (show qu ≤ 12 by omega), (show n_2 ≤ 8 by omega), (show n_3 ≤ 24 by omega), (show n_4 ≤ 24 by omega), (show il ≤ 700 by omega), (show nx ≤ 701 by omega)⟩
    refine z_aload_n B dX12_export_58 rfl 1 rfl ?_
    refine z_dup B dX12_export_59 rfl ?_
    refine z_get (ref := "FlowExporterModel") (C := RX12) (T := TX12) (N := 54) (ci := 14) (v := .int (nI fl)) B (by decide +kernel) rfl 13 (by decide) (by decide +kernel) rfl h_9 rfl dX12_export_60 ?_
    refine z_iconst (v := 1) B dX12_export_63 rfl ?_
    refine z_isub B dX12_export_64 ?_
    refine z_top (st1 := [.int (nI (fl - 1)), .ref x]) (congrArg (fun w9 : Int32 => ([.int w9, .ref x] : List Value)) (nI_sub (show 1 ≤ fl by omega))) ?_
    refine z_put (ref := "FlowExporterModel") (C := RX12) (T := TX12) (N := 54) (ci := 14) (v := .int (nI (fl - 1))) B (by decide +kernel) tyX12 tyX12_ok nmX12 rfl 13 (by decide) (by decide +kernel) rfl (Or.inl rfl) h_9 hx rfl rfl (Nat.le_of_ble_eq_true rfl) dX12_export_65 (fun Φ4 hΦ3 => ?_)
    have h_10 : Φ4 x = some (o_ 14 [.int v_1, .ref (x + 1), .ref (x + 2), .int v_2, .int v_3, .int (nI n_1), .int v_18, .int v_5, .ref (x + 3), .ref (x + 4), .int v_6, .long v_7, .ref (x + 5), .int (nI (fl - 1)), .int v_8, .long v_9, .long v_10, .long v_11, .long v_17, .ref (x + 6), .ref (x + 7), .int (nI pe), .ref (x + 8), .int (nI le), .ref (x + 9), .ref (x + 10), .int (nI qu), .ref (x + 11), .ref (x + 12), .ref (x + 13), .ref (x + 14), .ref (x + 15), .ref (x + 16), .int (nI n_2), .long v_13, .ref (x + 17), .ref (x + 18), .ref (x + 19), .ref (x + 20), .ref (x + 21), .ref (x + 22), .int (nI n_3), .ref (x + 23), .ref (x + 24), .int (nI n_4), .ref (x + 25), .int (nI il), .int (nI nx), .int ec, .int v_14, .int kn, .int v_15, .int nu, .long va]) := fset_at hΦ3
    have hI4 : Im G x (rd, NN, fl - 1, pe, le, nx, il, qu, kn, ec, nu, va) Φ4 := Im.put0 hI3 hΦ3 ⟨v_1, v_2, v_3, n_1, v_18, v_5, v_6, v_7, v_8, v_9, v_10, v_11, v_17, n_2, v_13, n_3, n_4, v_14, v_15, rfl, b_12, (show 1 ≤ n_1 by omega), (show n_1 ≤ 1024 by omega), (show (fl - 1) ≤ 12 by omega), (show pe ≤ 24 by omega), (show le ≤ 700 by omega), (show qu ≤ 12 by omega), (show n_2 ≤ 8 by omega), (show n_3 ≤ 24 by omega), (show n_4 ≤ 24 by omega), (show il ≤ 700 by omega), (show nx ≤ 701 by omega)⟩
    refine z_bipush (v := 8) B dX12_export_68 rfl ?_
    refine z_iload_n B dX12_export_70 rfl 2 rfl ?_
    refine z_imul B dX12_export_71 ?_
    refine z_top (st1 := [.int (nI (8 * f))]) (congrArg (fun w9 : Int32 => ([.int w9] : List Value)) (nI_mul 8 f)) ?_
    refine z_istore_n (lv' := [(3, .int (nI (8 * f))), (2, .int (nI n_6)), (0, .ref x), (1, .int (nI f))]) B dX12_export_72 rfl (Nat.le_of_ble_eq_true rfl) rfl ?_
    refine z_lv [0, 1, 2, 3] rfl ?_
    refine z_loop (α := Nat) (fun (a9 : Nat) Φi => Im G x (rd, NN, fl - 1, pe, le, nx, il, qu, kn, ec, nu, va) Φi ∧ Fr x (fun j9 => j9 = 5) Φ4 Φi ∧ (a9 ≤ 96) ∧ True) (fun a9 => [(3, .int (nI a9)), (2, .int (nI n_6)), (0, .ref x), (1, .int (nI f))]) (fun a9 => 96 - a9) ?_ (8 * f) ⟨hI4, fun _ _ => rfl, (show (8 * f) ≤ 96 by omega), trivial⟩
    rintro i_1 Φl1 ⟨hI5, hF2, b_15, -⟩ ih1
    replace hI5 : Im G x (rd, NN, fl - 1, pe, le, nx, il, qu, kn, ec, nu, va) Φl1 := hI5
    replace b_15 : i_1 ≤ 96 := b_15
    show Z p9 l e9 _ s9 m9 _ w9 t9 k9 _ G 4 73 [(3, .int (nI i_1)), (2, .int (nI n_6)), (0, .ref x), (1, .int (nI f))] [] Φl1 _ _ _
    refine z_iload_n B dX12_export_73 rfl 0 rfl ?_
    refine z_bipush (v := 8) B dX12_export_74 rfl ?_
    refine z_aload_n B dX12_export_76 rfl 2 rfl ?_
    have h_11 : Φl1 x = some (o_ 14 [.int v_1, .ref (x + 1), .ref (x + 2), .int v_2, .int v_3, .int (nI n_1), .int v_18, .int v_5, .ref (x + 3), .ref (x + 4), .int v_6, .long v_7, .ref (x + 5), .int (nI (fl - 1)), .int v_8, .long v_9, .long v_10, .long v_11, .long v_17, .ref (x + 6), .ref (x + 7), .int (nI pe), .ref (x + 8), .int (nI le), .ref (x + 9), .ref (x + 10), .int (nI qu), .ref (x + 11), .ref (x + 12), .ref (x + 13), .ref (x + 14), .ref (x + 15), .ref (x + 16), .int (nI n_2), .long v_13, .ref (x + 17), .ref (x + 18), .ref (x + 19), .ref (x + 20), .ref (x + 21), .ref (x + 22), .int (nI n_3), .ref (x + 23), .ref (x + 24), .int (nI n_4), .ref (x + 25), .int (nI il), .int (nI nx), .int ec, .int v_14, .int kn, .int v_15, .int nu, .long va]) := ((hF2 x (fun j9 h8 h7 => by have h6 : j9 = 5 := h7; omega)).trans h_10)
    refine z_get (ref := "FlowExporterModel") (C := RX12) (T := TX12) (N := 54) (ci := 14) (v := .int (nI (fl - 1))) B (by decide +kernel) rfl 13 (by decide) (by decide +kernel) rfl h_11 rfl dX12_export_77 ?_
    refine z_imul B dX12_export_80 ?_
    refine z_top (st1 := [.int (nI (8 * (fl - 1))), .int (nI i_1)]) (congrArg (fun w9 : Int32 => ([.int w9, .int (nI i_1)] : List Value)) (nI_mul 8 (fl - 1))) ?_
    refine z_icmp_ge (tgt := 105) B dX12_export_81 rfl (fun c_2 => ?_) (fun c_2 => ?_)
    · have e_3 : 8 * (fl - 1) ≤ i_1 := (nI_leI (a := 8 * (fl - 1)) (b := i_1) (by omega) (by omega)).mp c_2
      exact z_ret_v B dX12_export_105 ⟨rfl, rfl, ⟨fl - 1, pe, (show (fl - 1) + 1 = fl by omega), (show pe ≤ pe + 1 by omega), hI5⟩, (fun b9 h9 => ((hF2 b9 (fun j9 h8 h7 => h9 j9 h8 (show j9 = 0 ∨ j9 = 5 ∨ j9 = 6 ∨ j9 = 7 by have h6 : j9 = 5 := h7; omega))).trans ((fset_fr hΦ3 (fun h8 => h9 (0) h8 (show 0 = 0 ∨ 0 = 5 ∨ 0 = 6 ∨ 0 = 7 by omega))).trans ((fset_fr hΦ2 (fun h8 => h9 (0) h8 (show 0 = 0 ∨ 0 = 5 ∨ 0 = 6 ∨ 0 = 7 by omega))).trans ((fset_fr hΦ1 (fun h8 => h9 (0) h8 (show 0 = 0 ∨ 0 = 5 ∨ 0 = 6 ∨ 0 = 7 by omega))).trans ((hF1 b9 (fun j9 h8 h7 => (show False from h7).elim)).trans rfl))))))⟩
    · have e_4 : ¬ (8 * (fl - 1) ≤ i_1) := fun h9 => c_2 ((nI_leI (a := 8 * (fl - 1)) (b := i_1) (by omega) (by omega)).mpr h9)
      refine z_aload_n B dX12_export_84 rfl 2 rfl ?_
      refine z_get (ref := "FlowExporterModel") (C := RX12) (T := TX12) (N := 54) (ci := 14) (v := .ref (x + 5)) B (by decide +kernel) rfl 12 (by decide) (by decide +kernel) rfl h_11 rfl dX12_export_85 ?_
      refine z_iload_n B dX12_export_88 rfl 0 rfl ?_
      refine z_aload_n B dX12_export_89 rfl 2 rfl ?_
      refine z_get (ref := "FlowExporterModel") (C := RX12) (T := TX12) (N := 54) (ci := 14) (v := .ref (x + 5)) B (by decide +kernel) rfl 12 (by decide) (by decide +kernel) rfl h_11 rfl dX12_export_90 ?_
      refine z_iload_n B dX12_export_93 rfl 0 rfl ?_
      refine z_bipush (v := 8) B dX12_export_94 rfl ?_
      refine z_iadd B dX12_export_96 ?_
      refine z_top (st1 := [.int (nI (i_1 + 8)), .ref (x + 5), .int (nI i_1), .ref (x + 5)]) (congrArg (fun w9 : Int32 => ([.int w9, .ref (x + 5), .int (nI i_1), .ref (x + 5)] : List Value)) (nI_add i_1 8)) ?_
      obtain ⟨f_3, h_12, r_4⟩ := imk (k := 5) hI5
      replace r_4 : CC f_3 := r_4
      have h_13 : Φl1 (x + 5) = some (al_ G 96 f_3) := h_12
      refine z_lald B h_13 (vp_in_nI (by omega) (by omega)) dX12_export_97 ?_
      refine z_last B h_13 (Nat.le_trans hx (Nat.le_add_right x 5)) (vp_in_nI (by omega) (by omega)) dX12_export_98 (fun Φ5 hΦ4 => ?_)
      have h_14 : Φ5 (x + 5) = some (al_ G 96 (vp_updL f_3 (nI i_1).toNatClampNeg (f_3 (nI (i_1 + 8)).toNatClampNeg))) := fset_at hΦ4
      have hI6 : Im G x (rd, NN, fl - 1, pe, le, nx, il, qu, kn, ec, nu, va) Φ5 := Im.put (k := 5) hI5 hΦ4 ⟨_, rfl, CC.sh (i := (nI i_1).toNatClampNeg) r_4 (by rw [nI_clamp (by omega), nI_clamp (by omega)]) (by rw [nI_clamp (by omega)]; omega)⟩
      refine z_iinc (k := 0) (v := nI (i_1 + 1)) (lv' := [(3, .int (nI (i_1 + 1))), (2, .int (nI n_6)), (0, .ref x), (1, .int (nI f))]) B dX12_export_99 rfl (nI_add i_1 1) (Nat.le_of_ble_eq_true rfl) rfl ?_
      refine z_goto (tgt := 73) B dX12_export_102 rfl ?_
      refine z_lv [0, 1, 2, 3] rfl ?_
      exact ih1 (i_1 + 1) Φ5 (show 96 - (i_1 + 1) < 96 - i_1 by omega) ⟨hI6, (fun b9 h9 => ((fset_fr hΦ4 (fun h8 => h9 (5) h8 (show 5 = 5 by omega))).trans ((hF2 b9 (fun j9 h8 h7 => h9 j9 h8 (show j9 = 5 by have h6 : j9 = 5 := h7; omega))).trans rfl))), (show (i_1 + 1) ≤ 96 by omega), trivial⟩
  · refine z_aload_n B dX12_export_29 rfl 1 rfl ?_
    refine z_iload_n B dX12_export_30 rfl 2 rfl ?_
    refine z_iload_n B dX12_export_31 rfl 0 rfl ?_
    have h_15 : Φ1 x = some (o_ 14 [.int v_1, .ref (x + 1), .ref (x + 2), .int v_2, .int v_3, .int (nI n_1), .int v_4, .int v_5, .ref (x + 3), .ref (x + 4), .int v_6, .long v_7, .ref (x + 5), .int (nI fl), .int v_8, .long v_9, .long v_10, .long v_11, .long v_12, .ref (x + 6), .ref (x + 7), .int (nI pe), .ref (x + 8), .int (nI le), .ref (x + 9), .ref (x + 10), .int (nI qu), .ref (x + 11), .ref (x + 12), .ref (x + 13), .ref (x + 14), .ref (x + 15), .ref (x + 16), .int (nI n_2), .long v_13, .ref (x + 17), .ref (x + 18), .ref (x + 19), .ref (x + 20), .ref (x + 21), .ref (x + 22), .int (nI n_3), .ref (x + 23), .ref (x + 24), .int (nI n_4), .ref (x + 25), .int (nI il), .int (nI nx), .int ec, .int v_14, .int kn, .int v_15, .int nu, .long va]) := ((hF1 x (fun j9 h8 h7 => (show False from h7).elim)).trans h_2)
    refine z_callV (As := [.int (nI f), .int (nI n_6)]) (rest := []) B (r_appendRecord G l Φ1 sz x rd fl pe le nx il qu kn ec nu va f n_6 hx hI1 (show f < 12 by omega) (show n_6 < 4 by omega) (show pe < 24 by omega)) (cwV 2 B.1.2.2.2.2 gX12_export_X12_appendRecord rfl rfl rfl (by decide +kernel) ⟨Nat.le_of_ble_eq_true rfl, Nat.le_of_ble_eq_true rfl⟩) h_15 rfl rfl rfl rfl (Nat.le_of_ble_eq_true rfl) dX12_export_32 ⟨Nat.le_of_ble_eq_true rfl, Nat.le_of_ble_eq_true rfl⟩ (fun r_5 Φ6 sz2 st2 hp2 hs2 => ?_)
    obtain ⟨rfl, hq2, ⟨n_7, b_16, hI7⟩, hF3⟩ := hp2
    subst sz2
    replace hs2 : st2 = [] := hs2
    subst st2
    replace hI7 : Im G x (rd, NN, fl, n_7, le, nx, il, qu, kn, ec, nu, va) Φ6 := hI7
    replace b_16 : n_7 = pe + 1 := b_16
    refine z_goto (tgt := 48) B dX12_export_35 rfl ?_
    refine z_aload_n B dX12_export_48 rfl 1 rfl ?_
    refine z_dup B dX12_export_49 rfl ?_
    obtain ⟨v_19, v_20, v_21, n_8, v_22, v_23, v_24, v_25, v_26, v_27, v_28, v_29, v_30, n_9, v_31, n_10, n_11, v_32, v_33, h_16, b_28, b_17, b_18, b_19, b_20, b_21, b_22, b_23, b_24, b_25, b_26, b_27⟩ := im0 hI7
    replace b_17 : 1 ≤ n_8 := b_17
    replace b_18 : n_8 ≤ 1024 := b_18
    replace b_19 : fl ≤ 12 := b_19
    replace b_20 : n_7 ≤ 24 := b_20
    replace b_21 : le ≤ 700 := b_21
    replace b_22 : qu ≤ 12 := b_22
    replace b_23 : n_9 ≤ 8 := b_23
    replace b_24 : n_10 ≤ 24 := b_24
    replace b_25 : n_11 ≤ 24 := b_25
    replace b_26 : il ≤ 700 := b_26
    replace b_27 : nx ≤ 701 := b_27
    have h_17 : Φ6 x = some (o_ 14 [.int v_19, .ref (x + 1), .ref (x + 2), .int v_20, .int v_21, .int (nI n_8), .int v_22, .int v_23, .ref (x + 3), .ref (x + 4), .int v_24, .long v_25, .ref (x + 5), .int (nI fl), .int v_26, .long v_27, .long v_28, .long v_29, .long v_30, .ref (x + 6), .ref (x + 7), .int (nI n_7), .ref (x + 8), .int (nI le), .ref (x + 9), .ref (x + 10), .int (nI qu), .ref (x + 11), .ref (x + 12), .ref (x + 13), .ref (x + 14), .ref (x + 15), .ref (x + 16), .int (nI n_9), .long v_31, .ref (x + 17), .ref (x + 18), .ref (x + 19), .ref (x + 20), .ref (x + 21), .ref (x + 22), .int (nI n_10), .ref (x + 23), .ref (x + 24), .int (nI n_11), .ref (x + 25), .int (nI il), .int (nI nx), .int ec, .int v_32, .int kn, .int v_33, .int nu, .long va]) := h_16
    refine z_get (ref := "FlowExporterModel") (C := RX12) (T := TX12) (N := 54) (ci := 14) (v := .int v_22) B (by decide +kernel) rfl 6 (by decide) (by decide +kernel) rfl h_17 rfl dX12_export_50 ?_
    refine z_iconst (v := 1) B dX12_export_53 rfl ?_
    refine z_iadd B dX12_export_54 ?_
    refine z_fi (fun v_34 => ?_)
    refine z_put (ref := "FlowExporterModel") (C := RX12) (T := TX12) (N := 54) (ci := 14) (v := .int v_34) B (by decide +kernel) tyX12 tyX12_ok nmX12 rfl 6 (by decide) (by decide +kernel) rfl (Or.inl rfl) h_17 hx rfl rfl (Nat.le_of_ble_eq_true rfl) dX12_export_55 (fun Φ7 hΦ5 => ?_)
    have h_18 : Φ7 x = some (o_ 14 [.int v_19, .ref (x + 1), .ref (x + 2), .int v_20, .int v_21, .int (nI n_8), .int v_34, .int v_23, .ref (x + 3), .ref (x + 4), .int v_24, .long v_25, .ref (x + 5), .int (nI fl), .int v_26, .long v_27, .long v_28, .long v_29, .long v_30, .ref (x + 6), .ref (x + 7), .int (nI n_7), .ref (x + 8), .int (nI le), .ref (x + 9), .ref (x + 10), .int (nI qu), .ref (x + 11), .ref (x + 12), .ref (x + 13), .ref (x + 14), .ref (x + 15), .ref (x + 16), .int (nI n_9), .long v_31, .ref (x + 17), .ref (x + 18), .ref (x + 19), .ref (x + 20), .ref (x + 21), .ref (x + 22), .int (nI n_10), .ref (x + 23), .ref (x + 24), .int (nI n_11), .ref (x + 25), .int (nI il), .int (nI nx), .int ec, .int v_32, .int kn, .int v_33, .int nu, .long va]) := fset_at hΦ5
    have hI8 : Im G x (rd, NN, fl, n_7, le, nx, il, qu, kn, ec, nu, va) Φ7 := Im.put0 hI7 hΦ5 ⟨v_19, v_20, v_21, n_8, v_34, v_23, v_24, v_25, v_26, v_27, v_28, v_29, v_30, n_9, v_31, n_10, n_11, v_32, v_33, rfl, b_28, (show 1 ≤ n_8 by omega), (show n_8 ≤ 1024 by omega), (show fl ≤ 12 by omega), (show n_7 ≤ 24 by omega), (show le ≤ 700 by omega), (show qu ≤ 12 by omega), (show n_9 ≤ 8 by omega), (show n_10 ≤ 24 by omega), (show n_11 ≤ 24 by omega), (show il ≤ 700 by omega), (show nx ≤ 701 by omega)⟩
    refine z_aload_n B dX12_export_58 rfl 1 rfl ?_
    refine z_dup B dX12_export_59 rfl ?_
    refine z_get (ref := "FlowExporterModel") (C := RX12) (T := TX12) (N := 54) (ci := 14) (v := .int (nI fl)) B (by decide +kernel) rfl 13 (by decide) (by decide +kernel) rfl h_18 rfl dX12_export_60 ?_
    refine z_iconst (v := 1) B dX12_export_63 rfl ?_
    refine z_isub B dX12_export_64 ?_
    refine z_top (st1 := [.int (nI (fl - 1)), .ref x]) (congrArg (fun w9 : Int32 => ([.int w9, .ref x] : List Value)) (nI_sub (show 1 ≤ fl by omega))) ?_
    refine z_put (ref := "FlowExporterModel") (C := RX12) (T := TX12) (N := 54) (ci := 14) (v := .int (nI (fl - 1))) B (by decide +kernel) tyX12 tyX12_ok nmX12 rfl 13 (by decide) (by decide +kernel) rfl (Or.inl rfl) h_18 hx rfl rfl (Nat.le_of_ble_eq_true rfl) dX12_export_65 (fun Φ8 hΦ6 => ?_)
    have h_19 : Φ8 x = some (o_ 14 [.int v_19, .ref (x + 1), .ref (x + 2), .int v_20, .int v_21, .int (nI n_8), .int v_34, .int v_23, .ref (x + 3), .ref (x + 4), .int v_24, .long v_25, .ref (x + 5), .int (nI (fl - 1)), .int v_26, .long v_27, .long v_28, .long v_29, .long v_30, .ref (x + 6), .ref (x + 7), .int (nI n_7), .ref (x + 8), .int (nI le), .ref (x + 9), .ref (x + 10), .int (nI qu), .ref (x + 11), .ref (x + 12), .ref (x + 13), .ref (x + 14), .ref (x + 15), .ref (x + 16), .int (nI n_9), .long v_31, .ref (x + 17), .ref (x + 18), .ref (x + 19), .ref (x + 20), .ref (x + 21), .ref (x + 22), .int (nI n_10), .ref (x + 23), .ref (x + 24), .int (nI n_11), .ref (x + 25), .int (nI il), .int (nI nx), .int ec, .int v_32, .int kn, .int v_33, .int nu, .long va]) := fset_at hΦ6
    have hI9 : Im G x (rd, NN, fl - 1, n_7, le, nx, il, qu, kn, ec, nu, va) Φ8 := Im.put0 hI8 hΦ6 ⟨v_19, v_20, v_21, n_8, v_34, v_23, v_24, v_25, v_26, v_27, v_28, v_29, v_30, n_9, v_31, n_10, n_11, v_32, v_33, rfl, b_28, (show 1 ≤ n_8 by omega), (show n_8 ≤ 1024 by omega), (show (fl - 1) ≤ 12 by omega), (show n_7 ≤ 24 by omega), (show le ≤ 700 by omega), (show qu ≤ 12 by omega), (show n_9 ≤ 8 by omega), (show n_10 ≤ 24 by omega), (show n_11 ≤ 24 by omega), (show il ≤ 700 by omega), (show nx ≤ 701 by omega)⟩
    refine z_bipush (v := 8) B dX12_export_68 rfl ?_
    refine z_iload_n B dX12_export_70 rfl 2 rfl ?_
    refine z_imul B dX12_export_71 ?_
    refine z_top (st1 := [.int (nI (8 * f))]) (congrArg (fun w9 : Int32 => ([.int w9] : List Value)) (nI_mul 8 f)) ?_
    refine z_istore_n (lv' := [(3, .int (nI (8 * f))), (2, .int (nI n_6)), (0, .ref x), (1, .int (nI f))]) B dX12_export_72 rfl (Nat.le_of_ble_eq_true rfl) rfl ?_
    refine z_lv [0, 1, 2, 3] rfl ?_
    refine z_loop (α := Nat) (fun (a9 : Nat) Φi => Im G x (rd, NN, fl - 1, n_7, le, nx, il, qu, kn, ec, nu, va) Φi ∧ Fr x (fun j9 => j9 = 5) Φ8 Φi ∧ (a9 ≤ 96) ∧ True) (fun a9 => [(3, .int (nI a9)), (2, .int (nI n_6)), (0, .ref x), (1, .int (nI f))]) (fun a9 => 96 - a9) ?_ (8 * f) ⟨hI9, fun _ _ => rfl, (show (8 * f) ≤ 96 by omega), trivial⟩
    rintro i_2 Φl2 ⟨hI10, hF4, b_29, -⟩ ih2
    replace hI10 : Im G x (rd, NN, fl - 1, n_7, le, nx, il, qu, kn, ec, nu, va) Φl2 := hI10
    replace b_29 : i_2 ≤ 96 := b_29
    show Z p9 l e9 _ s9 m9 _ w9 t9 k9 _ G 4 73 [(3, .int (nI i_2)), (2, .int (nI n_6)), (0, .ref x), (1, .int (nI f))] [] Φl2 _ _ _
    refine z_iload_n B dX12_export_73 rfl 0 rfl ?_
    refine z_bipush (v := 8) B dX12_export_74 rfl ?_
    refine z_aload_n B dX12_export_76 rfl 2 rfl ?_
    have h_20 : Φl2 x = some (o_ 14 [.int v_19, .ref (x + 1), .ref (x + 2), .int v_20, .int v_21, .int (nI n_8), .int v_34, .int v_23, .ref (x + 3), .ref (x + 4), .int v_24, .long v_25, .ref (x + 5), .int (nI (fl - 1)), .int v_26, .long v_27, .long v_28, .long v_29, .long v_30, .ref (x + 6), .ref (x + 7), .int (nI n_7), .ref (x + 8), .int (nI le), .ref (x + 9), .ref (x + 10), .int (nI qu), .ref (x + 11), .ref (x + 12), .ref (x + 13), .ref (x + 14), .ref (x + 15), .ref (x + 16), .int (nI n_9), .long v_31, .ref (x + 17), .ref (x + 18), .ref (x + 19), .ref (x + 20), .ref (x + 21), .ref (x + 22), .int (nI n_10), .ref (x + 23), .ref (x + 24), .int (nI n_11), .ref (x + 25), .int (nI il), .int (nI nx), .int ec, .int v_32, .int kn, .int v_33, .int nu, .long va]) := ((hF4 x (fun j9 h8 h7 => by have h6 : j9 = 5 := h7; omega)).trans h_19)
    refine z_get (ref := "FlowExporterModel") (C := RX12) (T := TX12) (N := 54) (ci := 14) (v := .int (nI (fl - 1))) B (by decide +kernel) rfl 13 (by decide) (by decide +kernel) rfl h_20 rfl dX12_export_77 ?_
    refine z_imul B dX12_export_80 ?_
    refine z_top (st1 := [.int (nI (8 * (fl - 1))), .int (nI i_2)]) (congrArg (fun w9 : Int32 => ([.int w9, .int (nI i_2)] : List Value)) (nI_mul 8 (fl - 1))) ?_
    refine z_icmp_ge (tgt := 105) B dX12_export_81 rfl (fun c_3 => ?_) (fun c_3 => ?_)
    · have e_5 : 8 * (fl - 1) ≤ i_2 := (nI_leI (a := 8 * (fl - 1)) (b := i_2) (by omega) (by omega)).mp c_3
      exact z_ret_v B dX12_export_105 ⟨rfl, rfl, ⟨fl - 1, n_7, (show (fl - 1) + 1 = fl by omega), (show n_7 ≤ pe + 1 by omega), hI10⟩, (fun b9 h9 => ((hF4 b9 (fun j9 h8 h7 => h9 j9 h8 (show j9 = 0 ∨ j9 = 5 ∨ j9 = 6 ∨ j9 = 7 by have h6 : j9 = 5 := h7; omega))).trans ((fset_fr hΦ6 (fun h8 => h9 (0) h8 (show 0 = 0 ∨ 0 = 5 ∨ 0 = 6 ∨ 0 = 7 by omega))).trans ((fset_fr hΦ5 (fun h8 => h9 (0) h8 (show 0 = 0 ∨ 0 = 5 ∨ 0 = 6 ∨ 0 = 7 by omega))).trans ((hF3 b9 (fun j9 h8 h7 => h9 j9 h8 (show j9 = 0 ∨ j9 = 5 ∨ j9 = 6 ∨ j9 = 7 by have h6 : j9 = 0 ∨ j9 = 6 ∨ j9 = 7 := h7; omega))).trans ((hF1 b9 (fun j9 h8 h7 => (show False from h7).elim)).trans rfl))))))⟩
    · have e_6 : ¬ (8 * (fl - 1) ≤ i_2) := fun h9 => c_3 ((nI_leI (a := 8 * (fl - 1)) (b := i_2) (by omega) (by omega)).mpr h9)
      refine z_aload_n B dX12_export_84 rfl 2 rfl ?_
      refine z_get (ref := "FlowExporterModel") (C := RX12) (T := TX12) (N := 54) (ci := 14) (v := .ref (x + 5)) B (by decide +kernel) rfl 12 (by decide) (by decide +kernel) rfl h_20 rfl dX12_export_85 ?_
      refine z_iload_n B dX12_export_88 rfl 0 rfl ?_
      refine z_aload_n B dX12_export_89 rfl 2 rfl ?_
      refine z_get (ref := "FlowExporterModel") (C := RX12) (T := TX12) (N := 54) (ci := 14) (v := .ref (x + 5)) B (by decide +kernel) rfl 12 (by decide) (by decide +kernel) rfl h_20 rfl dX12_export_90 ?_
      refine z_iload_n B dX12_export_93 rfl 0 rfl ?_
      refine z_bipush (v := 8) B dX12_export_94 rfl ?_
      refine z_iadd B dX12_export_96 ?_
      refine z_top (st1 := [.int (nI (i_2 + 8)), .ref (x + 5), .int (nI i_2), .ref (x + 5)]) (congrArg (fun w9 : Int32 => ([.int w9, .ref (x + 5), .int (nI i_2), .ref (x + 5)] : List Value)) (nI_add i_2 8)) ?_
      obtain ⟨f_4, h_21, r_6⟩ := imk (k := 5) hI10
      replace r_6 : CC f_4 := r_6
      have h_22 : Φl2 (x + 5) = some (al_ G 96 f_4) := h_21
      refine z_lald B h_22 (vp_in_nI (by omega) (by omega)) dX12_export_97 ?_
      refine z_last B h_22 (Nat.le_trans hx (Nat.le_add_right x 5)) (vp_in_nI (by omega) (by omega)) dX12_export_98 (fun Φ9 hΦ7 => ?_)
      have h_23 : Φ9 (x + 5) = some (al_ G 96 (vp_updL f_4 (nI i_2).toNatClampNeg (f_4 (nI (i_2 + 8)).toNatClampNeg))) := fset_at hΦ7
      have hI11 : Im G x (rd, NN, fl - 1, n_7, le, nx, il, qu, kn, ec, nu, va) Φ9 := Im.put (k := 5) hI10 hΦ7 ⟨_, rfl, CC.sh (i := (nI i_2).toNatClampNeg) r_6 (by rw [nI_clamp (by omega), nI_clamp (by omega)]) (by rw [nI_clamp (by omega)]; omega)⟩
      refine z_iinc (k := 0) (v := nI (i_2 + 1)) (lv' := [(3, .int (nI (i_2 + 1))), (2, .int (nI n_6)), (0, .ref x), (1, .int (nI f))]) B dX12_export_99 rfl (nI_add i_2 1) (Nat.le_of_ble_eq_true rfl) rfl ?_
      refine z_goto (tgt := 73) B dX12_export_102 rfl ?_
      refine z_lv [0, 1, 2, 3] rfl ?_
      exact ih2 (i_2 + 1) Φ9 (show 96 - (i_2 + 1) < 96 - i_2 by omega) ⟨hI11, (fun b9 h9 => ((fset_fr hΦ7 (fun h8 => h9 (5) h8 (show 5 = 5 by omega))).trans ((hF4 b9 (fun j9 h8 h7 => h9 j9 h8 (show j9 = 5 by have h6 : j9 = 5 := h7; omega))).trans rfl))), (show (i_2 + 1) ≤ 96 by omega), trivial⟩

set_option maxHeartbeats 4000000 in
set_option maxRecDepth 100000 in
theorem r_exportAll (G : EnvG) (l : Launch) (Φ : Hm) (sz x : Nat) (rd : (Nat → Int32) → Prop) (fl : Nat) (pe : Nat) (le : Nat) (nx : Nat) (il : Nat) (qu : Nat) (kn : Int32) (ec : Int32) (nu : Int32) (va : Int64)  (hx : G.2.2.2 ≤ x) (hI : Im G x (rd, NN, fl, pe, le, nx, il, qu, kn, ec, nu, va) Φ) (hp : pe + fl ≤ 24) : Ct G l yX12_exportAll wsX12_exportAll ({ frames := 5, cells := 0, slots := 0, locals := 111 }) 0 0 [.ref x] Φ sz (fun v Φ1 sz1 => (∃ r9 : Int32, v = some (.int r9)) ∧ sz1 = sz ∧ (∃ (fl1 : Nat) (pe1 : Nat), (fl1 = 0) ∧ (pe1 ≤ pe + fl) ∧ Im G x (rd, NN, fl1, pe1, le, nx, il, qu, kn, ec, nu, va) Φ1) ∧ Fr x (fun j9 => j9 = 0 ∨ j9 = 5 ∨ j9 = 6 ∨ j9 = 7) Φ Φ1) := by
  refine Ct.of (cc := cX12_exportAll) (maxL := 2) (ret := (some .int)) (by decide) rfl (Nat.le_of_ble_eq_true rfl) ?_
  intro p9 e9 s9 m9 w9 t9 k9 B
  show Z p9 l e9 _ s9 m9 _ w9 t9 k9 _ G 2 0 [(0, .ref x)] [] Φ sz 0 0
  refine z_aload_n B dX12_exportAll_0 rfl 0 rfl ?_
  obtain ⟨v_1, v_2, v_3, n_1, v_4, v_5, v_6, v_7, v_8, v_9, v_10, v_11, v_12, n_2, v_13, n_3, n_4, v_14, v_15, h_1, b_12, b_1, b_2, b_3, b_4, b_5, b_6, b_7, b_8, b_9, b_10, b_11⟩ := im0 hI
  replace b_1 : 1 ≤ n_1 := b_1
  replace b_2 : n_1 ≤ 1024 := b_2
  replace b_3 : fl ≤ 12 := b_3
  replace b_4 : pe ≤ 24 := b_4
  replace b_5 : le ≤ 700 := b_5
  replace b_6 : qu ≤ 12 := b_6
  replace b_7 : n_2 ≤ 8 := b_7
  replace b_8 : n_3 ≤ 24 := b_8
  replace b_9 : n_4 ≤ 24 := b_9
  replace b_10 : il ≤ 700 := b_10
  replace b_11 : nx ≤ 701 := b_11
  have h_2 : Φ x = some (o_ 14 [.int v_1, .ref (x + 1), .ref (x + 2), .int v_2, .int v_3, .int (nI n_1), .int v_4, .int v_5, .ref (x + 3), .ref (x + 4), .int v_6, .long v_7, .ref (x + 5), .int (nI fl), .int v_8, .long v_9, .long v_10, .long v_11, .long v_12, .ref (x + 6), .ref (x + 7), .int (nI pe), .ref (x + 8), .int (nI le), .ref (x + 9), .ref (x + 10), .int (nI qu), .ref (x + 11), .ref (x + 12), .ref (x + 13), .ref (x + 14), .ref (x + 15), .ref (x + 16), .int (nI n_2), .long v_13, .ref (x + 17), .ref (x + 18), .ref (x + 19), .ref (x + 20), .ref (x + 21), .ref (x + 22), .int (nI n_3), .ref (x + 23), .ref (x + 24), .int (nI n_4), .ref (x + 25), .int (nI il), .int (nI nx), .int ec, .int v_14, .int kn, .int v_15, .int nu, .long va]) := h_1
  refine z_get (ref := "FlowExporterModel") (C := RX12) (T := TX12) (N := 54) (ci := 14) (v := .int (nI fl)) B (by decide +kernel) rfl 13 (by decide) (by decide +kernel) rfl h_2 rfl dX12_exportAll_1 ?_
  refine z_istore_n (lv' := [(1, .int (nI fl)), (0, .ref x)]) B dX12_exportAll_4 rfl (Nat.le_of_ble_eq_true rfl) rfl ?_
  refine z_lv [0, 1] rfl ?_
  refine z_loop (α := Nat × Nat) (fun (a9 : Nat × Nat) Φi => Im G x (rd, NN, a9.1, a9.2, le, nx, il, qu, kn, ec, nu, va) Φi ∧ Fr x (fun j9 => j9 = 0 ∨ j9 = 5 ∨ j9 = 6 ∨ j9 = 7) Φ Φi ∧ (a9.2 + a9.1 ≤ pe + fl) ∧ True) (fun a9 => [(1, .int (nI fl)), (0, .ref x)]) (fun a9 => a9.1) ?_ (fl, pe) ⟨hI, fun _ _ => rfl, (show pe + fl ≤ pe + fl by omega), trivial⟩
  rintro ⟨i_1, i_2⟩ Φl1 ⟨hI1, hF1, b_13, -⟩ ih1
  replace hI1 : Im G x (rd, NN, i_1, i_2, le, nx, il, qu, kn, ec, nu, va) Φl1 := hI1
  replace b_13 : i_2 + i_1 ≤ pe + fl := b_13
  show Z p9 l e9 _ s9 m9 _ w9 t9 k9 _ G 2 5 [(1, .int (nI fl)), (0, .ref x)] [] Φl1 _ _ _
  refine z_aload_n B dX12_exportAll_5 rfl 1 rfl ?_
  obtain ⟨v_16, v_17, v_18, n_5, v_19, v_20, v_21, v_22, v_23, v_24, v_25, v_26, v_27, n_6, v_28, n_7, n_8, v_29, v_30, h_3, b_25, b_14, b_15, b_16, b_17, b_18, b_19, b_20, b_21, b_22, b_23, b_24⟩ := im0 hI1
  replace b_14 : 1 ≤ n_5 := b_14
  replace b_15 : n_5 ≤ 1024 := b_15
  replace b_16 : i_1 ≤ 12 := b_16
  replace b_17 : i_2 ≤ 24 := b_17
  replace b_18 : le ≤ 700 := b_18
  replace b_19 : qu ≤ 12 := b_19
  replace b_20 : n_6 ≤ 8 := b_20
  replace b_21 : n_7 ≤ 24 := b_21
  replace b_22 : n_8 ≤ 24 := b_22
  replace b_23 : il ≤ 700 := b_23
  replace b_24 : nx ≤ 701 := b_24
  have h_4 : Φl1 x = some (o_ 14 [.int v_16, .ref (x + 1), .ref (x + 2), .int v_17, .int v_18, .int (nI n_5), .int v_19, .int v_20, .ref (x + 3), .ref (x + 4), .int v_21, .long v_22, .ref (x + 5), .int (nI i_1), .int v_23, .long v_24, .long v_25, .long v_26, .long v_27, .ref (x + 6), .ref (x + 7), .int (nI i_2), .ref (x + 8), .int (nI le), .ref (x + 9), .ref (x + 10), .int (nI qu), .ref (x + 11), .ref (x + 12), .ref (x + 13), .ref (x + 14), .ref (x + 15), .ref (x + 16), .int (nI n_6), .long v_28, .ref (x + 17), .ref (x + 18), .ref (x + 19), .ref (x + 20), .ref (x + 21), .ref (x + 22), .int (nI n_7), .ref (x + 23), .ref (x + 24), .int (nI n_8), .ref (x + 25), .int (nI il), .int (nI nx), .int ec, .int v_29, .int kn, .int v_30, .int nu, .long va]) := h_3
  refine z_get (ref := "FlowExporterModel") (C := RX12) (T := TX12) (N := 54) (ci := 14) (v := .int (nI i_1)) B (by decide +kernel) rfl 13 (by decide) (by decide +kernel) rfl h_4 rfl dX12_exportAll_6 ?_
  refine z_if_le (tgt := 20) B dX12_exportAll_9 rfl (fun c_1 => ?_) (fun c_1 => ?_)
  · have e_1 : i_1 ≤ 0 := (nI_leI (a := i_1) (b := 0) (by omega) (by omega)).mp c_1
    refine z_iload_n B dX12_exportAll_20 rfl 0 rfl ?_
    exact z_ret_i B dX12_exportAll_21 ⟨⟨_, rfl⟩, rfl, ⟨i_1, i_2, (show i_1 = 0 by omega), (show i_2 ≤ pe + fl by omega), hI1⟩, (fun b9 h9 => ((hF1 b9 (fun j9 h8 h7 => h9 j9 h8 (show j9 = 0 ∨ j9 = 5 ∨ j9 = 6 ∨ j9 = 7 by have h6 : j9 = 0 ∨ j9 = 5 ∨ j9 = 6 ∨ j9 = 7 := h7; omega))).trans rfl))⟩
  · have e_2 : ¬ (i_1 ≤ 0) := fun h9 => c_1 ((nI_leI (a := i_1) (b := 0) (by omega) (by omega)).mpr h9)
    refine z_aload_n B dX12_exportAll_12 rfl 1 rfl ?_
    refine z_iconst (v := 0) B dX12_exportAll_13 rfl ?_
    refine z_callV (As := [.int 0]) (rest := []) B (r_export G l Φl1 sz x rd i_1 i_2 le nx il qu kn ec nu va 0 hx hI1 (show 0 < i_1 by omega) (show i_2 < 24 by omega)) (cwV 1 B.1.2.2.2.2 gX12_exportAll_X12_export rfl rfl rfl (by decide +kernel) ⟨Nat.le_of_ble_eq_true rfl, Nat.le_of_ble_eq_true rfl⟩) h_4 rfl rfl rfl rfl (Nat.le_of_ble_eq_true rfl) dX12_exportAll_14 ⟨Nat.le_of_ble_eq_true rfl, Nat.le_of_ble_eq_true rfl⟩ (fun r_1 Φ1 sz1 st1 hp1 hs1 => ?_)
    obtain ⟨rfl, hq1, ⟨n_9, n_10, b_26, b_27, hI2⟩, hF2⟩ := hp1
    subst sz1
    replace hs1 : st1 = [] := hs1
    subst st1
    replace hI2 : Im G x (rd, NN, n_9, n_10, le, nx, il, qu, kn, ec, nu, va) Φ1 := hI2
    replace b_26 : n_9 + 1 = i_1 := b_26
    replace b_27 : n_10 ≤ i_2 + 1 := b_27
    refine z_goto (tgt := 5) B dX12_exportAll_17 rfl ?_
    refine z_lv [0, 1] rfl ?_
    exact ih1 (n_9, n_10) Φ1 (show n_9 < i_1 by omega) ⟨hI2, (fun b9 h9 => ((hF2 b9 (fun j9 h8 h7 => h9 j9 h8 (show j9 = 0 ∨ j9 = 5 ∨ j9 = 6 ∨ j9 = 7 by have h6 : j9 = 0 ∨ j9 = 5 ∨ j9 = 6 ∨ j9 = 7 := h7; omega))).trans ((hF1 b9 (fun j9 h8 h7 => h9 j9 h8 (show j9 = 0 ∨ j9 = 5 ∨ j9 = 6 ∨ j9 = 7 by have h6 : j9 = 0 ∨ j9 = 5 ∨ j9 = 6 ∨ j9 = 7 := h7; omega))).trans rfl))), (show n_10 + n_9 ≤ pe + fl by omega), trivial⟩

set_option maxHeartbeats 4000000 in
set_option maxRecDepth 100000 in
theorem r_makeRoom (G : EnvG) (l : Launch) (Φ : Hm) (sz x : Nat) (rd : (Nat → Int32) → Prop) (fl : Nat) (pe : Nat) (le : Nat) (nx : Nat) (il : Nat) (qu : Nat) (kn : Int32) (ec : Int32) (nu : Int32) (va : Int64)  (hx : G.2.2.2 ≤ x) (hI : Im G x (rd, NN, fl, pe, le, nx, il, qu, kn, ec, nu, va) Φ) (hp : pe < 24) : Ct G l yX12_makeRoom wsX12_makeRoom ({ frames := 5, cells := 0, slots := 0, locals := 111 }) 0 0 [.ref x] Φ sz (fun v Φ1 sz1 => (v = none) ∧ sz1 = sz ∧ (∃ (fl1 : Nat) (pe1 : Nat), (fl1 ≤ 11) ∧ (pe1 ≤ pe + 1) ∧ Im G x (rd, NN, fl1, pe1, le, nx, il, qu, kn, ec, nu, va) Φ1) ∧ Fr x (fun j9 => j9 = 0 ∨ j9 = 5 ∨ j9 = 6 ∨ j9 = 7) Φ Φ1) := by
  refine Ct.of (cc := cX12_makeRoom) (maxL := 3) (ret := none) (by decide) rfl (Nat.le_of_ble_eq_true rfl) ?_
  intro p9 e9 s9 m9 w9 t9 k9 B
  show Z p9 l e9 _ s9 m9 _ w9 t9 k9 _ G 3 0 [(0, .ref x)] [] Φ sz 0 0
  refine z_aload_n B dX12_makeRoom_0 rfl 0 rfl ?_
  obtain ⟨v_1, v_2, v_3, n_1, v_4, v_5, v_6, v_7, v_8, v_9, v_10, v_11, v_12, n_2, v_13, n_3, n_4, v_14, v_15, h_1, b_12, b_1, b_2, b_3, b_4, b_5, b_6, b_7, b_8, b_9, b_10, b_11⟩ := im0 hI
  replace b_1 : 1 ≤ n_1 := b_1
  replace b_2 : n_1 ≤ 1024 := b_2
  replace b_3 : fl ≤ 12 := b_3
  replace b_4 : pe ≤ 24 := b_4
  replace b_5 : le ≤ 700 := b_5
  replace b_6 : qu ≤ 12 := b_6
  replace b_7 : n_2 ≤ 8 := b_7
  replace b_8 : n_3 ≤ 24 := b_8
  replace b_9 : n_4 ≤ 24 := b_9
  replace b_10 : il ≤ 700 := b_10
  replace b_11 : nx ≤ 701 := b_11
  have h_2 : Φ x = some (o_ 14 [.int v_1, .ref (x + 1), .ref (x + 2), .int v_2, .int v_3, .int (nI n_1), .int v_4, .int v_5, .ref (x + 3), .ref (x + 4), .int v_6, .long v_7, .ref (x + 5), .int (nI fl), .int v_8, .long v_9, .long v_10, .long v_11, .long v_12, .ref (x + 6), .ref (x + 7), .int (nI pe), .ref (x + 8), .int (nI le), .ref (x + 9), .ref (x + 10), .int (nI qu), .ref (x + 11), .ref (x + 12), .ref (x + 13), .ref (x + 14), .ref (x + 15), .ref (x + 16), .int (nI n_2), .long v_13, .ref (x + 17), .ref (x + 18), .ref (x + 19), .ref (x + 20), .ref (x + 21), .ref (x + 22), .int (nI n_3), .ref (x + 23), .ref (x + 24), .int (nI n_4), .ref (x + 25), .int (nI il), .int (nI nx), .int ec, .int v_14, .int kn, .int v_15, .int nu, .long va]) := h_1
  refine z_get (ref := "FlowExporterModel") (C := RX12) (T := TX12) (N := 54) (ci := 14) (v := .int (nI fl)) B (by decide +kernel) rfl 13 (by decide) (by decide +kernel) rfl h_2 rfl dX12_makeRoom_1 ?_
  refine z_bipush (v := 12) B dX12_makeRoom_4 rfl ?_
  refine z_icmp_ge (tgt := 10) B dX12_makeRoom_6 rfl (fun c_1 => ?_) (fun c_1 => ?_)
  · have e_1 : 12 ≤ fl := (nI_leI (a := 12) (b := fl) (by omega) (by omega)).mp c_1
    refine z_iconst (v := 0) B dX12_makeRoom_10 rfl ?_
    refine z_istore_n (lv' := [(1, .int 0), (0, .ref x)]) B dX12_makeRoom_11 rfl (Nat.le_of_ble_eq_true rfl) rfl ?_
    refine z_iconst (v := 1) B dX12_makeRoom_12 rfl ?_
    refine z_istore_n (lv' := [(2, .int 1), (1, .int 0), (0, .ref x)]) B dX12_makeRoom_13 rfl (Nat.le_of_ble_eq_true rfl) rfl ?_
    refine z_lv [0, 1, 2] rfl ?_
    refine z_loop (α := Nat × Nat) (fun (a9 : Nat × Nat) Φi => Im G x (rd, NN, fl, pe, le, nx, il, qu, kn, ec, nu, va) Φi ∧ Fr x (fun j9 => False) Φ Φi ∧ (a9.1 ≤ 12) ∧ (a9.2 < 12) ∧ True) (fun a9 => [(2, .int (nI (a9.1))), (1, .int (nI (a9.2))), (0, .ref x)]) (fun a9 => 12 - a9.1) ?_ (1, 0) ⟨hI, fun _ _ => rfl, (show 1 ≤ 12 by omega), (show 0 < 12 by omega), trivial⟩
    rintro ⟨i_1, i_2⟩ Φl1 ⟨hI1, hF1, b_13, b_14, -⟩ ih1
    replace hI1 : Im G x (rd, NN, fl, pe, le, nx, il, qu, kn, ec, nu, va) Φl1 := hI1
    replace b_13 : i_1 ≤ 12 := b_13
    replace b_14 : i_2 < 12 := b_14
    show Z p9 l e9 _ s9 m9 _ w9 t9 k9 _ G 3 14 [(2, .int (nI i_1)), (1, .int (nI i_2)), (0, .ref x)] [] Φl1 _ _ _
    refine z_iload_n B dX12_makeRoom_14 rfl 0 rfl ?_
    refine z_aload_n B dX12_makeRoom_15 rfl 2 rfl ?_
    have h_3 : Φl1 x = some (o_ 14 [.int v_1, .ref (x + 1), .ref (x + 2), .int v_2, .int v_3, .int (nI n_1), .int v_4, .int v_5, .ref (x + 3), .ref (x + 4), .int v_6, .long v_7, .ref (x + 5), .int (nI fl), .int v_8, .long v_9, .long v_10, .long v_11, .long v_12, .ref (x + 6), .ref (x + 7), .int (nI pe), .ref (x + 8), .int (nI le), .ref (x + 9), .ref (x + 10), .int (nI qu), .ref (x + 11), .ref (x + 12), .ref (x + 13), .ref (x + 14), .ref (x + 15), .ref (x + 16), .int (nI n_2), .long v_13, .ref (x + 17), .ref (x + 18), .ref (x + 19), .ref (x + 20), .ref (x + 21), .ref (x + 22), .int (nI n_3), .ref (x + 23), .ref (x + 24), .int (nI n_4), .ref (x + 25), .int (nI il), .int (nI nx), .int ec, .int v_14, .int kn, .int v_15, .int nu, .long va]) := ((hF1 x (fun j9 h8 h7 => (show False from h7).elim)).trans h_2)
    refine z_get (ref := "FlowExporterModel") (C := RX12) (T := TX12) (N := 54) (ci := 14) (v := .int (nI fl)) B (by decide +kernel) rfl 13 (by decide) (by decide +kernel) rfl h_3 rfl dX12_makeRoom_16 ?_
    refine z_icmp_ge (tgt := 58) B dX12_makeRoom_19 rfl (fun c_2 => ?_) (fun c_2 => ?_)
    · have e_2 : fl ≤ i_1 := (nI_leI (a := fl) (b := i_1) (by omega) (by omega)).mp c_2
      refine z_aload_n B dX12_makeRoom_58 rfl 2 rfl ?_
      refine z_iload_n B dX12_makeRoom_59 rfl 1 rfl ?_
      refine z_callV (As := [.int (nI i_2)]) (rest := []) B (r_export G l Φl1 sz x rd fl pe le nx il qu kn ec nu va i_2 hx hI1 (show i_2 < fl by omega) (show pe < 24 by omega)) (cwV 1 B.1.2.2.2.2 gX12_makeRoom_X12_export rfl rfl rfl (by decide +kernel) ⟨Nat.le_of_ble_eq_true rfl, Nat.le_of_ble_eq_true rfl⟩) h_3 rfl rfl rfl rfl (Nat.le_of_ble_eq_true rfl) dX12_makeRoom_60 ⟨Nat.le_of_ble_eq_true rfl, Nat.le_of_ble_eq_true rfl⟩ (fun r_1 Φ1 sz1 st1 hp1 hs1 => ?_)
      obtain ⟨rfl, hq1, ⟨n_5, n_6, b_15, b_16, hI2⟩, hF2⟩ := hp1
      subst sz1
      replace hs1 : st1 = [] := hs1
      subst st1
      replace hI2 : Im G x (rd, NN, n_5, n_6, le, nx, il, qu, kn, ec, nu, va) Φ1 := hI2
      replace b_15 : n_5 + 1 = fl := b_15
      replace b_16 : n_6 ≤ pe + 1 := b_16
      exact z_ret_v B dX12_makeRoom_63 ⟨rfl, rfl, ⟨n_5, n_6, (show n_5 ≤ 11 by omega), (show n_6 ≤ pe + 1 by omega), hI2⟩, (fun b9 h9 => ((hF2 b9 (fun j9 h8 h7 => h9 j9 h8 (show j9 = 0 ∨ j9 = 5 ∨ j9 = 6 ∨ j9 = 7 by have h6 : j9 = 0 ∨ j9 = 5 ∨ j9 = 6 ∨ j9 = 7 := h7; omega))).trans ((hF1 b9 (fun j9 h8 h7 => (show False from h7).elim)).trans rfl)))⟩
    · have e_3 : ¬ (fl ≤ i_1) := fun h9 => c_2 ((nI_leI (a := fl) (b := i_1) (by omega) (by omega)).mpr h9)
      refine z_aload_n B dX12_makeRoom_22 rfl 2 rfl ?_
      refine z_get (ref := "FlowExporterModel") (C := RX12) (T := TX12) (N := 54) (ci := 14) (v := .ref (x + 5)) B (by decide +kernel) rfl 12 (by decide) (by decide +kernel) rfl h_3 rfl dX12_makeRoom_23 ?_
      refine z_bipush (v := 8) B dX12_makeRoom_26 rfl ?_
      refine z_iload_n B dX12_makeRoom_28 rfl 0 rfl ?_
      refine z_imul B dX12_makeRoom_29 ?_
      refine z_top (st1 := [.int (nI (8 * i_1)), .ref (x + 5)]) (congrArg (fun w9 : Int32 => ([.int w9, .ref (x + 5)] : List Value)) (nI_mul 8 i_1)) ?_
      refine z_bipush (v := 7) B dX12_makeRoom_30 rfl ?_
      refine z_iadd B dX12_makeRoom_32 ?_
      refine z_top (st1 := [.int (nI (8 * i_1 + 7)), .ref (x + 5)]) (congrArg (fun w9 : Int32 => ([.int w9, .ref (x + 5)] : List Value)) (nI_add (8 * i_1) 7)) ?_
      obtain ⟨f_1, h_4, r_2⟩ := imk (k := 5) hI1
      replace r_2 : CC f_1 := r_2
      have h_5 : Φl1 (x + 5) = some (al_ G 96 f_1) := h_4
      refine z_lald B h_5 (vp_in_nI (by omega) (by omega)) dX12_makeRoom_33 ?_
      refine z_fl (fun v_16 => ?_)
      refine z_aload_n B dX12_makeRoom_34 rfl 2 rfl ?_
      refine z_get (ref := "FlowExporterModel") (C := RX12) (T := TX12) (N := 54) (ci := 14) (v := .ref (x + 5)) B (by decide +kernel) rfl 12 (by decide) (by decide +kernel) rfl h_3 rfl dX12_makeRoom_35 ?_
      refine z_bipush (v := 8) B dX12_makeRoom_38 rfl ?_
      refine z_iload_n B dX12_makeRoom_40 rfl 1 rfl ?_
      refine z_imul B dX12_makeRoom_41 ?_
      refine z_top (st1 := [.int (nI (8 * i_2)), .ref (x + 5), .long v_16]) (congrArg (fun w9 : Int32 => ([.int w9, .ref (x + 5), .long v_16] : List Value)) (nI_mul 8 i_2)) ?_
      refine z_bipush (v := 7) B dX12_makeRoom_42 rfl ?_
      refine z_iadd B dX12_makeRoom_44 ?_
      refine z_top (st1 := [.int (nI (8 * i_2 + 7)), .ref (x + 5), .long v_16]) (congrArg (fun w9 : Int32 => ([.int w9, .ref (x + 5), .long v_16] : List Value)) (nI_add (8 * i_2) 7)) ?_
      refine z_lald B h_5 (vp_in_nI (by omega) (by omega)) dX12_makeRoom_45 ?_
      refine z_fl (fun v_17 => ?_)
      refine z_lcmp B dX12_makeRoom_46 ?_
      refine z_fi (fun v_18 => ?_)
      refine z_if_ge (tgt := 52) B dX12_makeRoom_47 rfl (fun c_3 => ?_) (fun c_3 => ?_)
      · obtain ⟨n_7, e_4, rfl⟩ := nI_of (Int32.not_lt.mpr c_3)
        refine z_iinc (k := 0) (v := nI (i_1 + 1)) (lv' := [(2, .int (nI (i_1 + 1))), (1, .int (nI i_2)), (0, .ref x)]) B dX12_makeRoom_52 rfl (nI_add i_1 1) (Nat.le_of_ble_eq_true rfl) rfl ?_
        refine z_goto (tgt := 14) B dX12_makeRoom_55 rfl ?_
        refine z_lv [0, 1, 2] rfl ?_
        exact ih1 (i_1 + 1, i_2) Φl1 (show 12 - (i_1 + 1) < 12 - i_1 by omega) ⟨hI1, (fun b9 h9 => ((hF1 b9 (fun j9 h8 h7 => (show False from h7).elim)).trans rfl)), (show (i_1 + 1) ≤ 12 by omega), (show i_2 < 12 by omega), trivial⟩
      · refine z_iload_n B dX12_makeRoom_50 rfl 0 rfl ?_
        refine z_istore_n (lv' := [(1, .int (nI i_1)), (2, .int (nI i_1)), (0, .ref x)]) B dX12_makeRoom_51 rfl (Nat.le_of_ble_eq_true rfl) rfl ?_
        refine z_iinc (k := 1) (v := nI (i_1 + 1)) (lv' := [(2, .int (nI (i_1 + 1))), (1, .int (nI i_1)), (0, .ref x)]) B dX12_makeRoom_52 rfl (nI_add i_1 1) (Nat.le_of_ble_eq_true rfl) rfl ?_
        refine z_goto (tgt := 14) B dX12_makeRoom_55 rfl ?_
        refine z_lv [0, 1, 2] rfl ?_
        exact ih1 (i_1 + 1, i_1) Φl1 (show 12 - (i_1 + 1) < 12 - i_1 by omega) ⟨hI1, (fun b9 h9 => ((hF1 b9 (fun j9 h8 h7 => (show False from h7).elim)).trans rfl)), (show (i_1 + 1) ≤ 12 by omega), (show i_1 < 12 by omega), trivial⟩
  · have e_5 : ¬ (12 ≤ fl) := fun h9 => c_1 ((nI_leI (a := 12) (b := fl) (by omega) (by omega)).mpr h9)
    exact z_ret_v B dX12_makeRoom_9 ⟨rfl, rfl, ⟨fl, pe, (show fl ≤ 11 by omega), (show pe ≤ pe + 1 by omega), hI⟩, (fun b9 h9 => rfl)⟩

set_option maxHeartbeats 4000000 in
set_option maxRecDepth 100000 in
theorem r_draw (G : EnvG) (l : Launch) (Φ : Hm) (sz x : Nat) (rd : (Nat → Int32) → Prop) (fl : Nat) (pe : Nat) (le : Nat) (nx : Nat) (il : Nat) (qu : Nat) (kn : Int32) (ec : Int32) (nu : Int32) (va : Int64) (n : Nat) (hx : G.2.2.2 ≤ x) (hI : Im G x (rd, NN, fl, pe, le, nx, il, qu, kn, ec, nu, va) Φ) (hn : 1 ≤ n) (hn2 : n ≤ 1024) : Ct G l yX12_draw wsX12_draw ({ frames := 0, cells := 0, slots := 0, locals := 0 }) 0 0 [.ref x, .int (nI n)] Φ sz (fun v Φ1 sz1 => (∃ r9 : Int32, v = some (.int r9)) ∧ sz1 = sz ∧ (Im G x (rd, NN, fl, pe, le, nx, il, qu, kn, ec, nu, va) Φ1) ∧ Fr x (fun j9 => j9 = 0) Φ Φ1) := by
  refine Ct.of (cc := cX12_draw) (maxL := 2) (ret := (some .int)) (by decide) rfl (Nat.le_of_ble_eq_true rfl) ?_
  intro p9 e9 s9 m9 w9 t9 k9 B
  show Z p9 l e9 _ s9 m9 _ w9 t9 k9 _ G 2 0 [(0, .ref x), (1, .int (nI n))] [] Φ sz 0 0
  refine z_aload_n B dX12_draw_0 rfl 0 rfl ?_
  refine z_ldc2 (v := 1103515245) B (by decide +kernel) dX12_draw_1 ?_
  refine z_aload_n B dX12_draw_4 rfl 0 rfl ?_
  obtain ⟨v_1, v_2, v_3, n_1, v_4, v_5, v_6, v_7, v_8, v_9, v_10, v_11, v_12, n_2, v_13, n_3, n_4, v_14, v_15, h_1, b_12, b_1, b_2, b_3, b_4, b_5, b_6, b_7, b_8, b_9, b_10, b_11⟩ := im0 hI
  replace b_1 : 1 ≤ n_1 := b_1
  replace b_2 : n_1 ≤ 1024 := b_2
  replace b_3 : fl ≤ 12 := b_3
  replace b_4 : pe ≤ 24 := b_4
  replace b_5 : le ≤ 700 := b_5
  replace b_6 : qu ≤ 12 := b_6
  replace b_7 : n_2 ≤ 8 := b_7
  replace b_8 : n_3 ≤ 24 := b_8
  replace b_9 : n_4 ≤ 24 := b_9
  replace b_10 : il ≤ 700 := b_10
  replace b_11 : nx ≤ 701 := b_11
  have h_2 : Φ x = some (o_ 14 [.int v_1, .ref (x + 1), .ref (x + 2), .int v_2, .int v_3, .int (nI n_1), .int v_4, .int v_5, .ref (x + 3), .ref (x + 4), .int v_6, .long v_7, .ref (x + 5), .int (nI fl), .int v_8, .long v_9, .long v_10, .long v_11, .long v_12, .ref (x + 6), .ref (x + 7), .int (nI pe), .ref (x + 8), .int (nI le), .ref (x + 9), .ref (x + 10), .int (nI qu), .ref (x + 11), .ref (x + 12), .ref (x + 13), .ref (x + 14), .ref (x + 15), .ref (x + 16), .int (nI n_2), .long v_13, .ref (x + 17), .ref (x + 18), .ref (x + 19), .ref (x + 20), .ref (x + 21), .ref (x + 22), .int (nI n_3), .ref (x + 23), .ref (x + 24), .int (nI n_4), .ref (x + 25), .int (nI il), .int (nI nx), .int ec, .int v_14, .int kn, .int v_15, .int nu, .long va]) := h_1
  refine z_get (ref := "FlowExporterModel") (C := RX12) (T := TX12) (N := 54) (ci := 14) (v := .int v_3) B (by decide +kernel) rfl 4 (by decide) (by decide +kernel) rfl h_2 rfl dX12_draw_5 ?_
  refine z_i2l (v := v_3.toInt64) B dX12_draw_8 rfl ?_
  refine z_lmul B dX12_draw_9 ?_
  refine z_fl (fun v_16 => ?_)
  refine z_ldc2 (v := 12345) B (by decide +kernel) dX12_draw_10 ?_
  refine z_ladd B dX12_draw_13 ?_
  refine z_fl (fun v_17 => ?_)
  refine z_ldc2 (v := 2147483648) B (by decide +kernel) dX12_draw_14 ?_
  refine z_lrem B dX12_draw_17 (by decide) ?_
  refine z_fl (fun v_18 => ?_)
  refine z_l2i (v := v_18.toInt32) B dX12_draw_18 rfl ?_
  refine z_fi (fun v_19 => ?_)
  refine z_put (ref := "FlowExporterModel") (C := RX12) (T := TX12) (N := 54) (ci := 14) (v := .int v_19) B (by decide +kernel) tyX12 tyX12_ok nmX12 rfl 4 (by decide) (by decide +kernel) rfl (Or.inl rfl) h_2 hx rfl rfl (Nat.le_of_ble_eq_true rfl) dX12_draw_19 (fun Φ1 hΦ1 => ?_)
  have h_3 : Φ1 x = some (o_ 14 [.int v_1, .ref (x + 1), .ref (x + 2), .int v_2, .int v_19, .int (nI n_1), .int v_4, .int v_5, .ref (x + 3), .ref (x + 4), .int v_6, .long v_7, .ref (x + 5), .int (nI fl), .int v_8, .long v_9, .long v_10, .long v_11, .long v_12, .ref (x + 6), .ref (x + 7), .int (nI pe), .ref (x + 8), .int (nI le), .ref (x + 9), .ref (x + 10), .int (nI qu), .ref (x + 11), .ref (x + 12), .ref (x + 13), .ref (x + 14), .ref (x + 15), .ref (x + 16), .int (nI n_2), .long v_13, .ref (x + 17), .ref (x + 18), .ref (x + 19), .ref (x + 20), .ref (x + 21), .ref (x + 22), .int (nI n_3), .ref (x + 23), .ref (x + 24), .int (nI n_4), .ref (x + 25), .int (nI il), .int (nI nx), .int ec, .int v_14, .int kn, .int v_15, .int nu, .long va]) := fset_at hΦ1
  have hI1 : Im G x (rd, NN, fl, pe, le, nx, il, qu, kn, ec, nu, va) Φ1 := Im.put0 hI hΦ1 ⟨v_1, v_2, v_19, n_1, v_4, v_5, v_6, v_7, v_8, v_9, v_10, v_11, v_12, n_2, v_13, n_3, n_4, v_14, v_15, rfl, b_12, (show 1 ≤ n_1 by omega), (show n_1 ≤ 1024 by omega), (show fl ≤ 12 by omega), (show pe ≤ 24 by omega), (show le ≤ 700 by omega), (show qu ≤ 12 by omega), (show n_2 ≤ 8 by omega), (show n_3 ≤ 24 by omega), (show n_4 ≤ 24 by omega), (show il ≤ 700 by omega), (show nx ≤ 701 by omega)⟩
  refine z_aload_n B dX12_draw_22 rfl 0 rfl ?_
  refine z_get (ref := "FlowExporterModel") (C := RX12) (T := TX12) (N := 54) (ci := 14) (v := .int v_19) B (by decide +kernel) rfl 4 (by decide) (by decide +kernel) rfl h_3 rfl dX12_draw_23 ?_
  refine z_sipush (v := 256) B dX12_draw_26 rfl ?_
  refine z_idiv B dX12_draw_29 (by decide) ?_
  refine z_fi (fun v_20 => ?_)
  refine z_iload_n B dX12_draw_30 rfl 1 rfl ?_
  refine z_irem B dX12_draw_31 (fun h9 => absurd ((nI_eq (a := n) (b := 0) (by omega) (by omega)).mp h9) (by omega)) ?_
  refine z_fi (fun v_21 => ?_)
  exact z_ret_i B dX12_draw_32 ⟨⟨_, rfl⟩, rfl, hI1, (fun b9 h9 => ((fset_fr hΦ1 (fun h8 => h9 (0) h8 (show 0 = 0 by omega))).trans rfl))⟩

set_option maxHeartbeats 4000000 in
set_option maxRecDepth 100000 in
theorem r_isSame_19 (G : EnvG) (l : Launch) (Φ : Hm) (sz x : Nat) (rd : (Nat → Int32) → Prop) (fl : Nat) (pe : Nat) (le : Nat) (nx : Nat) (il : Nat) (qu : Nat) (kn : Int32) (ec : Int32) (nu : Int32) (va : Int64) (i : Nat) (a : Int64) (b : Int64) (d : Int64) (f : Int64) (hx : G.2.2.2 ≤ x) (hI : Im G x (rd, NN, fl, pe, le, nx, il, qu, kn, ec, nu, va) Φ) (hi : i < 24) : Ct G l yX12_isSame wsX12_isSame ({ frames := 0, cells := 0, slots := 0, locals := 0 }) 0 0 [.ref (x + 19), .int (nI i), .long a, .long b, .long d, .long f] Φ sz (fun v Φ1 sz1 => (∃ r9 : Int32, v = some (.int r9) ∧ (r9 = 0 ∨ r9 = 1)) ∧ sz1 = sz ∧ (Im G x (rd, NN, fl, pe, le, nx, il, qu, kn, ec, nu, va) Φ1) ∧ Fr x (fun j9 => False) Φ Φ1) := by
  refine Ct.of (cc := cX12_isSame) (maxL := 10) (ret := (some .boolean)) (by decide) rfl (Nat.le_of_ble_eq_true rfl) ?_
  intro p9 e9 s9 m9 w9 t9 k9 B
  show Z p9 l e9 _ s9 m9 _ w9 t9 k9 _ G 10 0 [(0, .ref (x + 19)), (1, .int (nI i)), (2, .long a), (4, .long b), (6, .long d), (8, .long f)] [] Φ sz 0 0
  refine z_aload_n B dX12_isSame_0 rfl 0 rfl ?_
  refine z_iconst (v := 4) B dX12_isSame_1 rfl ?_
  refine z_iload_n B dX12_isSame_2 rfl 1 rfl ?_
  refine z_imul B dX12_isSame_3 ?_
  refine z_top (st1 := [.int (nI (4 * i)), .ref (x + 19)]) (congrArg (fun w9 : Int32 => ([.int w9, .ref (x + 19)] : List Value)) (nI_mul 4 i)) ?_
  obtain ⟨f_1, h_1⟩ := imk (k := 19) hI
  have h_2 : Φ (x + 19) = some (ai_ G 96 f_1) := h_1
  refine z_iald B h_2 (vp_in_nI (by omega) (by omega)) dX12_isSame_4 ?_
  refine z_fi (fun v_1 => ?_)
  refine z_i2l (v := v_1.toInt64) B dX12_isSame_5 rfl ?_
  refine z_lload_n B dX12_isSame_6 rfl 2 rfl ?_
  refine z_lcmp B dX12_isSame_7 ?_
  refine z_fi (fun v_2 => ?_)
  refine z_if_ne (tgt := 57) B dX12_isSame_8 rfl (fun c_1 => ?_) (fun c_1 => ?_)
  · refine z_iconst (v := 0) B dX12_isSame_57 rfl ?_
    exact z_ret_z B dX12_isSame_58 (by decide) ⟨⟨_, rfl, by decide⟩, rfl, hI, (fun b9 h9 => rfl)⟩
  · refine z_aload_n B dX12_isSame_11 rfl 0 rfl ?_
    refine z_iconst (v := 4) B dX12_isSame_12 rfl ?_
    refine z_iload_n B dX12_isSame_13 rfl 1 rfl ?_
    refine z_imul B dX12_isSame_14 ?_
    refine z_top (st1 := [.int (nI (4 * i)), .ref (x + 19)]) (congrArg (fun w9 : Int32 => ([.int w9, .ref (x + 19)] : List Value)) (nI_mul 4 i)) ?_
    refine z_iconst (v := 1) B dX12_isSame_15 rfl ?_
    refine z_iadd B dX12_isSame_16 ?_
    refine z_top (st1 := [.int (nI (4 * i + 1)), .ref (x + 19)]) (congrArg (fun w9 : Int32 => ([.int w9, .ref (x + 19)] : List Value)) (nI_add (4 * i) 1)) ?_
    refine z_iald B h_2 (vp_in_nI (by omega) (by omega)) dX12_isSame_17 ?_
    refine z_fi (fun v_3 => ?_)
    refine z_i2l (v := v_3.toInt64) B dX12_isSame_18 rfl ?_
    refine z_lload B dX12_isSame_19 3 rfl ?_
    refine z_lcmp B dX12_isSame_21 ?_
    refine z_fi (fun v_4 => ?_)
    refine z_if_ne (tgt := 57) B dX12_isSame_22 rfl (fun c_2 => ?_) (fun c_2 => ?_)
    · refine z_iconst (v := 0) B dX12_isSame_57 rfl ?_
      exact z_ret_z B dX12_isSame_58 (by decide) ⟨⟨_, rfl, by decide⟩, rfl, hI, (fun b9 h9 => rfl)⟩
    · refine z_aload_n B dX12_isSame_25 rfl 0 rfl ?_
      refine z_iconst (v := 4) B dX12_isSame_26 rfl ?_
      refine z_iload_n B dX12_isSame_27 rfl 1 rfl ?_
      refine z_imul B dX12_isSame_28 ?_
      refine z_top (st1 := [.int (nI (4 * i)), .ref (x + 19)]) (congrArg (fun w9 : Int32 => ([.int w9, .ref (x + 19)] : List Value)) (nI_mul 4 i)) ?_
      refine z_iconst (v := 2) B dX12_isSame_29 rfl ?_
      refine z_iadd B dX12_isSame_30 ?_
      refine z_top (st1 := [.int (nI (4 * i + 2)), .ref (x + 19)]) (congrArg (fun w9 : Int32 => ([.int w9, .ref (x + 19)] : List Value)) (nI_add (4 * i) 2)) ?_
      refine z_iald B h_2 (vp_in_nI (by omega) (by omega)) dX12_isSame_31 ?_
      refine z_fi (fun v_5 => ?_)
      refine z_i2l (v := v_5.toInt64) B dX12_isSame_32 rfl ?_
      refine z_lload B dX12_isSame_33 4 rfl ?_
      refine z_lcmp B dX12_isSame_35 ?_
      refine z_fi (fun v_6 => ?_)
      refine z_if_ne (tgt := 57) B dX12_isSame_36 rfl (fun c_3 => ?_) (fun c_3 => ?_)
      · refine z_iconst (v := 0) B dX12_isSame_57 rfl ?_
        exact z_ret_z B dX12_isSame_58 (by decide) ⟨⟨_, rfl, by decide⟩, rfl, hI, (fun b9 h9 => rfl)⟩
      · refine z_aload_n B dX12_isSame_39 rfl 0 rfl ?_
        refine z_iconst (v := 4) B dX12_isSame_40 rfl ?_
        refine z_iload_n B dX12_isSame_41 rfl 1 rfl ?_
        refine z_imul B dX12_isSame_42 ?_
        refine z_top (st1 := [.int (nI (4 * i)), .ref (x + 19)]) (congrArg (fun w9 : Int32 => ([.int w9, .ref (x + 19)] : List Value)) (nI_mul 4 i)) ?_
        refine z_iconst (v := 3) B dX12_isSame_43 rfl ?_
        refine z_iadd B dX12_isSame_44 ?_
        refine z_top (st1 := [.int (nI (4 * i + 3)), .ref (x + 19)]) (congrArg (fun w9 : Int32 => ([.int w9, .ref (x + 19)] : List Value)) (nI_add (4 * i) 3)) ?_
        refine z_iald B h_2 (vp_in_nI (by omega) (by omega)) dX12_isSame_45 ?_
        refine z_fi (fun v_7 => ?_)
        refine z_i2l (v := v_7.toInt64) B dX12_isSame_46 rfl ?_
        refine z_lload B dX12_isSame_47 5 rfl ?_
        refine z_lcmp B dX12_isSame_49 ?_
        refine z_fi (fun v_8 => ?_)
        refine z_if_ne (tgt := 57) B dX12_isSame_50 rfl (fun c_4 => ?_) (fun c_4 => ?_)
        · refine z_iconst (v := 0) B dX12_isSame_57 rfl ?_
          exact z_ret_z B dX12_isSame_58 (by decide) ⟨⟨_, rfl, by decide⟩, rfl, hI, (fun b9 h9 => rfl)⟩
        · refine z_iconst (v := 1) B dX12_isSame_53 rfl ?_
          refine z_goto (tgt := 58) B dX12_isSame_54 rfl ?_
          exact z_ret_z B dX12_isSame_58 (by decide) ⟨⟨_, rfl, by decide⟩, rfl, hI, (fun b9 h9 => rfl)⟩

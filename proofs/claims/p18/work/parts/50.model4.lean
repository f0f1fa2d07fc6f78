set_option maxHeartbeats 4000000 in
set_option maxRecDepth 100000 in
theorem r_sizeOfE (G : EnvG) (l : Launch) (Φ : Hm) (sz x : Nat) (rd : (Nat → Int32) → Prop) (fl : Nat) (pe : Nat) (le : Nat) (nx : Nat) (il : Nat) (kn : Int32) (ec : Int32) (fN : Nat → Int32) (t : Nat) (hx : G.2.2.2 ≤ x) (hI : Im G x (rd, NN, fl, pe, le, nx, il, kn, ec) Φ) (hc0 : Φ (x + 2) = some (ai_ G 307 fN)) (hN : NN fN) (ht : t < 4) : Ct G l yX12_sizeOf wsX12_sizeOf ({ frames := 0, cells := 0, slots := 0, locals := 0 }) 0 0 [.ref x, .int (nI t)] Φ sz (fun v Φ1 sz1 => (∃ n9 : Nat, v = some (.int (nI n9)) ∧ n9 ≤ 9 ∧ fN (11 + t) = nI n9 ∧ lsm fN (15 + 9 * t) n9 ≤ 29) ∧ sz1 = sz ∧ (Im G x (rd, NN, fl, pe, le, nx, il, kn, ec) Φ1) ∧ Fr x (fun j9 => False) Φ Φ1) := by
  refine Ct.of (cc := cX12_sizeOf) (maxL := 2) (ret := (some .int)) (by decide) rfl (Nat.le_of_ble_eq_true rfl) ?_
  intro p9 e9 s9 m9 w9 t9 k9 B
  show Z p9 l e9 _ s9 m9 _ w9 t9 k9 _ G 2 0 [(0, .ref x), (1, .int (nI t))] [] Φ sz 0 0
  refine z_aload_n B dX12_sizeOf_0 rfl 0 rfl ?_
  obtain ⟨v_1, v_2, v_3, n_1, v_4, v_5, v_6, v_7, v_8, v_9, v_10, v_11, v_12, n_2, n_3, v_13, n_4, n_5, v_14, v_15, v_16, v_17, h_1, b_12, b_1, b_2, b_3, b_4, b_5, b_6, b_7, b_8, b_9, b_10, b_11⟩ := im0 hI
  replace b_1 : 1 ≤ n_1 := b_1
  replace b_2 : n_1 ≤ 1024 := b_2
  replace b_3 : fl ≤ 12 := b_3
  replace b_4 : pe ≤ 24 := b_4
  replace b_5 : le ≤ 700 := b_5
  replace b_6 : n_2 ≤ 12 := b_6
  replace b_7 : n_3 ≤ 8 := b_7
  replace b_8 : n_4 ≤ 24 := b_8
  replace b_9 : n_5 ≤ 24 := b_9
  replace b_10 : il ≤ 700 := b_10
  replace b_11 : nx ≤ 701 := b_11
  have h_2 : Φ x = some (o_ 14 [.int v_1, .ref (x + 1), .ref (x + 2), .int v_2, .int v_3, .int (nI n_1), .int v_4, .int v_5, .ref (x + 3), .ref (x + 4), .int v_6, .long v_7, .ref (x + 5), .int (nI fl), .int v_8, .long v_9, .long v_10, .long v_11, .long v_12, .ref (x + 6), .ref (x + 7), .int (nI pe), .ref (x + 8), .int (nI le), .ref (x + 9), .ref (x + 10), .int (nI n_2), .ref (x + 11), .ref (x + 12), .ref (x + 13), .ref (x + 14), .ref (x + 15), .ref (x + 16), .int (nI n_3), .long v_13, .ref (x + 17), .ref (x + 18), .ref (x + 19), .ref (x + 20), .ref (x + 21), .ref (x + 22), .int (nI n_4), .ref (x + 23), .ref (x + 24), .int (nI n_5), .ref (x + 25), .int (nI il), .int (nI nx), .int ec, .int v_14, .int kn, .int v_15, .int v_16, .long v_17]) := h_1
  refine z_get (ref := "FlowExporterModel") (C := RX12) (T := TX12) (N := 54) (ci := 14) (v := .ref (x + 2)) B (by decide +kernel) rfl 2 (by decide) (by decide +kernel) rfl h_2 rfl dX12_sizeOf_1 ?_
  refine z_bipush (v := 11) B dX12_sizeOf_4 rfl ?_
  refine z_iload_n B dX12_sizeOf_6 rfl 1 rfl ?_
  refine z_iadd B dX12_sizeOf_7 ?_
  refine z_top (st1 := [.int (nI (11 + t)), .ref (x + 2)]) (congrArg (fun w9 : Int32 => ([.int w9, .ref (x + 2)] : List Value)) (nI_add 11 t)) ?_
  refine z_iald B hc0 (vp_in_nI (by omega) (by omega)) dX12_sizeOf_8 ?_
  obtain ⟨n_6, hs1, hs2, hs3⟩ := NN.size hN ht
  refine z_top (st1 := [.int (nI n_6)]) (congrArg (fun w9 : Int32 => ([.int w9] : List Value)) ((congrArg fN (nI_clamp (by omega))).trans hs2)) ?_
  exact z_ret_i B dX12_sizeOf_9 ⟨⟨_, rfl, hs1, hs2, hs3⟩, rfl, hI, (fun b9 h9 => rfl)⟩

set_option maxHeartbeats 4000000 in
set_option maxRecDepth 100000 in
theorem r_fieldOfE (G : EnvG) (l : Launch) (Φ : Hm) (sz x : Nat) (rd : (Nat → Int32) → Prop) (fl : Nat) (pe : Nat) (le : Nat) (nx : Nat) (il : Nat) (kn : Int32) (ec : Int32) (fN : Nat → Int32) (t : Nat) (q : Nat) (hx : G.2.2.2 ≤ x) (hI : Im G x (rd, NN, fl, pe, le, nx, il, kn, ec) Φ) (hc0 : Φ (x + 2) = some (ai_ G 307 fN)) (hN : NN fN) (ht : t < 4) (hq : q < 9) : Ct G l yX12_fieldOf wsX12_fieldOf ({ frames := 0, cells := 0, slots := 0, locals := 0 }) 0 0 [.ref x, .int (nI t), .int (nI q)] Φ sz (fun v Φ1 sz1 => (∃ n9 : Nat, v = some (.int (nI n9)) ∧ n9 ≤ 8 ∧ fN (15 + 9 * t + q) = nI n9) ∧ sz1 = sz ∧ (Im G x (rd, NN, fl, pe, le, nx, il, kn, ec) Φ1) ∧ Fr x (fun j9 => False) Φ Φ1) := by
  refine Ct.of (cc := cX12_fieldOf) (maxL := 3) (ret := (some .int)) (by decide) rfl (Nat.le_of_ble_eq_true rfl) ?_
  intro p9 e9 s9 m9 w9 t9 k9 B
  show Z p9 l e9 _ s9 m9 _ w9 t9 k9 _ G 3 0 [(0, .ref x), (1, .int (nI t)), (2, .int (nI q))] [] Φ sz 0 0
  refine z_aload_n B dX12_fieldOf_0 rfl 0 rfl ?_
  obtain ⟨v_1, v_2, v_3, n_1, v_4, v_5, v_6, v_7, v_8, v_9, v_10, v_11, v_12, n_2, n_3, v_13, n_4, n_5, v_14, v_15, v_16, v_17, h_1, b_12, b_1, b_2, b_3, b_4, b_5, b_6, b_7, b_8, b_9, b_10, b_11⟩ := im0 hI
  replace b_1 : 1 ≤ n_1 := b_1
  replace b_2 : n_1 ≤ 1024 := b_2
  replace b_3 : fl ≤ 12 := b_3
  replace b_4 : pe ≤ 24 := b_4
  replace b_5 : le ≤ 700 := b_5
  replace b_6 : n_2 ≤ 12 := b_6
  replace b_7 : n_3 ≤ 8 := b_7
  replace b_8 : n_4 ≤ 24 := b_8
  replace b_9 : n_5 ≤ 24 := b_9
  replace b_10 : il ≤ 700 := b_10
  replace b_11 : nx ≤ 701 := b_11
  have h_2 : Φ x = some (o_ 14 [.int v_1, .ref (x + 1), .ref (x + 2), .int v_2, .int v_3, .int (nI n_1), .int v_4, .int v_5, .ref (x + 3), .ref (x + 4), .int v_6, .long v_7, .ref (x + 5), .int (nI fl), .int v_8, .long v_9, .long v_10, .long v_11, .long v_12, .ref (x + 6), .ref (x + 7), .int (nI pe), .ref (x + 8), .int (nI le), .ref (x + 9), .ref (x + 10), .int (nI n_2), .ref (x + 11), .ref (x + 12), .ref (x + 13), .ref (x + 14), .ref (x + 15), .ref (x + 16), .int (nI n_3), .long v_13, .ref (x + 17), .ref (x + 18), .ref (x + 19), .ref (x + 20), .ref (x + 21), .ref (x + 22), .int (nI n_4), .ref (x + 23), .ref (x + 24), .int (nI n_5), .ref (x + 25), .int (nI il), .int (nI nx), .int ec, .int v_14, .int kn, .int v_15, .int v_16, .long v_17]) := h_1
  refine z_get (ref := "FlowExporterModel") (C := RX12) (T := TX12) (N := 54) (ci := 14) (v := .ref (x + 2)) B (by decide +kernel) rfl 2 (by decide) (by decide +kernel) rfl h_2 rfl dX12_fieldOf_1 ?_
  refine z_bipush (v := 15) B dX12_fieldOf_4 rfl ?_
  refine z_bipush (v := 9) B dX12_fieldOf_6 rfl ?_
  refine z_iload_n B dX12_fieldOf_8 rfl 1 rfl ?_
  refine z_imul B dX12_fieldOf_9 ?_
  refine z_top (st1 := [.int (nI (9 * t)), .int 15, .ref (x + 2)]) (congrArg (fun w9 : Int32 => ([.int w9, .int 15, .ref (x + 2)] : List Value)) (nI_mul 9 t)) ?_
  refine z_iadd B dX12_fieldOf_10 ?_
  refine z_top (st1 := [.int (nI (15 + 9 * t)), .ref (x + 2)]) (congrArg (fun w9 : Int32 => ([.int w9, .ref (x + 2)] : List Value)) (nI_add 15 (9 * t))) ?_
  refine z_iload_n B dX12_fieldOf_11 rfl 2 rfl ?_
  refine z_iadd B dX12_fieldOf_12 ?_
  refine z_top (st1 := [.int (nI (15 + 9 * t + q)), .ref (x + 2)]) (congrArg (fun w9 : Int32 => ([.int w9, .ref (x + 2)] : List Value)) (nI_add (15 + 9 * t) q)) ?_
  refine z_iald B hc0 (vp_in_nI (by omega) (by omega)) dX12_fieldOf_13 ?_
  obtain ⟨n_6, hs1, hs2⟩ := hN.2.1 (15 + 9 * t + q) (by omega) (by omega)
  refine z_top (st1 := [.int (nI n_6)]) (congrArg (fun w9 : Int32 => ([.int w9] : List Value)) ((congrArg fN (nI_clamp (by omega))).trans hs2)) ?_
  exact z_ret_i B dX12_fieldOf_14 ⟨⟨_, rfl, hs1, hs2⟩, rfl, hI, (fun b9 h9 => rfl)⟩

set_option maxHeartbeats 4000000 in
set_option maxRecDepth 100000 in
theorem r_appendRecord (G : EnvG) (l : Launch) (Φ : Hm) (sz x : Nat) (rd : (Nat → Int32) → Prop) (fl : Nat) (pe : Nat) (le : Nat) (nx : Nat) (il : Nat) (kn : Int32) (ec : Int32) (f : Nat) (t : Nat) (hx : G.2.2.2 ≤ x) (hI : Im G x (rd, NN, fl, pe, le, nx, il, kn, ec) Φ) (hf : f < 12) (ht : t < 4) (hp : pe < 24) : Ct G l yX12_appendRecord wsX12_appendRecord ({ frames := 3, cells := 0, slots := 0, locals := 62 }) 0 0 [.ref x, .int (nI f), .int (nI t)] Φ sz (fun v Φ1 sz1 => (v = none) ∧ sz1 = sz ∧ (∃ (pe1 : Nat), (pe1 = pe + 1) ∧ Im G x (rd, NN, fl, pe1, le, nx, il, kn, ec) Φ1) ∧ Fr x (fun j9 => j9 = 0 ∨ j9 = 6 ∨ j9 = 7) Φ Φ1) := by
  refine Ct.of (cc := cX12_appendRecord) (maxL := 7) (ret := none) (by decide) rfl (Nat.le_of_ble_eq_true rfl) ?_
  intro p9 e9 s9 m9 w9 t9 k9 B
  show Z p9 l e9 _ s9 m9 _ w9 t9 k9 _ G 7 0 [(0, .ref x), (1, .int (nI f)), (2, .int (nI t))] [] Φ sz 0 0
  refine z_bipush (v := 30) B dX12_appendRecord_0 rfl ?_
  refine z_aload_n B dX12_appendRecord_2 rfl 0 rfl ?_
  obtain ⟨v_1, v_2, v_3, n_1, v_4, v_5, v_6, v_7, v_8, v_9, v_10, v_11, v_12, n_2, n_3, v_13, n_4, n_5, v_14, v_15, v_16, v_17, h_1, b_12, b_1, b_2, b_3, b_4, b_5, b_6, b_7, b_8, b_9, b_10, b_11⟩ := im0 hI
  replace b_1 : 1 ≤ n_1 := b_1
  replace b_2 : n_1 ≤ 1024 := b_2
  replace b_3 : fl ≤ 12 := b_3
  replace b_4 : pe ≤ 24 := b_4
  replace b_5 : le ≤ 700 := b_5
  replace b_6 : n_2 ≤ 12 := b_6
  replace b_7 : n_3 ≤ 8 := b_7
  replace b_8 : n_4 ≤ 24 := b_8
  replace b_9 : n_5 ≤ 24 := b_9
  replace b_10 : il ≤ 700 := b_10
  replace b_11 : nx ≤ 701 := b_11
  have h_2 : Φ x = some (o_ 14 [.int v_1, .ref (x + 1), .ref (x + 2), .int v_2, .int v_3, .int (nI n_1), .int v_4, .int v_5, .ref (x + 3), .ref (x + 4), .int v_6, .long v_7, .ref (x + 5), .int (nI fl), .int v_8, .long v_9, .long v_10, .long v_11, .long v_12, .ref (x + 6), .ref (x + 7), .int (nI pe), .ref (x + 8), .int (nI le), .ref (x + 9), .ref (x + 10), .int (nI n_2), .ref (x + 11), .ref (x + 12), .ref (x + 13), .ref (x + 14), .ref (x + 15), .ref (x + 16), .int (nI n_3), .long v_13, .ref (x + 17), .ref (x + 18), .ref (x + 19), .ref (x + 20), .ref (x + 21), .ref (x + 22), .int (nI n_4), .ref (x + 23), .ref (x + 24), .int (nI n_5), .ref (x + 25), .int (nI il), .int (nI nx), .int ec, .int v_14, .int kn, .int v_15, .int v_16, .long v_17]) := h_1
  refine z_get (ref := "FlowExporterModel") (C := RX12) (T := TX12) (N := 54) (ci := 14) (v := .int (nI pe)) B (by decide +kernel) rfl 21 (by decide) (by decide +kernel) rfl h_2 rfl dX12_appendRecord_3 ?_
  refine z_imul B dX12_appendRecord_6 ?_
  refine z_top (st1 := [.int (nI (30 * pe))]) (congrArg (fun w9 : Int32 => ([.int w9] : List Value)) (nI_mul 30 pe)) ?_
  refine z_istore_n (lv' := [(3, .int (nI (30 * pe))), (0, .ref x), (1, .int (nI f)), (2, .int (nI t))]) B dX12_appendRecord_7 rfl (Nat.le_of_ble_eq_true rfl) rfl ?_
  obtain ⟨f_1, h_3, r_1⟩ := imk (k := 2) hI
  replace r_1 : NN f_1 := r_1
  have h_4 : Φ (x + 2) = some (ai_ G 307 f_1) := h_3
  refine z_iconst (v := 0) B dX12_appendRecord_8 rfl ?_
  refine z_istore (lv' := [(4, .int 0), (3, .int (nI (30 * pe))), (0, .ref x), (1, .int (nI f)), (2, .int (nI t))]) B dX12_appendRecord_9 (Nat.le_of_ble_eq_true rfl) rfl ?_
  refine z_lv [0, 1, 2, 3, 4] rfl ?_
  refine z_loop (α := Nat × Nat) (fun (a9 : Nat × Nat) Φi => Im G x (rd, NN, fl, pe, le, nx, il, kn, ec) Φi ∧ Fr x (fun j9 => j9 = 7) Φ Φi ∧ (a9.1 ≤ 9) ∧ (a9.2 ≤ 30 * pe + lsm f_1 (15 + 9 * t) a9.1) ∧ True) (fun a9 => [(4, .int (nI (a9.1))), (3, .int (nI (a9.2))), (0, .ref x), (1, .int (nI f)), (2, .int (nI t))]) (fun a9 => 9 - a9.1) ?_ (0, 30 * pe) ⟨hI, fun _ _ => rfl, (show 0 ≤ 9 by omega), (show 30 * pe ≤ 30 * pe + 0 by omega), trivial⟩
  rintro ⟨i_1, i_2⟩ Φl1 ⟨hI1, hF1, b_13, b_14, -⟩ ih1
  replace hI1 : Im G x (rd, NN, fl, pe, le, nx, il, kn, ec) Φl1 := hI1
  replace b_13 : i_1 ≤ 9 := b_13
  replace b_14 : i_2 ≤ 30 * pe + lsm f_1 (15 + 9 * t) i_1 := b_14
  show Z p9 l e9 _ s9 m9 _ w9 t9 k9 _ G 7 11 [(4, .int (nI i_1)), (3, .int (nI i_2)), (0, .ref x), (1, .int (nI f)), (2, .int (nI t))] [] Φl1 _ _ _
  refine z_iload B dX12_appendRecord_11 0 rfl ?_
  refine z_aload_n B dX12_appendRecord_13 rfl 2 rfl ?_
  refine z_iload_n B dX12_appendRecord_14 rfl 4 rfl ?_
  have h_5 : Φl1 (x + 2) = some (ai_ G 307 f_1) := ((hF1 (x + 2) (fun j9 h8 h7 => by have h6 : j9 = 7 := h7; omega)).trans h_4)
  have h_6 : Φl1 x = some (o_ 14 [.int v_1, .ref (x + 1), .ref (x + 2), .int v_2, .int v_3, .int (nI n_1), .int v_4, .int v_5, .ref (x + 3), .ref (x + 4), .int v_6, .long v_7, .ref (x + 5), .int (nI fl), .int v_8, .long v_9, .long v_10, .long v_11, .long v_12, .ref (x + 6), .ref (x + 7), .int (nI pe), .ref (x + 8), .int (nI le), .ref (x + 9), .ref (x + 10), .int (nI n_2), .ref (x + 11), .ref (x + 12), .ref (x + 13), .ref (x + 14), .ref (x + 15), .ref (x + 16), .int (nI n_3), .long v_13, .ref (x + 17), .ref (x + 18), .ref (x + 19), .ref (x + 20), .ref (x + 21), .ref (x + 22), .int (nI n_4), .ref (x + 23), .ref (x + 24), .int (nI n_5), .ref (x + 25), .int (nI il), .int (nI nx), .int ec, .int v_14, .int kn, .int v_15, .int v_16, .long v_17]) := ((hF1 x (fun j9 h8 h7 => by have h6 : j9 = 7 := h7; omega)).trans h_2)
  refine z_callV (As := [.int (nI t)]) (rest := [.int (nI i_1)]) B (r_sizeOfE G l Φl1 sz x rd fl pe le nx il kn ec f_1 t hx hI1 h_5 r_1 (show t < 4 by omega)) (cwV 1 B.1.2.2.2.2 gX12_appendRecord_X12_sizeOf rfl rfl rfl (by decide +kernel) ⟨Nat.le_of_ble_eq_true rfl, Nat.le_of_ble_eq_true rfl⟩) h_6 rfl rfl rfl rfl (Nat.le_of_ble_eq_true rfl) dX12_appendRecord_15 ⟨Nat.le_of_ble_eq_true rfl, Nat.le_of_ble_eq_true rfl⟩ (fun r_2 Φ1 sz1 st1 hp1 hs1 => ?_)
  obtain ⟨⟨n_6, rfl, b_15, b_16, b_17⟩, hq1, hI2, hF2⟩ := hp1
  subst sz1
  replace hs1 : st1 = [.int (nI n_6), .int (nI i_1)] := hs1
  subst st1
  replace b_15 : n_6 ≤ 9 := b_15
  replace b_16 : f_1 (11 + t) = nI n_6 := b_16
  replace b_17 : lsm f_1 (15 + 9 * t) n_6 ≤ 29 := b_17
  replace hI2 : Im G x (rd, NN, fl, pe, le, nx, il, kn, ec) Φ1 := hI2
  have q_1 := fun h9 : i_1 + 1 ≤ n_6 => lsm_mono (f := f_1) (b := 15 + 9 * t) h9
  refine z_icmp_ge (tgt := 96) B dX12_appendRecord_18 rfl (fun c_1 => ?_) (fun c_1 => ?_)
  · have e_1 : n_6 ≤ i_1 := (nI_leI (a := n_6) (b := i_1) (by omega) (by omega)).mp c_1
    refine z_aload_n B dX12_appendRecord_96 rfl 2 rfl ?_
    have h_7 : Φ1 x = some (o_ 14 [.int v_1, .ref (x + 1), .ref (x + 2), .int v_2, .int v_3, .int (nI n_1), .int v_4, .int v_5, .ref (x + 3), .ref (x + 4), .int v_6, .long v_7, .ref (x + 5), .int (nI fl), .int v_8, .long v_9, .long v_10, .long v_11, .long v_12, .ref (x + 6), .ref (x + 7), .int (nI pe), .ref (x + 8), .int (nI le), .ref (x + 9), .ref (x + 10), .int (nI n_2), .ref (x + 11), .ref (x + 12), .ref (x + 13), .ref (x + 14), .ref (x + 15), .ref (x + 16), .int (nI n_3), .long v_13, .ref (x + 17), .ref (x + 18), .ref (x + 19), .ref (x + 20), .ref (x + 21), .ref (x + 22), .int (nI n_4), .ref (x + 23), .ref (x + 24), .int (nI n_5), .ref (x + 25), .int (nI il), .int (nI nx), .int ec, .int v_14, .int kn, .int v_15, .int v_16, .long v_17]) := ((hF2 x (fun j9 h8 h7 => (show False from h7).elim)).trans h_6)
    refine z_get (ref := "FlowExporterModel") (C := RX12) (T := TX12) (N := 54) (ci := 14) (v := .ref (x + 6)) B (by decide +kernel) rfl 19 (by decide) (by decide +kernel) rfl h_7 rfl dX12_appendRecord_97 ?_
    refine z_aload_n B dX12_appendRecord_100 rfl 2 rfl ?_
    refine z_get (ref := "FlowExporterModel") (C := RX12) (T := TX12) (N := 54) (ci := 14) (v := .int (nI pe)) B (by decide +kernel) rfl 21 (by decide) (by decide +kernel) rfl h_7 rfl dX12_appendRecord_101 ?_
    refine z_iload_n B dX12_appendRecord_104 rfl 4 rfl ?_
    obtain ⟨f_2, h_8, r_3⟩ := imk (k := 6) hI2
    replace r_3 : Rw 3 f_2 := r_3
    have h_9 : Φ1 (x + 6) = some (ai_ G 24 f_2) := h_8
    refine z_iast B h_9 (Nat.le_trans hx (Nat.le_add_right x 6)) (vp_in_nI (by omega) (by omega)) dX12_appendRecord_105 (fun Φ2 hΦ1 => ?_)
    have h_10 : Φ2 (x + 6) = some (ai_ G 24 (upd f_2 (nI pe).toNatClampNeg (nI t))) := fset_at hΦ1
    have hI3 : Im G x (rd, NN, fl, pe, le, nx, il, kn, ec) Φ2 := Im.put (k := 6) hI2 hΦ1 ⟨_, rfl, Rw.up (n := t) r_3 (show t ≤ 3 by omega)⟩
    refine z_aload_n B dX12_appendRecord_106 rfl 2 rfl ?_
    refine z_dup B dX12_appendRecord_107 rfl ?_
    have h_11 : Φ2 x = some (o_ 14 [.int v_1, .ref (x + 1), .ref (x + 2), .int v_2, .int v_3, .int (nI n_1), .int v_4, .int v_5, .ref (x + 3), .ref (x + 4), .int v_6, .long v_7, .ref (x + 5), .int (nI fl), .int v_8, .long v_9, .long v_10, .long v_11, .long v_12, .ref (x + 6), .ref (x + 7), .int (nI pe), .ref (x + 8), .int (nI le), .ref (x + 9), .ref (x + 10), .int (nI n_2), .ref (x + 11), .ref (x + 12), .ref (x + 13), .ref (x + 14), .ref (x + 15), .ref (x + 16), .int (nI n_3), .long v_13, .ref (x + 17), .ref (x + 18), .ref (x + 19), .ref (x + 20), .ref (x + 21), .ref (x + 22), .int (nI n_4), .ref (x + 23), .ref (x + 24), .int (nI n_5), .ref (x + 25), .int (nI il), .int (nI nx), .int ec, .int v_14, .int kn, .int v_15, .int v_16, .long v_17]) := ((fset_fr hΦ1 (ne_off (x := x) (i := 0) (j := 6) rfl)).trans h_7)
    refine z_get (ref := "FlowExporterModel") (C := RX12) (T := TX12) (N := 54) (ci := 14) (v := .int (nI pe)) B (by decide +kernel) rfl 21 (by decide) (by decide +kernel) rfl h_11 rfl dX12_appendRecord_108 ?_
    refine z_iconst (v := 1) B dX12_appendRecord_111 rfl ?_
    refine z_iadd B dX12_appendRecord_112 ?_
    refine z_top (st1 := [.int (nI (pe + 1)), .ref x]) (congrArg (fun w9 : Int32 => ([.int w9, .ref x] : List Value)) (nI_add pe 1)) ?_
    refine z_put (ref := "FlowExporterModel") (C := RX12) (T := TX12) (N := 54) (ci := 14) (v := .int (nI (pe + 1))) B (by decide +kernel) tyX12 tyX12_ok nmX12 rfl 21 (by decide) (by decide +kernel) rfl (Or.inl rfl) h_11 hx rfl rfl (Nat.le_of_ble_eq_true rfl) dX12_appendRecord_113 (fun Φ3 hΦ2 => ?_)
    have h_12 : Φ3 x = some (o_ 14 [.int v_1, .ref (x + 1), .ref (x + 2), .int v_2, .int v_3, .int (nI n_1), .int v_4, .int v_5, .ref (x + 3), .ref (x + 4), .int v_6, .long v_7, .ref (x + 5), .int (nI fl), .int v_8, .long v_9, .long v_10, .long v_11, .long v_12, .ref (x + 6), .ref (x + 7), .int (nI (pe + 1)), .ref (x + 8), .int (nI le), .ref (x + 9), .ref (x + 10), .int (nI n_2), .ref (x + 11), .ref (x + 12), .ref (x + 13), .ref (x + 14), .ref (x + 15), .ref (x + 16), .int (nI n_3), .long v_13, .ref (x + 17), .ref (x + 18), .ref (x + 19), .ref (x + 20), .ref (x + 21), .ref (x + 22), .int (nI n_4), .ref (x + 23), .ref (x + 24), .int (nI n_5), .ref (x + 25), .int (nI il), .int (nI nx), .int ec, .int v_14, .int kn, .int v_15, .int v_16, .long v_17]) := fset_at hΦ2
    have hI4 : Im G x (rd, NN, fl, pe + 1, le, nx, il, kn, ec) Φ3 := Im.put0 hI3 hΦ2 ⟨v_1, v_2, v_3, n_1, v_4, v_5, v_6, v_7, v_8, v_9, v_10, v_11, v_12, n_2, n_3, v_13, n_4, n_5, v_14, v_15, v_16, v_17, rfl, b_12, (show 1 ≤ n_1 by omega), (show n_1 ≤ 1024 by omega), (show fl ≤ 12 by omega), (show (pe + 1) ≤ 24 by omega), (show le ≤ 700 by omega), (show n_2 ≤ 12 by omega), (show n_3 ≤ 8 by omega), (show n_4 ≤ 24 by omega), (show n_5 ≤ 24 by omega), (show il ≤ 700 by omega), (show nx ≤ 701 by omega)⟩
    exact z_ret_v B dX12_appendRecord_116 ⟨rfl, rfl, ⟨pe + 1, (show (pe + 1) = pe + 1 by omega), hI4⟩, (fun b9 h9 => ((fset_fr hΦ2 (fun h8 => h9 (0) h8 (show 0 = 0 ∨ 0 = 6 ∨ 0 = 7 by omega))).trans ((fset_fr hΦ1 (fun h8 => h9 (6) h8 (show 6 = 0 ∨ 6 = 6 ∨ 6 = 7 by omega))).trans ((hF2 b9 (fun j9 h8 h7 => (show False from h7).elim)).trans ((hF1 b9 (fun j9 h8 h7 => h9 j9 h8 (show j9 = 0 ∨ j9 = 6 ∨ j9 = 7 by have h6 : j9 = 7 := h7; omega))).trans rfl)))))⟩
  · have e_2 : ¬ (n_6 ≤ i_1) := fun h9 => c_1 ((nI_leI (a := n_6) (b := i_1) (by omega) (by omega)).mpr h9)
    replace q_1 := q_1 (by omega)
    refine z_aload_n B dX12_appendRecord_21 rfl 2 rfl ?_
    refine z_iload_n B dX12_appendRecord_22 rfl 4 rfl ?_
    refine z_iload B dX12_appendRecord_23 0 rfl ?_
    have h_13 : Φ1 (x + 2) = some (ai_ G 307 f_1) := ((hF2 (x + 2) (fun j9 h8 h7 => (show False from h7).elim)).trans h_5)
    have h_14 : Φ1 x = some (o_ 14 [.int v_1, .ref (x + 1), .ref (x + 2), .int v_2, .int v_3, .int (nI n_1), .int v_4, .int v_5, .ref (x + 3), .ref (x + 4), .int v_6, .long v_7, .ref (x + 5), .int (nI fl), .int v_8, .long v_9, .long v_10, .long v_11, .long v_12, .ref (x + 6), .ref (x + 7), .int (nI pe), .ref (x + 8), .int (nI le), .ref (x + 9), .ref (x + 10), .int (nI n_2), .ref (x + 11), .ref (x + 12), .ref (x + 13), .ref (x + 14), .ref (x + 15), .ref (x + 16), .int (nI n_3), .long v_13, .ref (x + 17), .ref (x + 18), .ref (x + 19), .ref (x + 20), .ref (x + 21), .ref (x + 22), .int (nI n_4), .ref (x + 23), .ref (x + 24), .int (nI n_5), .ref (x + 25), .int (nI il), .int (nI nx), .int ec, .int v_14, .int kn, .int v_15, .int v_16, .long v_17]) := ((hF2 x (fun j9 h8 h7 => (show False from h7).elim)).trans h_6)
    refine z_callV (As := [.int (nI t), .int (nI i_1)]) (rest := []) B (r_fieldOfE G l Φ1 sz x rd fl pe le nx il kn ec f_1 t i_1 hx hI2 h_13 r_1 (show t < 4 by omega) (show i_1 < 9 by omega)) (cwV 2 B.1.2.2.2.2 gX12_appendRecord_X12_fieldOf rfl rfl rfl (by decide +kernel) ⟨Nat.le_of_ble_eq_true rfl, Nat.le_of_ble_eq_true rfl⟩) h_14 rfl rfl rfl rfl (Nat.le_of_ble_eq_true rfl) dX12_appendRecord_25 ⟨Nat.le_of_ble_eq_true rfl, Nat.le_of_ble_eq_true rfl⟩ (fun r_4 Φ4 sz2 st2 hp2 hs2 => ?_)
    obtain ⟨⟨n_7, rfl, b_18, b_19⟩, hq2, hI5, hF3⟩ := hp2
    subst sz2
    replace hs2 : st2 = [.int (nI n_7)] := hs2
    subst st2
    replace b_18 : n_7 ≤ 8 := b_18
    replace b_19 : f_1 (15 + 9 * t + i_1) = nI n_7 := b_19
    replace hI5 : Im G x (rd, NN, fl, pe, le, nx, il, kn, ec) Φ4 := hI5
    have e_3 := lsm_s (f := f_1) (b := 15 + 9 * t) (q := i_1) (n := n_7) b_19 (by omega)
    have b_20 := lnN_pos n_7
    have b_21 := lnN_le n_7
    refine z_istore (lv' := [(5, .int (nI n_7)), (4, .int (nI i_1)), (3, .int (nI i_2)), (0, .ref x), (1, .int (nI f)), (2, .int (nI t))]) B dX12_appendRecord_28 (Nat.le_of_ble_eq_true rfl) rfl ?_
    refine z_aload_n B dX12_appendRecord_30 rfl 3 rfl ?_
    refine z_iload B dX12_appendRecord_31 0 rfl ?_
    have h_15 : Φ4 x = some (o_ 14 [.int v_1, .ref (x + 1), .ref (x + 2), .int v_2, .int v_3, .int (nI n_1), .int v_4, .int v_5, .ref (x + 3), .ref (x + 4), .int v_6, .long v_7, .ref (x + 5), .int (nI fl), .int v_8, .long v_9, .long v_10, .long v_11, .long v_12, .ref (x + 6), .ref (x + 7), .int (nI pe), .ref (x + 8), .int (nI le), .ref (x + 9), .ref (x + 10), .int (nI n_2), .ref (x + 11), .ref (x + 12), .ref (x + 13), .ref (x + 14), .ref (x + 15), .ref (x + 16), .int (nI n_3), .long v_13, .ref (x + 17), .ref (x + 18), .ref (x + 19), .ref (x + 20), .ref (x + 21), .ref (x + 22), .int (nI n_4), .ref (x + 23), .ref (x + 24), .int (nI n_5), .ref (x + 25), .int (nI il), .int (nI nx), .int ec, .int v_14, .int kn, .int v_15, .int v_16, .long v_17]) := ((hF3 x (fun j9 h8 h7 => (show False from h7).elim)).trans h_14)
    refine z_callV (As := [.int (nI n_7)]) (rest := []) B (r_isSupported G l Φ4 sz x rd fl pe le nx il kn ec (nI n_7) hx hI5 ) (cwV 1 B.1.2.2.2.2 gX12_appendRecord_X12_isSupported rfl rfl rfl (by decide +kernel) ⟨Nat.le_of_ble_eq_true rfl, Nat.le_of_ble_eq_true rfl⟩) h_15 rfl rfl rfl rfl (Nat.le_of_ble_eq_true rfl) dX12_appendRecord_33 ⟨Nat.le_of_ble_eq_true rfl, Nat.le_of_ble_eq_true rfl⟩ (fun r_5 Φ5 sz3 st3 hp3 hs3 => ?_)
    obtain ⟨⟨v_18, rfl, b_22⟩, hq3, hI6, hF4⟩ := hp3
    subst sz3
    replace hs3 : st3 = [.int v_18] := hs3
    subst st3
    replace hI6 : Im G x (rd, NN, fl, pe, le, nx, il, kn, ec) Φ5 := hI6
    refine z_if_ne (tgt := 42) B dX12_appendRecord_36 rfl (fun c_2 => ?_) (fun c_2 => ?_)
    · refine z_bipush (v := 8) B dX12_appendRecord_42 rfl ?_
      refine z_iload B dX12_appendRecord_44 0 rfl ?_
      refine z_callS (As := [.int (nI n_7)]) (rest := [.int 8]) B (r_lengthOf G l Φ5 sz x rd fl pe le nx il kn ec n_7 hx hI6 (show n_7 < 2 ^ 31 by omega)) (va_cwS 1 B.1.2.2.2.2 gX12_appendRecord_X12_lengthOf rfl rfl rfl (by decide +kernel) ⟨Nat.le_of_ble_eq_true rfl, Nat.le_of_ble_eq_true rfl⟩) rfl rfl (Nat.le_of_ble_eq_true rfl) dX12_appendRecord_46 ⟨Nat.le_of_ble_eq_true rfl, Nat.le_of_ble_eq_true rfl⟩ (fun r_6 Φ6 sz4 st4 hp4 hs4 => ?_)
      obtain ⟨rfl, hq4, hI7, hF5⟩ := hp4
      subst sz4
      replace hs4 : st4 = [.int (nI (lnN n_7)), .int 8] := hs4
      subst st4
      have b_23 := lnN_pos n_7
      have b_24 := lnN_le n_7
      replace hI7 : Im G x (rd, NN, fl, pe, le, nx, il, kn, ec) Φ6 := hI7
      refine z_imul B dX12_appendRecord_49 ?_
      refine z_top (st1 := [.int (nI (8 * (lnN n_7)))]) (congrArg (fun w9 : Int32 => ([.int w9] : List Value)) (nI_mul 8 (lnN n_7))) ?_
      refine z_bipush (v := 8) B dX12_appendRecord_50 rfl ?_
      refine z_isub B dX12_appendRecord_52 ?_
      refine z_istore (lv' := [(6, .int (nI (8 * (lnN n_7)) - 8)), (5, .int (nI n_7)), (4, .int (nI i_1)), (3, .int (nI i_2)), (0, .ref x), (1, .int (nI f)), (2, .int (nI t))]) B dX12_appendRecord_53 (Nat.le_of_ble_eq_true rfl) rfl ?_
      refine z_lv [0, 1, 2, 3, 4, 5, 6] rfl ?_
      refine z_loop (α := Nat × Nat) (fun (a9 : Nat × Nat) Φi => Im G x (rd, NN, fl, pe, le, nx, il, kn, ec) Φi ∧ Fr x (fun j9 => j9 = 7) Φ6 Φi ∧ (a9.1 ≤ 8) ∧ (a9.2 + a9.1 ≤ i_2 + lnN n_7) ∧ True) (fun a9 => [(6, .int (nI (8 * (a9.1)) - 8)), (5, .int (nI n_7)), (4, .int (nI i_1)), (3, .int (nI (a9.2))), (0, .ref x), (1, .int (nI f)), (2, .int (nI t))]) (fun a9 => a9.1) ?_ (lnN n_7, i_2) ⟨hI7, fun _ _ => rfl, (show (lnN n_7) ≤ 8 by omega), (show i_2 + (lnN n_7) ≤ i_2 + lnN n_7 by omega), trivial⟩
      rintro ⟨i_3, i_4⟩ Φl2 ⟨hI8, hF6, b_25, b_26, -⟩ ih2
      replace hI8 : Im G x (rd, NN, fl, pe, le, nx, il, kn, ec) Φl2 := hI8
      replace b_25 : i_3 ≤ 8 := b_25
      replace b_26 : i_4 + i_3 ≤ i_2 + lnN n_7 := b_26
      show Z p9 l e9 _ s9 m9 _ w9 t9 k9 _ G 7 55 [(6, .int (nI (8 * i_3) - 8)), (5, .int (nI n_7)), (4, .int (nI i_1)), (3, .int (nI i_4)), (0, .ref x), (1, .int (nI f)), (2, .int (nI t))] [] Φl2 _ _ _
      refine z_iload B dX12_appendRecord_55 0 rfl ?_
      refine z_if_lt (tgt := 90) B dX12_appendRecord_57 rfl (fun c_3 => ?_) (fun c_3 => ?_)
      · have e_4 : i_3 = 0 := (m8_lt (j := i_3) (by omega)).1 c_3
        refine z_iinc (k := 2) (v := nI (i_1 + 1)) (lv' := [(4, .int (nI (i_1 + 1))), (6, .int (nI (8 * i_3) - 8)), (5, .int (nI n_7)), (3, .int (nI i_4)), (0, .ref x), (1, .int (nI f)), (2, .int (nI t))]) B dX12_appendRecord_90 rfl (nI_add i_1 1) (Nat.le_of_ble_eq_true rfl) rfl ?_
        refine z_goto (tgt := 11) B dX12_appendRecord_93 rfl ?_
        refine z_lv [0, 3, 4, 5, 6] rfl ?_
        exact ih1 (i_1 + 1, i_4) Φl2 (show 9 - (i_1 + 1) < 9 - i_1 by omega) ⟨hI8, (fun b9 h9 => ((hF6 b9 (fun j9 h8 h7 => h9 j9 h8 (show j9 = 7 by have h6 : j9 = 7 := h7; omega))).trans ((hF5 b9 (fun j9 h8 h7 => (show False from h7).elim)).trans ((hF4 b9 (fun j9 h8 h7 => (show False from h7).elim)).trans ((hF3 b9 (fun j9 h8 h7 => (show False from h7).elim)).trans ((hF2 b9 (fun j9 h8 h7 => (show False from h7).elim)).trans ((hF1 b9 (fun j9 h8 h7 => h9 j9 h8 (show j9 = 7 by have h6 : j9 = 7 := h7; omega))).trans rfl))))))), (show (i_1 + 1) ≤ 9 by omega), (show i_4 ≤ 30 * pe + lsm f_1 (15 + 9 * t) (i_1 + 1) by omega), trivial⟩
      · have e_5 : 1 ≤ i_3 := (m8_lt (j := i_3) (by omega)).2 c_3
        refine z_aload_n B dX12_appendRecord_60 rfl 4 rfl ?_
        have h_16 : Φl2 x = some (o_ 14 [.int v_1, .ref (x + 1), .ref (x + 2), .int v_2, .int v_3, .int (nI n_1), .int v_4, .int v_5, .ref (x + 3), .ref (x + 4), .int v_6, .long v_7, .ref (x + 5), .int (nI fl), .int v_8, .long v_9, .long v_10, .long v_11, .long v_12, .ref (x + 6), .ref (x + 7), .int (nI pe), .ref (x + 8), .int (nI le), .ref (x + 9), .ref (x + 10), .int (nI n_2), .ref (x + 11), .ref (x + 12), .ref (x + 13), .ref (x + 14), .ref (x + 15), .ref (x + 16), .int (nI n_3), .long v_13, .ref (x + 17), .ref (x + 18), .ref (x + 19), .ref (x + 20), .ref (x + 21), .ref (x + 22), .int (nI n_4), .ref (x + 23), .ref (x + 24), .int (nI n_5), .ref (x + 25), .int (nI il), .int (nI nx), .int ec, .int v_14, .int kn, .int v_15, .int v_16, .long v_17]) := ((hF6 x (fun j9 h8 h7 => by have h6 : j9 = 7 := h7; omega)).trans ((hF5 x (fun j9 h8 h7 => (show False from h7).elim)).trans ((hF4 x (fun j9 h8 h7 => (show False from h7).elim)).trans h_15)))
        refine z_get (ref := "FlowExporterModel") (C := RX12) (T := TX12) (N := 54) (ci := 14) (v := .ref (x + 7)) B (by decide +kernel) rfl 20 (by decide) (by decide +kernel) rfl h_16 rfl dX12_appendRecord_61 ?_
        refine z_iload_n B dX12_appendRecord_64 rfl 3 rfl ?_
        refine z_aload_n B dX12_appendRecord_65 rfl 4 rfl ?_
        refine z_iload_n B dX12_appendRecord_66 rfl 5 rfl ?_
        refine z_iload B dX12_appendRecord_67 1 rfl ?_
        refine z_callV (As := [.int (nI f), .int (nI n_7)]) (rest := [.int (nI i_4), .ref (x + 7)]) B (r_contentOf G l Φl2 sz x rd fl pe le nx il kn ec f n_7 hx hI8 (show f < 12 by omega) (show n_7 ≤ 8 by omega)) (cwV 2 B.1.2.2.2.2 gX12_appendRecord_X12_contentOf rfl rfl rfl (by decide +kernel) ⟨Nat.le_of_ble_eq_true rfl, Nat.le_of_ble_eq_true rfl⟩) h_16 rfl rfl rfl rfl (Nat.le_of_ble_eq_true rfl) dX12_appendRecord_69 ⟨Nat.le_of_ble_eq_true rfl, Nat.le_of_ble_eq_true rfl⟩ (fun r_7 Φ7 sz5 st5 hp5 hs5 => ?_)
        obtain ⟨⟨v_19, rfl⟩, hq5, hI9, hF7⟩ := hp5
        subst sz5
        replace hs5 : st5 = [.long v_19, .int (nI i_4), .ref (x + 7)] := hs5
        subst st5
        replace hI9 : Im G x (rd, NN, fl, pe, le, nx, il, kn, ec) Φ7 := hI9
        refine z_iload B dX12_appendRecord_72 0 rfl ?_
        refine z_lshr (v := v_19 >>> ((nI (8 * i_3) - 8 : Int32).toInt64 &&& 63)) B dX12_appendRecord_74 rfl ?_
        refine z_fl (fun v_20 => ?_)
        refine z_ldc2 (v := 255) B (by decide +kernel) dX12_appendRecord_75 ?_
        refine z_land B dX12_appendRecord_78 ?_
        refine z_fl (fun v_21 => ?_)
        refine z_l2i (v := v_21.toInt32) B dX12_appendRecord_79 rfl ?_
        refine z_fi (fun v_22 => ?_)
        obtain ⟨f_3, h_17⟩ := imk (k := 7) hI9
        have h_18 : Φ7 (x + 7) = some (ai_ G 720 f_3) := h_17
        refine z_iast B h_18 (Nat.le_trans hx (Nat.le_add_right x 7)) (vp_in_nI (by omega) (by omega)) dX12_appendRecord_80 (fun Φ8 hΦ3 => ?_)
        have h_19 : Φ8 (x + 7) = some (ai_ G 720 (upd f_3 (nI i_4).toNatClampNeg v_22)) := fset_at hΦ3
        have hI10 : Im G x (rd, NN, fl, pe, le, nx, il, kn, ec) Φ8 := Im.put (k := 7) hI9 hΦ3 ⟨_, rfl⟩
        refine z_iinc (k := 3) (v := nI (i_4 + 1)) (lv' := [(3, .int (nI (i_4 + 1))), (6, .int (nI (8 * i_3) - 8)), (5, .int (nI n_7)), (4, .int (nI i_1)), (0, .ref x), (1, .int (nI f)), (2, .int (nI t))]) B dX12_appendRecord_81 rfl (nI_add i_4 1) (Nat.le_of_ble_eq_true rfl) rfl ?_
        refine z_iinc (k := 1) (v := nI (8 * (i_3 - 1)) - 8) (lv' := [(6, .int (nI (8 * (i_3 - 1)) - 8)), (3, .int (nI (i_4 + 1))), (5, .int (nI n_7)), (4, .int (nI i_1)), (0, .ref x), (1, .int (nI f)), (2, .int (nI t))]) B dX12_appendRecord_84 rfl (m8_dec (show 1 ≤ i_3 by omega)) (Nat.le_of_ble_eq_true rfl) rfl ?_
        refine z_goto (tgt := 55) B dX12_appendRecord_87 rfl ?_
        refine z_lv [0, 2, 3, 1, 4, 5, 6] rfl ?_
        exact ih2 (i_3 - 1, i_4 + 1) Φ8 (show (i_3 - 1) < i_3 by omega) ⟨hI10, (fun b9 h9 => ((fset_fr hΦ3 (fun h8 => h9 (7) h8 (show 7 = 7 by omega))).trans ((hF7 b9 (fun j9 h8 h7 => (show False from h7).elim)).trans ((hF6 b9 (fun j9 h8 h7 => h9 j9 h8 (show j9 = 7 by have h6 : j9 = 7 := h7; omega))).trans rfl)))), (show (i_3 - 1) ≤ 8 by omega), (show (i_4 + 1) + (i_3 - 1) ≤ i_2 + lnN n_7 by omega), trivial⟩
    · refine z_goto (tgt := 90) B dX12_appendRecord_39 rfl ?_
      refine z_iinc (k := 1) (v := nI (i_1 + 1)) (lv' := [(4, .int (nI (i_1 + 1))), (5, .int (nI n_7)), (3, .int (nI i_2)), (0, .ref x), (1, .int (nI f)), (2, .int (nI t))]) B dX12_appendRecord_90 rfl (nI_add i_1 1) (Nat.le_of_ble_eq_true rfl) rfl ?_
      refine z_goto (tgt := 11) B dX12_appendRecord_93 rfl ?_
      refine z_lv [0, 2, 3, 4, 5] rfl ?_
      exact ih1 (i_1 + 1, i_2) Φ5 (show 9 - (i_1 + 1) < 9 - i_1 by omega) ⟨hI6, (fun b9 h9 => ((hF4 b9 (fun j9 h8 h7 => (show False from h7).elim)).trans ((hF3 b9 (fun j9 h8 h7 => (show False from h7).elim)).trans ((hF2 b9 (fun j9 h8 h7 => (show False from h7).elim)).trans ((hF1 b9 (fun j9 h8 h7 => h9 j9 h8 (show j9 = 7 by have h6 : j9 = 7 := h7; omega))).trans rfl))))), (show (i_1 + 1) ≤ 9 by omega), (show i_2 ≤ 30 * pe + lsm f_1 (15 + 9 * t) (i_1 + 1) by omega), trivial⟩

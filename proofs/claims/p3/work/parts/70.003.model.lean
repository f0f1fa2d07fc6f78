set_option maxHeartbeats 4000000 in
set_option maxRecDepth 100000 in
theorem r_advanceToken (G : EnvG) (l : Launch) (Φ : Hm) (sz x : Nat) (rd : (Nat → Int32) → Prop) (fl : Nat) (pe : Nat) (le : Nat) (nx : Nat) (il : Nat) (qu : Nat) (kn : Int32) (ec : Int32) (nu : Int32) (va : Int64)  (hx : G.2.2.2 ≤ x) (hI : Im G x (rd, NN, fl, pe, le, nx, il, qu, kn, ec, nu, va) Φ)  : Ct G l yX12_advanceToken wsX12_advanceToken ({ frames := 2, cells := 0, slots := 0, locals := 45 }) 0 0 [.ref x] Φ sz (fun v Φ1 sz1 => (v = none) ∧ sz1 = sz ∧ (∃ (nx1 : Nat) (kn1 : Int32) (va1 : Int64), (nx ≤ nx1) ∧ (kn1 = 0 ∨ nx < nx1) ∧ Im G x (rd, NN, fl, pe, le, nx1, il, qu, kn1, ec, nu, va1) Φ1) ∧ Fr x (fun j9 => j9 = 0) Φ Φ1) := by
  refine Ct.of (cc := cX12_advanceToken) (maxL := 2) (ret := none) (by decide) rfl (Nat.le_of_ble_eq_true rfl) ?_
  intro p9 e9 s9 m9 w9 t9 k9 B
  show Z p9 l e9 _ s9 m9 _ w9 t9 k9 _ G 2 0 [(0, .ref x)] [] Φ sz 0 0
  refine z_lv [0] rfl ?_
  refine z_loop (α := Nat) (fun (a9 : Nat) Φi => Im G x (rd, NN, fl, pe, le, a9, il, qu, kn, ec, nu, va) Φi ∧ Fr x (fun j9 => j9 = 0) Φ Φi ∧ (nx ≤ a9) ∧ True) (fun a9 => [(0, .ref x)]) (fun a9 => il - a9) ?_ (nx) ⟨hI, fun _ _ => rfl, (show nx ≤ nx by omega), trivial⟩
  rintro i_1 Φl1 ⟨hI1, hF1, b_1, -⟩ ih1
  replace hI1 : Im G x (rd, NN, fl, pe, le, i_1, il, qu, kn, ec, nu, va) Φl1 := hI1
  replace b_1 : nx ≤ i_1 := b_1
  show Z p9 l e9 _ s9 m9 _ w9 t9 k9 _ G 2 0 [(0, .ref x)] [] Φl1 _ _ _
  obtain ⟨f_1, h_1, r_1⟩ := imk (k := 25) hI1
  have h_2 : Φl1 (x + 25) = some (ab_ G 700 f_1) := h_1
  refine z_aload_n B dX12_advanceToken_0 rfl 0 rfl ?_
  refine z_aload_n B dX12_advanceToken_1 rfl 0 rfl ?_
  obtain ⟨v_1, v_2, v_3, n_1, v_4, v_5, v_6, v_7, v_8, v_9, v_10, v_11, v_12, n_2, v_13, n_3, n_4, v_14, v_15, h_3, b_13, b_2, b_3, b_4, b_5, b_6, b_7, b_8, b_9, b_10, b_11, b_12⟩ := im0 hI1
  replace b_2 : 1 ≤ n_1 := b_2
  replace b_3 : n_1 ≤ 1024 := b_3
  replace b_4 : fl ≤ 12 := b_4
  replace b_5 : pe ≤ 24 := b_5
  replace b_6 : le ≤ 700 := b_6
  replace b_7 : qu ≤ 12 := b_7
  replace b_8 : n_2 ≤ 8 := b_8
  replace b_9 : n_3 ≤ 24 := b_9
  replace b_10 : n_4 ≤ 24 := b_10
  replace b_11 : il ≤ 700 := b_11
  replace b_12 : i_1 ≤ 701 := b_12
  have h_4 : Φl1 x = some (o_ 14 [.int v_1, .ref (x + 1), .ref (x + 2), .int v_2, .int v_3, .int (nI n_1), .int v_4, .int v_5, .ref (x + 3), .ref (x + 4), .int v_6, .long v_7, .ref (x + 5), .int (nI fl), .int v_8, .long v_9, .long v_10, .long v_11, .long v_12, .ref (x + 6), .ref (x + 7), .int (nI pe), .ref (x + 8), .int (nI le), .ref (x + 9), .ref (x + 10), .int (nI qu), .ref (x + 11), .ref (x + 12), .ref (x + 13), .ref (x + 14), .ref (x + 15), .ref (x + 16), .int (nI n_2), .long v_13, .ref (x + 17), .ref (x + 18), .ref (x + 19), .ref (x + 20), .ref (x + 21), .ref (x + 22), .int (nI n_3), .ref (x + 23), .ref (x + 24), .int (nI n_4), .ref (x + 25), .int (nI il), .int (nI i_1), .int ec, .int v_14, .int kn, .int v_15, .int nu, .long va]) := h_3
  refine z_get (ref := "FlowExporterModel") (C := RX12) (T := TX12) (N := 54) (ci := 14) (v := .int (nI i_1)) B (by decide +kernel) rfl 47 (by decide) (by decide +kernel) rfl h_4 rfl dX12_advanceToken_2 ?_
  refine z_callV (As := [.int (nI i_1)]) (rest := []) B (r_byteAt G l Φl1 sz x rd fl pe le i_1 il qu kn ec nu va f_1 i_1 hx hI1 h_2 (show i_1 ≤ 701 by omega)) (cwV 1 B.1.2.2.2.2 gX12_advanceToken_X12_byteAt rfl rfl rfl (by decide +kernel) ⟨Nat.le_of_ble_eq_true rfl, Nat.le_of_ble_eq_true rfl⟩) h_4 rfl rfl rfl rfl (Nat.le_of_ble_eq_true rfl) dX12_advanceToken_5 ⟨Nat.le_of_ble_eq_true rfl, Nat.le_of_ble_eq_true rfl⟩ (fun r_2 Φ1 sz1 st1 hp1 hs1 => ?_)
  obtain ⟨rfl, hq1, hI2, hF2⟩ := hp1
  subst sz1
  replace hs1 : st1 = [.int (bA f_1 il i_1)] := hs1
  subst st1
  replace hI2 : Im G x (rd, NN, fl, pe, le, i_1, il, qu, kn, ec, nu, va) Φ1 := hI2
  refine z_bipush (v := 32) B dX12_advanceToken_8 rfl ?_
  refine z_icmp_eq (tgt := 26) B dX12_advanceToken_10 rfl (fun c_1 => ?_) (fun c_1 => ?_)
  · have b_14 := bA_eq (by decide) c_1
    refine z_aload_n B dX12_advanceToken_26 rfl 0 rfl ?_
    refine z_dup B dX12_advanceToken_27 rfl ?_
    have h_5 : Φ1 x = some (o_ 14 [.int v_1, .ref (x + 1), .ref (x + 2), .int v_2, .int v_3, .int (nI n_1), .int v_4, .int v_5, .ref (x + 3), .ref (x + 4), .int v_6, .long v_7, .ref (x + 5), .int (nI fl), .int v_8, .long v_9, .long v_10, .long v_11, .long v_12, .ref (x + 6), .ref (x + 7), .int (nI pe), .ref (x + 8), .int (nI le), .ref (x + 9), .ref (x + 10), .int (nI qu), .ref (x + 11), .ref (x + 12), .ref (x + 13), .ref (x + 14), .ref (x + 15), .ref (x + 16), .int (nI n_2), .long v_13, .ref (x + 17), .ref (x + 18), .ref (x + 19), .ref (x + 20), .ref (x + 21), .ref (x + 22), .int (nI n_3), .ref (x + 23), .ref (x + 24), .int (nI n_4), .ref (x + 25), .int (nI il), .int (nI i_1), .int ec, .int v_14, .int kn, .int v_15, .int nu, .long va]) := ((hF2 x (fun j9 h8 h7 => (show False from h7).elim)).trans h_4)
    refine z_get (ref := "FlowExporterModel") (C := RX12) (T := TX12) (N := 54) (ci := 14) (v := .int (nI i_1)) B (by decide +kernel) rfl 47 (by decide) (by decide +kernel) rfl h_5 rfl dX12_advanceToken_28 ?_
    refine z_iconst (v := 1) B dX12_advanceToken_31 rfl ?_
    refine z_iadd B dX12_advanceToken_32 ?_
    refine z_top (st1 := [.int (nI (i_1 + 1)), .ref x]) (congrArg (fun w9 : Int32 => ([.int w9, .ref x] : List Value)) (nI_add i_1 1)) ?_
    refine z_put (ref := "FlowExporterModel") (C := RX12) (T := TX12) (N := 54) (ci := 14) (v := .int (nI (i_1 + 1))) B (by decide +kernel) tyX12 tyX12_ok nmX12 rfl 47 (by decide) (by decide +kernel) rfl (Or.inl rfl) h_5 hx rfl rfl (Nat.le_of_ble_eq_true rfl) dX12_advanceToken_33 (fun Φ2 hΦ1 => ?_)
    have h_6 : Φ2 x = some (o_ 14 [.int v_1, .ref (x + 1), .ref (x + 2), .int v_2, .int v_3, .int (nI n_1), .int v_4, .int v_5, .ref (x + 3), .ref (x + 4), .int v_6, .long v_7, .ref (x + 5), .int (nI fl), .int v_8, .long v_9, .long v_10, .long v_11, .long v_12, .ref (x + 6), .ref (x + 7), .int (nI pe), .ref (x + 8), .int (nI le), .ref (x + 9), .ref (x + 10), .int (nI qu), .ref (x + 11), .ref (x + 12), .ref (x + 13), .ref (x + 14), .ref (x + 15), .ref (x + 16), .int (nI n_2), .long v_13, .ref (x + 17), .ref (x + 18), .ref (x + 19), .ref (x + 20), .ref (x + 21), .ref (x + 22), .int (nI n_3), .ref (x + 23), .ref (x + 24), .int (nI n_4), .ref (x + 25), .int (nI il), .int (nI (i_1 + 1)), .int ec, .int v_14, .int kn, .int v_15, .int nu, .long va]) := fset_at hΦ1
    have hI3 : Im G x (rd, NN, fl, pe, le, i_1 + 1, il, qu, kn, ec, nu, va) Φ2 := Im.put0 hI2 hΦ1 ⟨v_1, v_2, v_3, n_1, v_4, v_5, v_6, v_7, v_8, v_9, v_10, v_11, v_12, n_2, v_13, n_3, n_4, v_14, v_15, rfl, b_13, (show 1 ≤ n_1 by omega), (show n_1 ≤ 1024 by omega), (show fl ≤ 12 by omega), (show pe ≤ 24 by omega), (show le ≤ 700 by omega), (show qu ≤ 12 by omega), (show n_2 ≤ 8 by omega), (show n_3 ≤ 24 by omega), (show n_4 ≤ 24 by omega), (show il ≤ 700 by omega), (show (i_1 + 1) ≤ 701 by omega)⟩
    refine z_goto (tgt := 0) B dX12_advanceToken_36 rfl ?_
    refine z_lv [0] rfl ?_
    exact ih1 (i_1 + 1) Φ2 (show il - (i_1 + 1) < il - i_1 by omega) ⟨hI3, (fun b9 h9 => ((fset_fr hΦ1 (fun h8 => h9 (0) h8 (show 0 = 0 by omega))).trans ((hF2 b9 (fun j9 h8 h7 => (show False from h7).elim)).trans ((hF1 b9 (fun j9 h8 h7 => h9 j9 h8 (show j9 = 0 by have h6 : j9 = 0 := h7; omega))).trans rfl)))), (show nx ≤ (i_1 + 1) by omega), trivial⟩
  · refine z_aload_n B dX12_advanceToken_13 rfl 0 rfl ?_
    refine z_aload_n B dX12_advanceToken_14 rfl 0 rfl ?_
    have h_7 : Φ1 x = some (o_ 14 [.int v_1, .ref (x + 1), .ref (x + 2), .int v_2, .int v_3, .int (nI n_1), .int v_4, .int v_5, .ref (x + 3), .ref (x + 4), .int v_6, .long v_7, .ref (x + 5), .int (nI fl), .int v_8, .long v_9, .long v_10, .long v_11, .long v_12, .ref (x + 6), .ref (x + 7), .int (nI pe), .ref (x + 8), .int (nI le), .ref (x + 9), .ref (x + 10), .int (nI qu), .ref (x + 11), .ref (x + 12), .ref (x + 13), .ref (x + 14), .ref (x + 15), .ref (x + 16), .int (nI n_2), .long v_13, .ref (x + 17), .ref (x + 18), .ref (x + 19), .ref (x + 20), .ref (x + 21), .ref (x + 22), .int (nI n_3), .ref (x + 23), .ref (x + 24), .int (nI n_4), .ref (x + 25), .int (nI il), .int (nI i_1), .int ec, .int v_14, .int kn, .int v_15, .int nu, .long va]) := ((hF2 x (fun j9 h8 h7 => (show False from h7).elim)).trans h_4)
    refine z_get (ref := "FlowExporterModel") (C := RX12) (T := TX12) (N := 54) (ci := 14) (v := .int (nI i_1)) B (by decide +kernel) rfl 47 (by decide) (by decide +kernel) rfl h_7 rfl dX12_advanceToken_15 ?_
    have h_8 : Φ1 (x + 25) = some (ab_ G 700 f_1) := ((hF2 (x + 25) (fun j9 h8 h7 => (show False from h7).elim)).trans h_2)
    refine z_callV (As := [.int (nI i_1)]) (rest := []) B (r_byteAt G l Φ1 sz x rd fl pe le i_1 il qu kn ec nu va f_1 i_1 hx hI2 h_8 (show i_1 ≤ 701 by omega)) (cwV 1 B.1.2.2.2.2 gX12_advanceToken_X12_byteAt rfl rfl rfl (by decide +kernel) ⟨Nat.le_of_ble_eq_true rfl, Nat.le_of_ble_eq_true rfl⟩) h_7 rfl rfl rfl rfl (Nat.le_of_ble_eq_true rfl) dX12_advanceToken_18 ⟨Nat.le_of_ble_eq_true rfl, Nat.le_of_ble_eq_true rfl⟩ (fun r_3 Φ3 sz2 st2 hp2 hs2 => ?_)
    obtain ⟨rfl, hq2, hI4, hF3⟩ := hp2
    subst sz2
    replace hs2 : st2 = [.int (bA f_1 il i_1)] := hs2
    subst st2
    replace hI4 : Im G x (rd, NN, fl, pe, le, i_1, il, qu, kn, ec, nu, va) Φ3 := hI4
    refine z_bipush (v := 10) B dX12_advanceToken_21 rfl ?_
    refine z_icmp_ne (tgt := 39) B dX12_advanceToken_23 rfl (fun c_2 => ?_) (fun c_2 => ?_)
    · refine z_aload_n B dX12_advanceToken_39 rfl 0 rfl ?_
      refine z_aload_n B dX12_advanceToken_40 rfl 0 rfl ?_
      have h_9 : Φ3 x = some (o_ 14 [.int v_1, .ref (x + 1), .ref (x + 2), .int v_2, .int v_3, .int (nI n_1), .int v_4, .int v_5, .ref (x + 3), .ref (x + 4), .int v_6, .long v_7, .ref (x + 5), .int (nI fl), .int v_8, .long v_9, .long v_10, .long v_11, .long v_12, .ref (x + 6), .ref (x + 7), .int (nI pe), .ref (x + 8), .int (nI le), .ref (x + 9), .ref (x + 10), .int (nI qu), .ref (x + 11), .ref (x + 12), .ref (x + 13), .ref (x + 14), .ref (x + 15), .ref (x + 16), .int (nI n_2), .long v_13, .ref (x + 17), .ref (x + 18), .ref (x + 19), .ref (x + 20), .ref (x + 21), .ref (x + 22), .int (nI n_3), .ref (x + 23), .ref (x + 24), .int (nI n_4), .ref (x + 25), .int (nI il), .int (nI i_1), .int ec, .int v_14, .int kn, .int v_15, .int nu, .long va]) := ((hF3 x (fun j9 h8 h7 => (show False from h7).elim)).trans h_7)
      refine z_get (ref := "FlowExporterModel") (C := RX12) (T := TX12) (N := 54) (ci := 14) (v := .int (nI i_1)) B (by decide +kernel) rfl 47 (by decide) (by decide +kernel) rfl h_9 rfl dX12_advanceToken_41 ?_
      refine z_put (ref := "FlowExporterModel") (C := RX12) (T := TX12) (N := 54) (ci := 14) (v := .int (nI i_1)) B (by decide +kernel) tyX12 tyX12_ok nmX12 rfl 51 (by decide) (by decide +kernel) rfl (Or.inl rfl) h_9 hx rfl rfl (Nat.le_of_ble_eq_true rfl) dX12_advanceToken_44 (fun Φ4 hΦ2 => ?_)
      have h_10 : Φ4 x = some (o_ 14 [.int v_1, .ref (x + 1), .ref (x + 2), .int v_2, .int v_3, .int (nI n_1), .int v_4, .int v_5, .ref (x + 3), .ref (x + 4), .int v_6, .long v_7, .ref (x + 5), .int (nI fl), .int v_8, .long v_9, .long v_10, .long v_11, .long v_12, .ref (x + 6), .ref (x + 7), .int (nI pe), .ref (x + 8), .int (nI le), .ref (x + 9), .ref (x + 10), .int (nI qu), .ref (x + 11), .ref (x + 12), .ref (x + 13), .ref (x + 14), .ref (x + 15), .ref (x + 16), .int (nI n_2), .long v_13, .ref (x + 17), .ref (x + 18), .ref (x + 19), .ref (x + 20), .ref (x + 21), .ref (x + 22), .int (nI n_3), .ref (x + 23), .ref (x + 24), .int (nI n_4), .ref (x + 25), .int (nI il), .int (nI i_1), .int ec, .int v_14, .int kn, .int (nI i_1), .int nu, .long va]) := fset_at hΦ2
      have hI5 : Im G x (rd, NN, fl, pe, le, i_1, il, qu, kn, ec, nu, va) Φ4 := Im.put0 hI4 hΦ2 ⟨v_1, v_2, v_3, n_1, v_4, v_5, v_6, v_7, v_8, v_9, v_10, v_11, v_12, n_2, v_13, n_3, n_4, v_14, nI i_1, rfl, b_13, (show 1 ≤ n_1 by omega), (show n_1 ≤ 1024 by omega), (show fl ≤ 12 by omega), (show pe ≤ 24 by omega), (show le ≤ 700 by omega), (show qu ≤ 12 by omega), (show n_2 ≤ 8 by omega), (show n_3 ≤ 24 by omega), (show n_4 ≤ 24 by omega), (show il ≤ 700 by omega), (show i_1 ≤ 701 by omega)⟩
      refine z_aload_n B dX12_advanceToken_47 rfl 0 rfl ?_
      refine z_lconst (v := 0) B dX12_advanceToken_48 rfl ?_
      refine z_put (ref := "FlowExporterModel") (C := RX12) (T := TX12) (N := 54) (ci := 14) (v := .long 0) B (by decide +kernel) tyX12 tyX12_ok nmX12 rfl 53 (by decide) (by decide +kernel) rfl (Or.inl rfl) h_10 hx rfl rfl (Nat.le_of_ble_eq_true rfl) dX12_advanceToken_49 (fun Φ5 hΦ3 => ?_)
      have h_11 : Φ5 x = some (o_ 14 [.int v_1, .ref (x + 1), .ref (x + 2), .int v_2, .int v_3, .int (nI n_1), .int v_4, .int v_5, .ref (x + 3), .ref (x + 4), .int v_6, .long v_7, .ref (x + 5), .int (nI fl), .int v_8, .long v_9, .long v_10, .long v_11, .long v_12, .ref (x + 6), .ref (x + 7), .int (nI pe), .ref (x + 8), .int (nI le), .ref (x + 9), .ref (x + 10), .int (nI qu), .ref (x + 11), .ref (x + 12), .ref (x + 13), .ref (x + 14), .ref (x + 15), .ref (x + 16), .int (nI n_2), .long v_13, .ref (x + 17), .ref (x + 18), .ref (x + 19), .ref (x + 20), .ref (x + 21), .ref (x + 22), .int (nI n_3), .ref (x + 23), .ref (x + 24), .int (nI n_4), .ref (x + 25), .int (nI il), .int (nI i_1), .int ec, .int v_14, .int kn, .int (nI i_1), .int nu, .long 0]) := fset_at hΦ3
      have hI6 : Im G x (rd, NN, fl, pe, le, i_1, il, qu, kn, ec, nu, 0) Φ5 := Im.put0 hI5 hΦ3 ⟨v_1, v_2, v_3, n_1, v_4, v_5, v_6, v_7, v_8, v_9, v_10, v_11, v_12, n_2, v_13, n_3, n_4, v_14, nI i_1, rfl, b_13, (show 1 ≤ n_1 by omega), (show n_1 ≤ 1024 by omega), (show fl ≤ 12 by omega), (show pe ≤ 24 by omega), (show le ≤ 700 by omega), (show qu ≤ 12 by omega), (show n_2 ≤ 8 by omega), (show n_3 ≤ 24 by omega), (show n_4 ≤ 24 by omega), (show il ≤ 700 by omega), (show i_1 ≤ 701 by omega)⟩
      refine z_aload_n B dX12_advanceToken_52 rfl 0 rfl ?_
      refine z_aload_n B dX12_advanceToken_53 rfl 0 rfl ?_
      refine z_get (ref := "FlowExporterModel") (C := RX12) (T := TX12) (N := 54) (ci := 14) (v := .int (nI i_1)) B (by decide +kernel) rfl 51 (by decide) (by decide +kernel) rfl h_11 rfl dX12_advanceToken_54 ?_
      have h_12 : Φ5 (x + 25) = some (ab_ G 700 f_1) := ((fset_fr hΦ3 (ne_off (x := x) (i := 25) (j := 0) rfl)).trans ((fset_fr hΦ2 (ne_off (x := x) (i := 25) (j := 0) rfl)).trans ((hF3 (x + 25) (fun j9 h8 h7 => (show False from h7).elim)).trans h_8)))
      refine z_callV (As := [.int (nI i_1)]) (rest := []) B (r_byteAt G l Φ5 sz x rd fl pe le i_1 il qu kn ec nu 0 f_1 i_1 hx hI6 h_12 (show i_1 ≤ 701 by omega)) (cwV 1 B.1.2.2.2.2 gX12_advanceToken_X12_byteAt rfl rfl rfl (by decide +kernel) ⟨Nat.le_of_ble_eq_true rfl, Nat.le_of_ble_eq_true rfl⟩) h_11 rfl rfl rfl rfl (Nat.le_of_ble_eq_true rfl) dX12_advanceToken_57 ⟨Nat.le_of_ble_eq_true rfl, Nat.le_of_ble_eq_true rfl⟩ (fun r_4 Φ6 sz3 st3 hp3 hs3 => ?_)
      obtain ⟨rfl, hq3, hI7, hF4⟩ := hp3
      subst sz3
      replace hs3 : st3 = [.int (bA f_1 il i_1)] := hs3
      subst st3
      replace hI7 : Im G x (rd, NN, fl, pe, le, i_1, il, qu, kn, ec, nu, 0) Φ6 := hI7
      refine z_istore_n (lv' := [(1, .int (bA f_1 il i_1)), (0, .ref x)]) B dX12_advanceToken_60 rfl (Nat.le_of_ble_eq_true rfl) rfl ?_
      refine z_aload_n B dX12_advanceToken_61 rfl 1 rfl ?_
      refine z_iload_n B dX12_advanceToken_62 rfl 0 rfl ?_
      refine z_iconst (v := (-1)) B dX12_advanceToken_63 rfl ?_
      refine z_icmp_ne (tgt := 71) B dX12_advanceToken_64 rfl (fun c_3 => ?_) (fun c_3 => ?_)
      · have b_15 := bA_lt c_3
        refine z_iload_n B dX12_advanceToken_71 rfl 0 rfl ?_
        refine z_callS (As := [.int (bA f_1 il i_1)]) (rest := [.ref x]) B (r_isLetter G l Φ6 sz x rd fl pe le i_1 il qu kn ec nu 0 (bA f_1 il i_1) hx hI7 ) (va_cwS 1 B.1.2.2.2.2 gX12_advanceToken_X12_isLetter rfl rfl rfl (by decide +kernel) ⟨Nat.le_of_ble_eq_true rfl, Nat.le_of_ble_eq_true rfl⟩) rfl rfl (Nat.le_of_ble_eq_true rfl) dX12_advanceToken_72 ⟨Nat.le_of_ble_eq_true rfl, Nat.le_of_ble_eq_true rfl⟩ (fun r_5 Φ7 sz4 st4 hp4 hs4 => ?_)
        obtain ⟨ha1, hq4, hI8, hF5⟩ := hp4
        subst sz4
        replace hI8 : Im G x (rd, NN, fl, pe, le, i_1, il, qu, kn, ec, nu, 0) Φ7 := hI8
        rcases ha1 with ⟨rfl, hL1⟩ | ⟨rfl, hL1⟩
        · replace hs4 : st4 = [.int 0, .ref x] := hs4
          subst st4
          replace hL1 : ¬ inP (bA f_1 il i_1).toInt64 97 122 := hL1
          refine z_if_eq (tgt := 82) B dX12_advanceToken_75 rfl (fun c_4 => ?_) (fun h9 => absurd (by decide) h9)
          refine z_iload_n B dX12_advanceToken_82 rfl 0 rfl ?_
          refine z_callS (As := [.int (bA f_1 il i_1)]) (rest := [.ref x]) B (r_isDigit G l Φ7 sz x rd fl pe le i_1 il qu kn ec nu 0 (bA f_1 il i_1) hx hI8 ) (va_cwS 1 B.1.2.2.2.2 gX12_advanceToken_X12_isDigit rfl rfl rfl (by decide +kernel) ⟨Nat.le_of_ble_eq_true rfl, Nat.le_of_ble_eq_true rfl⟩) rfl rfl (Nat.le_of_ble_eq_true rfl) dX12_advanceToken_83 ⟨Nat.le_of_ble_eq_true rfl, Nat.le_of_ble_eq_true rfl⟩ (fun r_6 Φ8 sz5 st5 hp5 hs5 => ?_)
          obtain ⟨ha2, hq5, hI9, hF6⟩ := hp5
          subst sz5
          replace hI9 : Im G x (rd, NN, fl, pe, le, i_1, il, qu, kn, ec, nu, 0) Φ8 := hI9
          rcases ha2 with ⟨rfl, hL2⟩ | ⟨rfl, hL2⟩
          · replace hs5 : st5 = [.int 0, .ref x] := hs5
            subst st5
            replace hL2 : ¬ inP (bA f_1 il i_1).toInt64 48 57 := hL2
            refine z_if_eq (tgt := 93) B dX12_advanceToken_86 rfl (fun c_5 => ?_) (fun h9 => absurd (by decide) h9)
            refine z_iload_n B dX12_advanceToken_93 rfl 0 rfl ?_
            refine z_bipush (v := 59) B dX12_advanceToken_94 rfl ?_
            refine z_icmp_ne (tgt := 103) B dX12_advanceToken_96 rfl (fun c_6 => ?_) (fun c_6 => ?_)
            · refine z_iconst (v := 4) B dX12_advanceToken_103 rfl ?_
              have h_13 : Φ8 x = some (o_ 14 [.int v_1, .ref (x + 1), .ref (x + 2), .int v_2, .int v_3, .int (nI n_1), .int v_4, .int v_5, .ref (x + 3), .ref (x + 4), .int v_6, .long v_7, .ref (x + 5), .int (nI fl), .int v_8, .long v_9, .long v_10, .long v_11, .long v_12, .ref (x + 6), .ref (x + 7), .int (nI pe), .ref (x + 8), .int (nI le), .ref (x + 9), .ref (x + 10), .int (nI qu), .ref (x + 11), .ref (x + 12), .ref (x + 13), .ref (x + 14), .ref (x + 15), .ref (x + 16), .int (nI n_2), .long v_13, .ref (x + 17), .ref (x + 18), .ref (x + 19), .ref (x + 20), .ref (x + 21), .ref (x + 22), .int (nI n_3), .ref (x + 23), .ref (x + 24), .int (nI n_4), .ref (x + 25), .int (nI il), .int (nI i_1), .int ec, .int v_14, .int kn, .int (nI i_1), .int nu, .long 0]) := ((hF6 x (fun j9 h8 h7 => (show False from h7).elim)).trans ((hF5 x (fun j9 h8 h7 => (show False from h7).elim)).trans ((hF4 x (fun j9 h8 h7 => (show False from h7).elim)).trans h_11)))
              refine z_put (ref := "FlowExporterModel") (C := RX12) (T := TX12) (N := 54) (ci := 14) (v := .int 4) B (by decide +kernel) tyX12 tyX12_ok nmX12 rfl 50 (by decide) (by decide +kernel) rfl (Or.inl rfl) h_13 hx rfl rfl (Nat.le_of_ble_eq_true rfl) dX12_advanceToken_104 (fun Φ9 hΦ4 => ?_)
              have h_14 : Φ9 x = some (o_ 14 [.int v_1, .ref (x + 1), .ref (x + 2), .int v_2, .int v_3, .int (nI n_1), .int v_4, .int v_5, .ref (x + 3), .ref (x + 4), .int v_6, .long v_7, .ref (x + 5), .int (nI fl), .int v_8, .long v_9, .long v_10, .long v_11, .long v_12, .ref (x + 6), .ref (x + 7), .int (nI pe), .ref (x + 8), .int (nI le), .ref (x + 9), .ref (x + 10), .int (nI qu), .ref (x + 11), .ref (x + 12), .ref (x + 13), .ref (x + 14), .ref (x + 15), .ref (x + 16), .int (nI n_2), .long v_13, .ref (x + 17), .ref (x + 18), .ref (x + 19), .ref (x + 20), .ref (x + 21), .ref (x + 22), .int (nI n_3), .ref (x + 23), .ref (x + 24), .int (nI n_4), .ref (x + 25), .int (nI il), .int (nI i_1), .int ec, .int v_14, .int 4, .int (nI i_1), .int nu, .long 0]) := fset_at hΦ4
              have hI10 : Im G x (rd, NN, fl, pe, le, i_1, il, qu, 4, ec, nu, 0) Φ9 := Im.put0 hI9 hΦ4 ⟨v_1, v_2, v_3, n_1, v_4, v_5, v_6, v_7, v_8, v_9, v_10, v_11, v_12, n_2, v_13, n_3, n_4, v_14, nI i_1, rfl, b_13, (show 1 ≤ n_1 by omega), (show n_1 ≤ 1024 by omega), (show fl ≤ 12 by omega), (show pe ≤ 24 by omega), (show le ≤ 700 by omega), (show qu ≤ 12 by omega), (show n_2 ≤ 8 by omega), (show n_3 ≤ 24 by omega), (show n_4 ≤ 24 by omega), (show il ≤ 700 by omega), (show i_1 ≤ 701 by omega)⟩
              refine z_aload_n B dX12_advanceToken_107 rfl 1 rfl ?_
              refine z_get (ref := "FlowExporterModel") (C := RX12) (T := TX12) (N := 54) (ci := 14) (v := .int 4) B (by decide +kernel) rfl 50 (by decide) (by decide +kernel) rfl h_14 rfl dX12_advanceToken_108 ?_
              refine z_iconst (v := 3) B dX12_advanceToken_111 rfl ?_
              refine z_icmp_eq (tgt := 123) B dX12_advanceToken_112 rfl (fun h9 => absurd h9 (by decide)) (fun c_7 => ?_)
              refine z_aload_n B dX12_advanceToken_115 rfl 1 rfl ?_
              refine z_get (ref := "FlowExporterModel") (C := RX12) (T := TX12) (N := 54) (ci := 14) (v := .int 4) B (by decide +kernel) rfl 50 (by decide) (by decide +kernel) rfl h_14 rfl dX12_advanceToken_116 ?_
              refine z_iconst (v := 4) B dX12_advanceToken_119 rfl ?_
              refine z_icmp_ne (tgt := 133) B dX12_advanceToken_120 rfl (fun h9 => absurd (by decide) h9) (fun c_8 => ?_)
              refine z_aload_n B dX12_advanceToken_123 rfl 1 rfl ?_
              refine z_dup B dX12_advanceToken_124 rfl ?_
              refine z_get (ref := "FlowExporterModel") (C := RX12) (T := TX12) (N := 54) (ci := 14) (v := .int (nI i_1)) B (by decide +kernel) rfl 47 (by decide) (by decide +kernel) rfl h_14 rfl dX12_advanceToken_125 ?_
              refine z_iconst (v := 1) B dX12_advanceToken_128 rfl ?_
              refine z_iadd B dX12_advanceToken_129 ?_
              refine z_top (st1 := [.int (nI (i_1 + 1)), .ref x]) (congrArg (fun w9 : Int32 => ([.int w9, .ref x] : List Value)) (nI_add i_1 1)) ?_
              refine z_put (ref := "FlowExporterModel") (C := RX12) (T := TX12) (N := 54) (ci := 14) (v := .int (nI (i_1 + 1))) B (by decide +kernel) tyX12 tyX12_ok nmX12 rfl 47 (by decide) (by decide +kernel) rfl (Or.inl rfl) h_14 hx rfl rfl (Nat.le_of_ble_eq_true rfl) dX12_advanceToken_130 (fun Φ10 hΦ5 => ?_)
              have h_15 : Φ10 x = some (o_ 14 [.int v_1, .ref (x + 1), .ref (x + 2), .int v_2, .int v_3, .int (nI n_1), .int v_4, .int v_5, .ref (x + 3), .ref (x + 4), .int v_6, .long v_7, .ref (x + 5), .int (nI fl), .int v_8, .long v_9, .long v_10, .long v_11, .long v_12, .ref (x + 6), .ref (x + 7), .int (nI pe), .ref (x + 8), .int (nI le), .ref (x + 9), .ref (x + 10), .int (nI qu), .ref (x + 11), .ref (x + 12), .ref (x + 13), .ref (x + 14), .ref (x + 15), .ref (x + 16), .int (nI n_2), .long v_13, .ref (x + 17), .ref (x + 18), .ref (x + 19), .ref (x + 20), .ref (x + 21), .ref (x + 22), .int (nI n_3), .ref (x + 23), .ref (x + 24), .int (nI n_4), .ref (x + 25), .int (nI il), .int (nI (i_1 + 1)), .int ec, .int v_14, .int 4, .int (nI i_1), .int nu, .long 0]) := fset_at hΦ5
              have hI11 : Im G x (rd, NN, fl, pe, le, i_1 + 1, il, qu, 4, ec, nu, 0) Φ10 := Im.put0 hI10 hΦ5 ⟨v_1, v_2, v_3, n_1, v_4, v_5, v_6, v_7, v_8, v_9, v_10, v_11, v_12, n_2, v_13, n_3, n_4, v_14, nI i_1, rfl, b_13, (show 1 ≤ n_1 by omega), (show n_1 ≤ 1024 by omega), (show fl ≤ 12 by omega), (show pe ≤ 24 by omega), (show le ≤ 700 by omega), (show qu ≤ 12 by omega), (show n_2 ≤ 8 by omega), (show n_3 ≤ 24 by omega), (show n_4 ≤ 24 by omega), (show il ≤ 700 by omega), (show (i_1 + 1) ≤ 701 by omega)⟩
              refine z_aload_n B dX12_advanceToken_133 rfl 1 rfl ?_
              refine z_get (ref := "FlowExporterModel") (C := RX12) (T := TX12) (N := 54) (ci := 14) (v := .int 4) B (by decide +kernel) rfl 50 (by decide) (by decide +kernel) rfl h_15 rfl dX12_advanceToken_134 ?_
              refine z_iconst (v := 1) B dX12_advanceToken_137 rfl ?_
              refine z_icmp_ne (tgt := 208) B dX12_advanceToken_138 rfl (fun c_9 => ?_) (fun h9 => absurd h9 (by decide))
              refine z_aload_n B dX12_advanceToken_208 rfl 1 rfl ?_
              refine z_get (ref := "FlowExporterModel") (C := RX12) (T := TX12) (N := 54) (ci := 14) (v := .int 4) B (by decide +kernel) rfl 50 (by decide) (by decide +kernel) rfl h_15 rfl dX12_advanceToken_209 ?_
              refine z_iconst (v := 2) B dX12_advanceToken_212 rfl ?_
              refine z_icmp_ne (tgt := 283) B dX12_advanceToken_213 rfl (fun c_10 => ?_) (fun h9 => absurd h9 (by decide))
              refine z_aload_n B dX12_advanceToken_283 rfl 1 rfl ?_
              refine z_get (ref := "FlowExporterModel") (C := RX12) (T := TX12) (N := 54) (ci := 14) (v := .int 4) B (by decide +kernel) rfl 50 (by decide) (by decide +kernel) rfl h_15 rfl dX12_advanceToken_284 ?_
              refine z_iconst (v := 1) B dX12_advanceToken_287 rfl ?_
              refine z_icmp_ne (tgt := 305) B dX12_advanceToken_288 rfl (fun c_11 => ?_) (fun h9 => absurd h9 (by decide))
              refine z_aload_n B dX12_advanceToken_305 rfl 1 rfl ?_
              refine z_get (ref := "FlowExporterModel") (C := RX12) (T := TX12) (N := 54) (ci := 14) (v := .int 4) B (by decide +kernel) rfl 50 (by decide) (by decide +kernel) rfl h_15 rfl dX12_advanceToken_306 ?_
              refine z_iconst (v := 2) B dX12_advanceToken_309 rfl ?_
              refine z_icmp_ne (tgt := 332) B dX12_advanceToken_310 rfl (fun c_12 => ?_) (fun h9 => absurd h9 (by decide))
              refine z_ret_v B dX12_advanceToken_332 ⟨rfl, rfl, ⟨i_1 + 1, 4, 0, ?_, ?_, hI11⟩, ?_⟩
              · exact (show nx ≤ (i_1 + 1) by omega)
              · exact (Or.inr (show nx < i_1 + 1 by omega))
              · exact (fun b9 h9 => ((fset_fr hΦ5 (fun h8 => h9 (0) h8 (show 0 = 0 by omega))).trans ((fset_fr hΦ4 (fun h8 => h9 (0) h8 (show 0 = 0 by omega))).trans ((hF6 b9 (fun j9 h8 h7 => (show False from h7).elim)).trans ((hF5 b9 (fun j9 h8 h7 => (show False from h7).elim)).trans ((hF4 b9 (fun j9 h8 h7 => (show False from h7).elim)).trans ((fset_fr hΦ3 (fun h8 => h9 (0) h8 (show 0 = 0 by omega))).trans ((fset_fr hΦ2 (fun h8 => h9 (0) h8 (show 0 = 0 by omega))).trans ((hF3 b9 (fun j9 h8 h7 => (show False from h7).elim)).trans ((hF2 b9 (fun j9 h8 h7 => (show False from h7).elim)).trans ((hF1 b9 (fun j9 h8 h7 => h9 j9 h8 (show j9 = 0 by have h6 : j9 = 0 := h7; omega))).trans rfl)))))))))))
            · refine z_iconst (v := 3) B dX12_advanceToken_99 rfl ?_
              refine z_goto (tgt := 104) B dX12_advanceToken_100 rfl ?_
              have h_16 : Φ8 x = some (o_ 14 [.int v_1, .ref (x + 1), .ref (x + 2), .int v_2, .int v_3, .int (nI n_1), .int v_4, .int v_5, .ref (x + 3), .ref (x + 4), .int v_6, .long v_7, .ref (x + 5), .int (nI fl), .int v_8, .long v_9, .long v_10, .long v_11, .long v_12, .ref (x + 6), .ref (x + 7), .int (nI pe), .ref (x + 8), .int (nI le), .ref (x + 9), .ref (x + 10), .int (nI qu), .ref (x + 11), .ref (x + 12), .ref (x + 13), .ref (x + 14), .ref (x + 15), .ref (x + 16), .int (nI n_2), .long v_13, .ref (x + 17), .ref (x + 18), .ref (x + 19), .ref (x + 20), .ref (x + 21), .ref (x + 22), .int (nI n_3), .ref (x + 23), .ref (x + 24), .int (nI n_4), .ref (x + 25), .int (nI il), .int (nI i_1), .int ec, .int v_14, .int kn, .int (nI i_1), .int nu, .long 0]) := ((hF6 x (fun j9 h8 h7 => (show False from h7).elim)).trans ((hF5 x (fun j9 h8 h7 => (show False from h7).elim)).trans ((hF4 x (fun j9 h8 h7 => (show False from h7).elim)).trans h_11)))
              refine z_put (ref := "FlowExporterModel") (C := RX12) (T := TX12) (N := 54) (ci := 14) (v := .int 3) B (by decide +kernel) tyX12 tyX12_ok nmX12 rfl 50 (by decide) (by decide +kernel) rfl (Or.inl rfl) h_16 hx rfl rfl (Nat.le_of_ble_eq_true rfl) dX12_advanceToken_104 (fun Φ11 hΦ6 => ?_)
              have h_17 : Φ11 x = some (o_ 14 [.int v_1, .ref (x + 1), .ref (x + 2), .int v_2, .int v_3, .int (nI n_1), .int v_4, .int v_5, .ref (x + 3), .ref (x + 4), .int v_6, .long v_7, .ref (x + 5), .int (nI fl), .int v_8, .long v_9, .long v_10, .long v_11, .long v_12, .ref (x + 6), .ref (x + 7), .int (nI pe), .ref (x + 8), .int (nI le), .ref (x + 9), .ref (x + 10), .int (nI qu), .ref (x + 11), .ref (x + 12), .ref (x + 13), .ref (x + 14), .ref (x + 15), .ref (x + 16), .int (nI n_2), .long v_13, .ref (x + 17), .ref (x + 18), .ref (x + 19), .ref (x + 20), .ref (x + 21), .ref (x + 22), .int (nI n_3), .ref (x + 23), .ref (x + 24), .int (nI n_4), .ref (x + 25), .int (nI il), .int (nI i_1), .int ec, .int v_14, .int 3, .int (nI i_1), .int nu, .long 0]) := fset_at hΦ6
              have hI12 : Im G x (rd, NN, fl, pe, le, i_1, il, qu, 3, ec, nu, 0) Φ11 := Im.put0 hI9 hΦ6 ⟨v_1, v_2, v_3, n_1, v_4, v_5, v_6, v_7, v_8, v_9, v_10, v_11, v_12, n_2, v_13, n_3, n_4, v_14, nI i_1, rfl, b_13, (show 1 ≤ n_1 by omega), (show n_1 ≤ 1024 by omega), (show fl ≤ 12 by omega), (show pe ≤ 24 by omega), (show le ≤ 700 by omega), (show qu ≤ 12 by omega), (show n_2 ≤ 8 by omega), (show n_3 ≤ 24 by omega), (show n_4 ≤ 24 by omega), (show il ≤ 700 by omega), (show i_1 ≤ 701 by omega)⟩
              refine z_aload_n B dX12_advanceToken_107 rfl 1 rfl ?_
              refine z_get (ref := "FlowExporterModel") (C := RX12) (T := TX12) (N := 54) (ci := 14) (v := .int 3) B (by decide +kernel) rfl 50 (by decide) (by decide +kernel) rfl h_17 rfl dX12_advanceToken_108 ?_
              refine z_iconst (v := 3) B dX12_advanceToken_111 rfl ?_
              refine z_icmp_eq (tgt := 123) B dX12_advanceToken_112 rfl (fun c_13 => ?_) (fun h9 => absurd (by decide) h9)
              refine z_aload_n B dX12_advanceToken_123 rfl 1 rfl ?_
              refine z_dup B dX12_advanceToken_124 rfl ?_
              refine z_get (ref := "FlowExporterModel") (C := RX12) (T := TX12) (N := 54) (ci := 14) (v := .int (nI i_1)) B (by decide +kernel) rfl 47 (by decide) (by decide +kernel) rfl h_17 rfl dX12_advanceToken_125 ?_
              refine z_iconst (v := 1) B dX12_advanceToken_128 rfl ?_
              refine z_iadd B dX12_advanceToken_129 ?_
              refine z_top (st1 := [.int (nI (i_1 + 1)), .ref x]) (congrArg (fun w9 : Int32 => ([.int w9, .ref x] : List Value)) (nI_add i_1 1)) ?_
              refine z_put (ref := "FlowExporterModel") (C := RX12) (T := TX12) (N := 54) (ci := 14) (v := .int (nI (i_1 + 1))) B (by decide +kernel) tyX12 tyX12_ok nmX12 rfl 47 (by decide) (by decide +kernel) rfl (Or.inl rfl) h_17 hx rfl rfl (Nat.le_of_ble_eq_true rfl) dX12_advanceToken_130 (fun Φ12 hΦ7 => ?_)
              have h_18 : Φ12 x = some (o_ 14 [.int v_1, .ref (x + 1), .ref (x + 2), .int v_2, .int v_3, .int (nI n_1), .int v_4, .int v_5, .ref (x + 3), .ref (x + 4), .int v_6, .long v_7, .ref (x + 5), .int (nI fl), .int v_8, .long v_9, .long v_10, .long v_11, .long v_12, .ref (x + 6), .ref (x + 7), .int (nI pe), .ref (x + 8), .int (nI le), .ref (x + 9), .ref (x + 10), .int (nI qu), .ref (x + 11), .ref (x + 12), .ref (x + 13), .ref (x + 14), .ref (x + 15), .ref (x + 16), .int (nI n_2), .long v_13, .ref (x + 17), .ref (x + 18), .ref (x + 19), .ref (x + 20), .ref (x + 21), .ref (x + 22), .int (nI n_3), .ref (x + 23), .ref (x + 24), .int (nI n_4), .ref (x + 25), .int (nI il), .int (nI (i_1 + 1)), .int ec, .int v_14, .int 3, .int (nI i_1), .int nu, .long 0]) := fset_at hΦ7
              have hI13 : Im G x (rd, NN, fl, pe, le, i_1 + 1, il, qu, 3, ec, nu, 0) Φ12 := Im.put0 hI12 hΦ7 ⟨v_1, v_2, v_3, n_1, v_4, v_5, v_6, v_7, v_8, v_9, v_10, v_11, v_12, n_2, v_13, n_3, n_4, v_14, nI i_1, rfl, b_13, (show 1 ≤ n_1 by omega), (show n_1 ≤ 1024 by omega), (show fl ≤ 12 by omega), (show pe ≤ 24 by omega), (show le ≤ 700 by omega), (show qu ≤ 12 by omega), (show n_2 ≤ 8 by omega), (show n_3 ≤ 24 by omega), (show n_4 ≤ 24 by omega), (show il ≤ 700 by omega), (show (i_1 + 1) ≤ 701 by omega)⟩
              refine z_aload_n B dX12_advanceToken_133 rfl 1 rfl ?_
              refine z_get (ref := "FlowExporterModel") (C := RX12) (T := TX12) (N := 54) (ci := 14) (v := .int 3) B (by decide +kernel) rfl 50 (by decide) (by decide +kernel) rfl h_18 rfl dX12_advanceToken_134 ?_
              refine z_iconst (v := 1) B dX12_advanceToken_137 rfl ?_
              refine z_icmp_ne (tgt := 208) B dX12_advanceToken_138 rfl (fun c_14 => ?_) (fun h9 => absurd h9 (by decide))
              refine z_aload_n B dX12_advanceToken_208 rfl 1 rfl ?_
              refine z_get (ref := "FlowExporterModel") (C := RX12) (T := TX12) (N := 54) (ci := 14) (v := .int 3) B (by decide +kernel) rfl 50 (by decide) (by decide +kernel) rfl h_18 rfl dX12_advanceToken_209 ?_
              refine z_iconst (v := 2) B dX12_advanceToken_212 rfl ?_
              refine z_icmp_ne (tgt := 283) B dX12_advanceToken_213 rfl (fun c_15 => ?_) (fun h9 => absurd h9 (by decide))
              refine z_aload_n B dX12_advanceToken_283 rfl 1 rfl ?_
              refine z_get (ref := "FlowExporterModel") (C := RX12) (T := TX12) (N := 54) (ci := 14) (v := .int 3) B (by decide +kernel) rfl 50 (by decide) (by decide +kernel) rfl h_18 rfl dX12_advanceToken_284 ?_
              refine z_iconst (v := 1) B dX12_advanceToken_287 rfl ?_
              refine z_icmp_ne (tgt := 305) B dX12_advanceToken_288 rfl (fun c_16 => ?_) (fun h9 => absurd h9 (by decide))
              refine z_aload_n B dX12_advanceToken_305 rfl 1 rfl ?_
              refine z_get (ref := "FlowExporterModel") (C := RX12) (T := TX12) (N := 54) (ci := 14) (v := .int 3) B (by decide +kernel) rfl 50 (by decide) (by decide +kernel) rfl h_18 rfl dX12_advanceToken_306 ?_
              refine z_iconst (v := 2) B dX12_advanceToken_309 rfl ?_
              refine z_icmp_ne (tgt := 332) B dX12_advanceToken_310 rfl (fun c_17 => ?_) (fun h9 => absurd h9 (by decide))
              refine z_ret_v B dX12_advanceToken_332 ⟨rfl, rfl, ⟨i_1 + 1, 3, 0, ?_, ?_, hI13⟩, ?_⟩
              · exact (show nx ≤ (i_1 + 1) by omega)
              · exact (Or.inr (show nx < i_1 + 1 by omega))
              · exact (fun b9 h9 => ((fset_fr hΦ7 (fun h8 => h9 (0) h8 (show 0 = 0 by omega))).trans ((fset_fr hΦ6 (fun h8 => h9 (0) h8 (show 0 = 0 by omega))).trans ((hF6 b9 (fun j9 h8 h7 => (show False from h7).elim)).trans ((hF5 b9 (fun j9 h8 h7 => (show False from h7).elim)).trans ((hF4 b9 (fun j9 h8 h7 => (show False from h7).elim)).trans ((fset_fr hΦ3 (fun h8 => h9 (0) h8 (show 0 = 0 by omega))).trans ((fset_fr hΦ2 (fun h8 => h9 (0) h8 (show 0 = 0 by omega))).trans ((hF3 b9 (fun j9 h8 h7 => (show False from h7).elim)).trans ((hF2 b9 (fun j9 h8 h7 => (show False from h7).elim)).trans ((hF1 b9 (fun j9 h8 h7 => h9 j9 h8 (show j9 = 0 by have h6 : j9 = 0 := h7; omega))).trans rfl)))))))))))
          · replace hs5 : st5 = [.int 1, .ref x] := hs5
            subst st5
            replace hL2 : inP (bA f_1 il i_1).toInt64 48 57 := hL2
            have b_16 := bA_in (by decide) hL2
            refine z_if_eq (tgt := 93) B dX12_advanceToken_86 rfl (fun h9 => absurd h9 (by decide)) (fun c_18 => ?_)
            refine z_iconst (v := 2) B dX12_advanceToken_89 rfl ?_
            refine z_goto (tgt := 104) B dX12_advanceToken_90 rfl ?_
            have h_19 : Φ8 x = some (o_ 14 [.int v_1, .ref (x + 1), .ref (x + 2), .int v_2, .int v_3, .int (nI n_1), .int v_4, .int v_5, .ref (x + 3), .ref (x + 4), .int v_6, .long v_7, .ref (x + 5), .int (nI fl), .int v_8, .long v_9, .long v_10, .long v_11, .long v_12, .ref (x + 6), .ref (x + 7), .int (nI pe), .ref (x + 8), .int (nI le), .ref (x + 9), .ref (x + 10), .int (nI qu), .ref (x + 11), .ref (x + 12), .ref (x + 13), .ref (x + 14), .ref (x + 15), .ref (x + 16), .int (nI n_2), .long v_13, .ref (x + 17), .ref (x + 18), .ref (x + 19), .ref (x + 20), .ref (x + 21), .ref (x + 22), .int (nI n_3), .ref (x + 23), .ref (x + 24), .int (nI n_4), .ref (x + 25), .int (nI il), .int (nI i_1), .int ec, .int v_14, .int kn, .int (nI i_1), .int nu, .long 0]) := ((hF6 x (fun j9 h8 h7 => (show False from h7).elim)).trans ((hF5 x (fun j9 h8 h7 => (show False from h7).elim)).trans ((hF4 x (fun j9 h8 h7 => (show False from h7).elim)).trans h_11)))
            refine z_put (ref := "FlowExporterModel") (C := RX12) (T := TX12) (N := 54) (ci := 14) (v := .int 2) B (by decide +kernel) tyX12 tyX12_ok nmX12 rfl 50 (by decide) (by decide +kernel) rfl (Or.inl rfl) h_19 hx rfl rfl (Nat.le_of_ble_eq_true rfl) dX12_advanceToken_104 (fun Φ13 hΦ8 => ?_)
            have h_20 : Φ13 x = some (o_ 14 [.int v_1, .ref (x + 1), .ref (x + 2), .int v_2, .int v_3, .int (nI n_1), .int v_4, .int v_5, .ref (x + 3), .ref (x + 4), .int v_6, .long v_7, .ref (x + 5), .int (nI fl), .int v_8, .long v_9, .long v_10, .long v_11, .long v_12, .ref (x + 6), .ref (x + 7), .int (nI pe), .ref (x + 8), .int (nI le), .ref (x + 9), .ref (x + 10), .int (nI qu), .ref (x + 11), .ref (x + 12), .ref (x + 13), .ref (x + 14), .ref (x + 15), .ref (x + 16), .int (nI n_2), .long v_13, .ref (x + 17), .ref (x + 18), .ref (x + 19), .ref (x + 20), .ref (x + 21), .ref (x + 22), .int (nI n_3), .ref (x + 23), .ref (x + 24), .int (nI n_4), .ref (x + 25), .int (nI il), .int (nI i_1), .int ec, .int v_14, .int 2, .int (nI i_1), .int nu, .long 0]) := fset_at hΦ8
            have hI14 : Im G x (rd, NN, fl, pe, le, i_1, il, qu, 2, ec, nu, 0) Φ13 := Im.put0 hI9 hΦ8 ⟨v_1, v_2, v_3, n_1, v_4, v_5, v_6, v_7, v_8, v_9, v_10, v_11, v_12, n_2, v_13, n_3, n_4, v_14, nI i_1, rfl, b_13, (show 1 ≤ n_1 by omega), (show n_1 ≤ 1024 by omega), (show fl ≤ 12 by omega), (show pe ≤ 24 by omega), (show le ≤ 700 by omega), (show qu ≤ 12 by omega), (show n_2 ≤ 8 by omega), (show n_3 ≤ 24 by omega), (show n_4 ≤ 24 by omega), (show il ≤ 700 by omega), (show i_1 ≤ 701 by omega)⟩
            refine z_aload_n B dX12_advanceToken_107 rfl 1 rfl ?_
            refine z_get (ref := "FlowExporterModel") (C := RX12) (T := TX12) (N := 54) (ci := 14) (v := .int 2) B (by decide +kernel) rfl 50 (by decide) (by decide +kernel) rfl h_20 rfl dX12_advanceToken_108 ?_
            refine z_iconst (v := 3) B dX12_advanceToken_111 rfl ?_
            refine z_icmp_eq (tgt := 123) B dX12_advanceToken_112 rfl (fun h9 => absurd h9 (by decide)) (fun c_19 => ?_)
            refine z_aload_n B dX12_advanceToken_115 rfl 1 rfl ?_
            refine z_get (ref := "FlowExporterModel") (C := RX12) (T := TX12) (N := 54) (ci := 14) (v := .int 2) B (by decide +kernel) rfl 50 (by decide) (by decide +kernel) rfl h_20 rfl dX12_advanceToken_116 ?_
            refine z_iconst (v := 4) B dX12_advanceToken_119 rfl ?_
            refine z_icmp_ne (tgt := 133) B dX12_advanceToken_120 rfl (fun c_20 => ?_) (fun h9 => absurd h9 (by decide))
            refine z_aload_n B dX12_advanceToken_133 rfl 1 rfl ?_
            refine z_get (ref := "FlowExporterModel") (C := RX12) (T := TX12) (N := 54) (ci := 14) (v := .int 2) B (by decide +kernel) rfl 50 (by decide) (by decide +kernel) rfl h_20 rfl dX12_advanceToken_134 ?_
            refine z_iconst (v := 1) B dX12_advanceToken_137 rfl ?_
            refine z_icmp_ne (tgt := 208) B dX12_advanceToken_138 rfl (fun c_21 => ?_) (fun h9 => absurd h9 (by decide))
            refine z_lv [1] rfl ?_
            refine z_loop (α := Nat × Int64) (fun (a9 : Nat × Int64) Φi => Im G x (rd, NN, fl, pe, le, a9.1, il, qu, 2, ec, nu, a9.2) Φi ∧ Fr x (fun j9 => j9 = 0) Φ13 Φi ∧ (i_1 ≤ a9.1) ∧ (i_1 + 1 ≤ a9.1 ∨ (a9.1 = i_1 ∧ inP (bA f_1 il i_1).toInt64 48 57)) ∧ True) (fun a9 => [(0, .ref x)]) (fun a9 => il - a9.1) ?_ (i_1, 0) ⟨hI14, fun _ _ => rfl, (show i_1 ≤ i_1 by omega), (Or.inr ⟨rfl, hL2⟩), trivial⟩
            rintro ⟨i_2, i_3⟩ Φl2 ⟨hI15, hF7, b_17, b_18, -⟩ ih2
            replace hI15 : Im G x (rd, NN, fl, pe, le, i_2, il, qu, 2, ec, nu, i_3) Φl2 := hI15
            replace b_17 : i_1 ≤ i_2 := b_17
            replace b_18 : i_1 + 1 ≤ i_2 ∨ (i_2 = i_1 ∧ inP (bA f_1 il i_1).toInt64 48 57) := b_18
            show Z p9 l e9 _ s9 m9 _ w9 t9 k9 _ G 2 208 [(0, .ref x)] [] Φl2 _ _ _
            refine z_aload_n B dX12_advanceToken_208 rfl 0 rfl ?_
            obtain ⟨v_16, v_17, v_18, n_5, v_19, v_20, v_21, v_22, v_23, v_24, v_25, v_26, v_27, n_6, v_28, n_7, n_8, v_29, v_30, h_21, b_30, b_19, b_20, b_21, b_22, b_23, b_24, b_25, b_26, b_27, b_28, b_29⟩ := im0 hI15
            replace b_19 : 1 ≤ n_5 := b_19
            replace b_20 : n_5 ≤ 1024 := b_20
            replace b_21 : fl ≤ 12 := b_21
            replace b_22 : pe ≤ 24 := b_22
            replace b_23 : le ≤ 700 := b_23
            replace b_24 : qu ≤ 12 := b_24
            replace b_25 : n_6 ≤ 8 := b_25
            replace b_26 : n_7 ≤ 24 := b_26
            replace b_27 : n_8 ≤ 24 := b_27
            replace b_28 : il ≤ 700 := b_28
            replace b_29 : i_2 ≤ 701 := b_29
            have h_22 : Φl2 x = some (o_ 14 [.int v_16, .ref (x + 1), .ref (x + 2), .int v_17, .int v_18, .int (nI n_5), .int v_19, .int v_20, .ref (x + 3), .ref (x + 4), .int v_21, .long v_22, .ref (x + 5), .int (nI fl), .int v_23, .long v_24, .long v_25, .long v_26, .long v_27, .ref (x + 6), .ref (x + 7), .int (nI pe), .ref (x + 8), .int (nI le), .ref (x + 9), .ref (x + 10), .int (nI qu), .ref (x + 11), .ref (x + 12), .ref (x + 13), .ref (x + 14), .ref (x + 15), .ref (x + 16), .int (nI n_6), .long v_28, .ref (x + 17), .ref (x + 18), .ref (x + 19), .ref (x + 20), .ref (x + 21), .ref (x + 22), .int (nI n_7), .ref (x + 23), .ref (x + 24), .int (nI n_8), .ref (x + 25), .int (nI il), .int (nI i_2), .int ec, .int v_29, .int 2, .int v_30, .int nu, .long i_3]) := h_21
            refine z_get (ref := "FlowExporterModel") (C := RX12) (T := TX12) (N := 54) (ci := 14) (v := .int 2) B (by decide +kernel) rfl 50 (by decide) (by decide +kernel) rfl h_22 rfl dX12_advanceToken_209 ?_
            refine z_iconst (v := 2) B dX12_advanceToken_212 rfl ?_
            refine z_icmp_ne (tgt := 283) B dX12_advanceToken_213 rfl (fun h9 => absurd (by decide) h9) (fun c_22 => ?_)
            refine z_aload_n B dX12_advanceToken_216 rfl 0 rfl ?_
            refine z_aload_n B dX12_advanceToken_217 rfl 0 rfl ?_
            refine z_get (ref := "FlowExporterModel") (C := RX12) (T := TX12) (N := 54) (ci := 14) (v := .int (nI i_2)) B (by decide +kernel) rfl 47 (by decide) (by decide +kernel) rfl h_22 rfl dX12_advanceToken_218 ?_
            have h_23 : Φl2 (x + 25) = some (ab_ G 700 f_1) := ((hF7 (x + 25) (fun j9 h8 h7 => by have h6 : j9 = 0 := h7; omega)).trans ((fset_fr hΦ8 (ne_off (x := x) (i := 25) (j := 0) rfl)).trans ((hF6 (x + 25) (fun j9 h8 h7 => (show False from h7).elim)).trans ((hF5 (x + 25) (fun j9 h8 h7 => (show False from h7).elim)).trans ((hF4 (x + 25) (fun j9 h8 h7 => (show False from h7).elim)).trans h_12)))))
            refine z_callV (As := [.int (nI i_2)]) (rest := []) B (r_byteAt G l Φl2 sz x rd fl pe le i_2 il qu 2 ec nu i_3 f_1 i_2 hx hI15 h_23 (show i_2 ≤ 701 by omega)) (cwV 1 B.1.2.2.2.2 gX12_advanceToken_X12_byteAt rfl rfl rfl (by decide +kernel) ⟨Nat.le_of_ble_eq_true rfl, Nat.le_of_ble_eq_true rfl⟩) h_22 rfl rfl rfl rfl (Nat.le_of_ble_eq_true rfl) dX12_advanceToken_221 ⟨Nat.le_of_ble_eq_true rfl, Nat.le_of_ble_eq_true rfl⟩ (fun r_7 Φ14 sz6 st6 hp6 hs6 => ?_)
            obtain ⟨rfl, hq6, hI16, hF8⟩ := hp6
            subst sz6
            replace hs6 : st6 = [.int (bA f_1 il i_2)] := hs6
            subst st6
            replace hI16 : Im G x (rd, NN, fl, pe, le, i_2, il, qu, 2, ec, nu, i_3) Φ14 := hI16
            refine z_callS (As := [.int (bA f_1 il i_2)]) (rest := []) B (r_isDigit G l Φ14 sz x rd fl pe le i_2 il qu 2 ec nu i_3 (bA f_1 il i_2) hx hI16 ) (va_cwS 1 B.1.2.2.2.2 gX12_advanceToken_X12_isDigit rfl rfl rfl (by decide +kernel) ⟨Nat.le_of_ble_eq_true rfl, Nat.le_of_ble_eq_true rfl⟩) rfl rfl (Nat.le_of_ble_eq_true rfl) dX12_advanceToken_224 ⟨Nat.le_of_ble_eq_true rfl, Nat.le_of_ble_eq_true rfl⟩ (fun r_8 Φ15 sz7 st7 hp7 hs7 => ?_)
            obtain ⟨ha3, hq7, hI17, hF9⟩ := hp7
            subst sz7
            replace hI17 : Im G x (rd, NN, fl, pe, le, i_2, il, qu, 2, ec, nu, i_3) Φ15 := hI17
            rcases ha3 with ⟨rfl, hL3⟩ | ⟨rfl, hL3⟩
            · replace hs7 : st7 = [.int 0] := hs7
              subst st7
              replace hL3 : ¬ inP (bA f_1 il i_2).toInt64 48 57 := hL3
              refine z_if_eq (tgt := 283) B dX12_advanceToken_227 rfl (fun c_23 => ?_) (fun h9 => absurd (by decide) h9)
              have b_31 : i_1 + 1 ≤ i_2 := by
                rcases b_18 with h | ⟨h1, h2⟩
                · exact h
                · exact absurd (h1.symm ▸ h2) hL3
              refine z_aload_n B dX12_advanceToken_283 rfl 0 rfl ?_
              have h_24 : Φ15 x = some (o_ 14 [.int v_16, .ref (x + 1), .ref (x + 2), .int v_17, .int v_18, .int (nI n_5), .int v_19, .int v_20, .ref (x + 3), .ref (x + 4), .int v_21, .long v_22, .ref (x + 5), .int (nI fl), .int v_23, .long v_24, .long v_25, .long v_26, .long v_27, .ref (x + 6), .ref (x + 7), .int (nI pe), .ref (x + 8), .int (nI le), .ref (x + 9), .ref (x + 10), .int (nI qu), .ref (x + 11), .ref (x + 12), .ref (x + 13), .ref (x + 14), .ref (x + 15), .ref (x + 16), .int (nI n_6), .long v_28, .ref (x + 17), .ref (x + 18), .ref (x + 19), .ref (x + 20), .ref (x + 21), .ref (x + 22), .int (nI n_7), .ref (x + 23), .ref (x + 24), .int (nI n_8), .ref (x + 25), .int (nI il), .int (nI i_2), .int ec, .int v_29, .int 2, .int v_30, .int nu, .long i_3]) := ((hF9 x (fun j9 h8 h7 => (show False from h7).elim)).trans ((hF8 x (fun j9 h8 h7 => (show False from h7).elim)).trans h_22))
              refine z_get (ref := "FlowExporterModel") (C := RX12) (T := TX12) (N := 54) (ci := 14) (v := .int 2) B (by decide +kernel) rfl 50 (by decide) (by decide +kernel) rfl h_24 rfl dX12_advanceToken_284 ?_
              refine z_iconst (v := 1) B dX12_advanceToken_287 rfl ?_
              refine z_icmp_ne (tgt := 305) B dX12_advanceToken_288 rfl (fun c_24 => ?_) (fun h9 => absurd h9 (by decide))
              refine z_aload_n B dX12_advanceToken_305 rfl 0 rfl ?_
              refine z_get (ref := "FlowExporterModel") (C := RX12) (T := TX12) (N := 54) (ci := 14) (v := .int 2) B (by decide +kernel) rfl 50 (by decide) (by decide +kernel) rfl h_24 rfl dX12_advanceToken_306 ?_
              refine z_iconst (v := 2) B dX12_advanceToken_309 rfl ?_
              refine z_icmp_ne (tgt := 332) B dX12_advanceToken_310 rfl (fun h9 => absurd (by decide) h9) (fun c_25 => ?_)
              refine z_aload_n B dX12_advanceToken_313 rfl 0 rfl ?_
              refine z_get (ref := "FlowExporterModel") (C := RX12) (T := TX12) (N := 54) (ci := 14) (v := .int (nI i_2)) B (by decide +kernel) rfl 47 (by decide) (by decide +kernel) rfl h_24 rfl dX12_advanceToken_314 ?_
              refine z_aload_n B dX12_advanceToken_317 rfl 0 rfl ?_
              refine z_get (ref := "FlowExporterModel") (C := RX12) (T := TX12) (N := 54) (ci := 14) (v := .int v_30) B (by decide +kernel) rfl 51 (by decide) (by decide +kernel) rfl h_24 rfl dX12_advanceToken_318 ?_
              refine z_isub B dX12_advanceToken_321 ?_
              refine z_fi (fun v_31 => ?_)
              refine z_bipush (v := 6) B dX12_advanceToken_322 rfl ?_
              refine z_icmp_le (tgt := 332) B dX12_advanceToken_324 rfl (fun c_26 => ?_) (fun c_26 => ?_)
              · refine z_ret_v B dX12_advanceToken_332 ⟨rfl, rfl, ⟨i_2, 2, i_3, ?_, ?_, hI17⟩, ?_⟩
                · exact (show nx ≤ i_2 by omega)
                · exact (Or.inr (show nx < i_2 by omega))
                · exact (fun b9 h9 => ((hF9 b9 (fun j9 h8 h7 => (show False from h7).elim)).trans ((hF8 b9 (fun j9 h8 h7 => (show False from h7).elim)).trans ((hF7 b9 (fun j9 h8 h7 => h9 j9 h8 (show j9 = 0 by have h6 : j9 = 0 := h7; omega))).trans ((fset_fr hΦ8 (fun h8 => h9 (0) h8 (show 0 = 0 by omega))).trans ((hF6 b9 (fun j9 h8 h7 => (show False from h7).elim)).trans ((hF5 b9 (fun j9 h8 h7 => (show False from h7).elim)).trans ((hF4 b9 (fun j9 h8 h7 => (show False from h7).elim)).trans ((fset_fr hΦ3 (fun h8 => h9 (0) h8 (show 0 = 0 by omega))).trans ((fset_fr hΦ2 (fun h8 => h9 (0) h8 (show 0 = 0 by omega))).trans ((hF3 b9 (fun j9 h8 h7 => (show False from h7).elim)).trans ((hF2 b9 (fun j9 h8 h7 => (show False from h7).elim)).trans ((hF1 b9 (fun j9 h8 h7 => h9 j9 h8 (show j9 = 0 by have h6 : j9 = 0 := h7; omega))).trans rfl)))))))))))))
              · refine z_aload_n B dX12_advanceToken_327 rfl 0 rfl ?_
                refine z_iconst (v := 4) B dX12_advanceToken_328 rfl ?_
                refine z_put (ref := "FlowExporterModel") (C := RX12) (T := TX12) (N := 54) (ci := 14) (v := .int 4) B (by decide +kernel) tyX12 tyX12_ok nmX12 rfl 50 (by decide) (by decide +kernel) rfl (Or.inl rfl) h_24 hx rfl rfl (Nat.le_of_ble_eq_true rfl) dX12_advanceToken_329 (fun Φ16 hΦ9 => ?_)
                have h_25 : Φ16 x = some (o_ 14 [.int v_16, .ref (x + 1), .ref (x + 2), .int v_17, .int v_18, .int (nI n_5), .int v_19, .int v_20, .ref (x + 3), .ref (x + 4), .int v_21, .long v_22, .ref (x + 5), .int (nI fl), .int v_23, .long v_24, .long v_25, .long v_26, .long v_27, .ref (x + 6), .ref (x + 7), .int (nI pe), .ref (x + 8), .int (nI le), .ref (x + 9), .ref (x + 10), .int (nI qu), .ref (x + 11), .ref (x + 12), .ref (x + 13), .ref (x + 14), .ref (x + 15), .ref (x + 16), .int (nI n_6), .long v_28, .ref (x + 17), .ref (x + 18), .ref (x + 19), .ref (x + 20), .ref (x + 21), .ref (x + 22), .int (nI n_7), .ref (x + 23), .ref (x + 24), .int (nI n_8), .ref (x + 25), .int (nI il), .int (nI i_2), .int ec, .int v_29, .int 4, .int v_30, .int nu, .long i_3]) := fset_at hΦ9
                have hI18 : Im G x (rd, NN, fl, pe, le, i_2, il, qu, 4, ec, nu, i_3) Φ16 := Im.put0 hI17 hΦ9 ⟨v_16, v_17, v_18, n_5, v_19, v_20, v_21, v_22, v_23, v_24, v_25, v_26, v_27, n_6, v_28, n_7, n_8, v_29, v_30, rfl, b_30, (show 1 ≤ n_5 by omega), (show n_5 ≤ 1024 by omega), (show fl ≤ 12 by omega), (show pe ≤ 24 by omega), (show le ≤ 700 by omega), (show qu ≤ 12 by omega), (show n_6 ≤ 8 by omega), (show n_7 ≤ 24 by omega), (show n_8 ≤ 24 by omega), (show il ≤ 700 by omega), (show i_2 ≤ 701 by omega)⟩
                refine z_ret_v B dX12_advanceToken_332 ⟨rfl, rfl, ⟨i_2, 4, i_3, ?_, ?_, hI18⟩, ?_⟩
                · exact (show nx ≤ i_2 by omega)
                · exact (Or.inr (show nx < i_2 by omega))
                · exact (fun b9 h9 => ((fset_fr hΦ9 (fun h8 => h9 (0) h8 (show 0 = 0 by omega))).trans ((hF9 b9 (fun j9 h8 h7 => (show False from h7).elim)).trans ((hF8 b9 (fun j9 h8 h7 => (show False from h7).elim)).trans ((hF7 b9 (fun j9 h8 h7 => h9 j9 h8 (show j9 = 0 by have h6 : j9 = 0 := h7; omega))).trans ((fset_fr hΦ8 (fun h8 => h9 (0) h8 (show 0 = 0 by omega))).trans ((hF6 b9 (fun j9 h8 h7 => (show False from h7).elim)).trans ((hF5 b9 (fun j9 h8 h7 => (show False from h7).elim)).trans ((hF4 b9 (fun j9 h8 h7 => (show False from h7).elim)).trans ((fset_fr hΦ3 (fun h8 => h9 (0) h8 (show 0 = 0 by omega))).trans ((fset_fr hΦ2 (fun h8 => h9 (0) h8 (show 0 = 0 by omega))).trans ((hF3 b9 (fun j9 h8 h7 => (show False from h7).elim)).trans ((hF2 b9 (fun j9 h8 h7 => (show False from h7).elim)).trans ((hF1 b9 (fun j9 h8 h7 => h9 j9 h8 (show j9 = 0 by have h6 : j9 = 0 := h7; omega))).trans rfl))))))))))))))
            · replace hs7 : st7 = [.int 1] := hs7
              subst st7
              replace hL3 : inP (bA f_1 il i_2).toInt64 48 57 := hL3
              have b_32 := bA_in (by decide) hL3
              refine z_if_eq (tgt := 283) B dX12_advanceToken_227 rfl (fun h9 => absurd h9 (by decide)) (fun c_27 => ?_)
              refine z_aload_n B dX12_advanceToken_230 rfl 0 rfl ?_
              have h_26 : Φ15 x = some (o_ 14 [.int v_16, .ref (x + 1), .ref (x + 2), .int v_17, .int v_18, .int (nI n_5), .int v_19, .int v_20, .ref (x + 3), .ref (x + 4), .int v_21, .long v_22, .ref (x + 5), .int (nI fl), .int v_23, .long v_24, .long v_25, .long v_26, .long v_27, .ref (x + 6), .ref (x + 7), .int (nI pe), .ref (x + 8), .int (nI le), .ref (x + 9), .ref (x + 10), .int (nI qu), .ref (x + 11), .ref (x + 12), .ref (x + 13), .ref (x + 14), .ref (x + 15), .ref (x + 16), .int (nI n_6), .long v_28, .ref (x + 17), .ref (x + 18), .ref (x + 19), .ref (x + 20), .ref (x + 21), .ref (x + 22), .int (nI n_7), .ref (x + 23), .ref (x + 24), .int (nI n_8), .ref (x + 25), .int (nI il), .int (nI i_2), .int ec, .int v_29, .int 2, .int v_30, .int nu, .long i_3]) := ((hF9 x (fun j9 h8 h7 => (show False from h7).elim)).trans ((hF8 x (fun j9 h8 h7 => (show False from h7).elim)).trans h_22))
              refine z_get (ref := "FlowExporterModel") (C := RX12) (T := TX12) (N := 54) (ci := 14) (v := .int (nI i_2)) B (by decide +kernel) rfl 47 (by decide) (by decide +kernel) rfl h_26 rfl dX12_advanceToken_231 ?_
              refine z_aload_n B dX12_advanceToken_234 rfl 0 rfl ?_
              refine z_get (ref := "FlowExporterModel") (C := RX12) (T := TX12) (N := 54) (ci := 14) (v := .int v_30) B (by decide +kernel) rfl 51 (by decide) (by decide +kernel) rfl h_26 rfl dX12_advanceToken_235 ?_
              refine z_isub B dX12_advanceToken_238 ?_
              refine z_fi (fun v_32 => ?_)
              refine z_bipush (v := 6) B dX12_advanceToken_239 rfl ?_
              refine z_icmp_ge (tgt := 270) B dX12_advanceToken_241 rfl (fun c_28 => ?_) (fun c_28 => ?_)
              · obtain ⟨n_9, e_2, e_1, rfl⟩ := nI_ofge (c := 6) (by omega) (Int32.not_lt.mpr c_28)
                refine z_aload_n B dX12_advanceToken_270 rfl 0 rfl ?_
                refine z_dup B dX12_advanceToken_271 rfl ?_
                refine z_get (ref := "FlowExporterModel") (C := RX12) (T := TX12) (N := 54) (ci := 14) (v := .int (nI i_2)) B (by decide +kernel) rfl 47 (by decide) (by decide +kernel) rfl h_26 rfl dX12_advanceToken_272 ?_
                refine z_iconst (v := 1) B dX12_advanceToken_275 rfl ?_
                refine z_iadd B dX12_advanceToken_276 ?_
                refine z_top (st1 := [.int (nI (i_2 + 1)), .ref x]) (congrArg (fun w9 : Int32 => ([.int w9, .ref x] : List Value)) (nI_add i_2 1)) ?_
                refine z_put (ref := "FlowExporterModel") (C := RX12) (T := TX12) (N := 54) (ci := 14) (v := .int (nI (i_2 + 1))) B (by decide +kernel) tyX12 tyX12_ok nmX12 rfl 47 (by decide) (by decide +kernel) rfl (Or.inl rfl) h_26 hx rfl rfl (Nat.le_of_ble_eq_true rfl) dX12_advanceToken_277 (fun Φ17 hΦ10 => ?_)
                have h_27 : Φ17 x = some (o_ 14 [.int v_16, .ref (x + 1), .ref (x + 2), .int v_17, .int v_18, .int (nI n_5), .int v_19, .int v_20, .ref (x + 3), .ref (x + 4), .int v_21, .long v_22, .ref (x + 5), .int (nI fl), .int v_23, .long v_24, .long v_25, .long v_26, .long v_27, .ref (x + 6), .ref (x + 7), .int (nI pe), .ref (x + 8), .int (nI le), .ref (x + 9), .ref (x + 10), .int (nI qu), .ref (x + 11), .ref (x + 12), .ref (x + 13), .ref (x + 14), .ref (x + 15), .ref (x + 16), .int (nI n_6), .long v_28, .ref (x + 17), .ref (x + 18), .ref (x + 19), .ref (x + 20), .ref (x + 21), .ref (x + 22), .int (nI n_7), .ref (x + 23), .ref (x + 24), .int (nI n_8), .ref (x + 25), .int (nI il), .int (nI (i_2 + 1)), .int ec, .int v_29, .int 2, .int v_30, .int nu, .long i_3]) := fset_at hΦ10
                have hI19 : Im G x (rd, NN, fl, pe, le, i_2 + 1, il, qu, 2, ec, nu, i_3) Φ17 := Im.put0 hI17 hΦ10 ⟨v_16, v_17, v_18, n_5, v_19, v_20, v_21, v_22, v_23, v_24, v_25, v_26, v_27, n_6, v_28, n_7, n_8, v_29, v_30, rfl, b_30, (show 1 ≤ n_5 by omega), (show n_5 ≤ 1024 by omega), (show fl ≤ 12 by omega), (show pe ≤ 24 by omega), (show le ≤ 700 by omega), (show qu ≤ 12 by omega), (show n_6 ≤ 8 by omega), (show n_7 ≤ 24 by omega), (show n_8 ≤ 24 by omega), (show il ≤ 700 by omega), (show (i_2 + 1) ≤ 701 by omega)⟩
                refine z_goto (tgt := 208) B dX12_advanceToken_280 rfl ?_
                refine z_lv [0] rfl ?_
                exact ih2 (i_2 + 1, i_3) Φ17 (show il - (i_2 + 1) < il - i_2 by omega) ⟨hI19, (fun b9 h9 => ((fset_fr hΦ10 (fun h8 => h9 (0) h8 (show 0 = 0 by omega))).trans ((hF9 b9 (fun j9 h8 h7 => (show False from h7).elim)).trans ((hF8 b9 (fun j9 h8 h7 => (show False from h7).elim)).trans ((hF7 b9 (fun j9 h8 h7 => h9 j9 h8 (show j9 = 0 by have h6 : j9 = 0 := h7; omega))).trans rfl))))), (show i_1 ≤ (i_2 + 1) by omega), (Or.inl (show i_1 + 1 ≤ i_2 + 1 by omega)), trivial⟩
              · refine z_aload_n B dX12_advanceToken_244 rfl 0 rfl ?_
                refine z_aload_n B dX12_advanceToken_245 rfl 0 rfl ?_
                refine z_get (ref := "FlowExporterModel") (C := RX12) (T := TX12) (N := 54) (ci := 14) (v := .long i_3) B (by decide +kernel) rfl 53 (by decide) (by decide +kernel) rfl h_26 rfl dX12_advanceToken_246 ?_
                refine z_ldc2 (v := 10) B (by decide +kernel) dX12_advanceToken_249 ?_
                refine z_lmul B dX12_advanceToken_252 ?_
                refine z_fl (fun v_33 => ?_)
                refine z_aload_n B dX12_advanceToken_253 rfl 0 rfl ?_
                refine z_aload_n B dX12_advanceToken_254 rfl 0 rfl ?_
                refine z_get (ref := "FlowExporterModel") (C := RX12) (T := TX12) (N := 54) (ci := 14) (v := .int (nI i_2)) B (by decide +kernel) rfl 47 (by decide) (by decide +kernel) rfl h_26 rfl dX12_advanceToken_255 ?_
                have h_28 : Φ15 (x + 25) = some (ab_ G 700 f_1) := ((hF9 (x + 25) (fun j9 h8 h7 => (show False from h7).elim)).trans ((hF8 (x + 25) (fun j9 h8 h7 => (show False from h7).elim)).trans h_23))
                refine z_callV (As := [.int (nI i_2)]) (rest := [.long v_33, .ref x]) B (r_byteAt G l Φ15 sz x rd fl pe le i_2 il qu 2 ec nu i_3 f_1 i_2 hx hI17 h_28 (show i_2 ≤ 701 by omega)) (cwV 1 B.1.2.2.2.2 gX12_advanceToken_X12_byteAt rfl rfl rfl (by decide +kernel) ⟨Nat.le_of_ble_eq_true rfl, Nat.le_of_ble_eq_true rfl⟩) h_26 rfl rfl rfl rfl (Nat.le_of_ble_eq_true rfl) dX12_advanceToken_258 ⟨Nat.le_of_ble_eq_true rfl, Nat.le_of_ble_eq_true rfl⟩ (fun r_9 Φ18 sz8 st8 hp8 hs8 => ?_)
                obtain ⟨rfl, hq8, hI20, hF10⟩ := hp8
                subst sz8
                replace hs8 : st8 = [.int (bA f_1 il i_2), .long v_33, .ref x] := hs8
                subst st8
                replace hI20 : Im G x (rd, NN, fl, pe, le, i_2, il, qu, 2, ec, nu, i_3) Φ18 := hI20
                refine z_i2l (v := (bA f_1 il i_2).toInt64) B dX12_advanceToken_261 rfl ?_
                refine z_ladd B dX12_advanceToken_262 ?_
                refine z_fl (fun v_34 => ?_)
                refine z_ldc2 (v := 48) B (by decide +kernel) dX12_advanceToken_263 ?_
                refine z_lsub B dX12_advanceToken_266 ?_
                refine z_fl (fun v_35 => ?_)
                have h_29 : Φ18 x = some (o_ 14 [.int v_16, .ref (x + 1), .ref (x + 2), .int v_17, .int v_18, .int (nI n_5), .int v_19, .int v_20, .ref (x + 3), .ref (x + 4), .int v_21, .long v_22, .ref (x + 5), .int (nI fl), .int v_23, .long v_24, .long v_25, .long v_26, .long v_27, .ref (x + 6), .ref (x + 7), .int (nI pe), .ref (x + 8), .int (nI le), .ref (x + 9), .ref (x + 10), .int (nI qu), .ref (x + 11), .ref (x + 12), .ref (x + 13), .ref (x + 14), .ref (x + 15), .ref (x + 16), .int (nI n_6), .long v_28, .ref (x + 17), .ref (x + 18), .ref (x + 19), .ref (x + 20), .ref (x + 21), .ref (x + 22), .int (nI n_7), .ref (x + 23), .ref (x + 24), .int (nI n_8), .ref (x + 25), .int (nI il), .int (nI i_2), .int ec, .int v_29, .int 2, .int v_30, .int nu, .long i_3]) := ((hF10 x (fun j9 h8 h7 => (show False from h7).elim)).trans h_26)
                refine z_put (ref := "FlowExporterModel") (C := RX12) (T := TX12) (N := 54) (ci := 14) (v := .long v_35) B (by decide +kernel) tyX12 tyX12_ok nmX12 rfl 53 (by decide) (by decide +kernel) rfl (Or.inl rfl) h_29 hx rfl rfl (Nat.le_of_ble_eq_true rfl) dX12_advanceToken_267 (fun Φ19 hΦ11 => ?_)
                have h_30 : Φ19 x = some (o_ 14 [.int v_16, .ref (x + 1), .ref (x + 2), .int v_17, .int v_18, .int (nI n_5), .int v_19, .int v_20, .ref (x + 3), .ref (x + 4), .int v_21, .long v_22, .ref (x + 5), .int (nI fl), .int v_23, .long v_24, .long v_25, .long v_26, .long v_27, .ref (x + 6), .ref (x + 7), .int (nI pe), .ref (x + 8), .int (nI le), .ref (x + 9), .ref (x + 10), .int (nI qu), .ref (x + 11), .ref (x + 12), .ref (x + 13), .ref (x + 14), .ref (x + 15), .ref (x + 16), .int (nI n_6), .long v_28, .ref (x + 17), .ref (x + 18), .ref (x + 19), .ref (x + 20), .ref (x + 21), .ref (x + 22), .int (nI n_7), .ref (x + 23), .ref (x + 24), .int (nI n_8), .ref (x + 25), .int (nI il), .int (nI i_2), .int ec, .int v_29, .int 2, .int v_30, .int nu, .long v_35]) := fset_at hΦ11
                have hI21 : Im G x (rd, NN, fl, pe, le, i_2, il, qu, 2, ec, nu, v_35) Φ19 := Im.put0 hI20 hΦ11 ⟨v_16, v_17, v_18, n_5, v_19, v_20, v_21, v_22, v_23, v_24, v_25, v_26, v_27, n_6, v_28, n_7, n_8, v_29, v_30, rfl, b_30, (show 1 ≤ n_5 by omega), (show n_5 ≤ 1024 by omega), (show fl ≤ 12 by omega), (show pe ≤ 24 by omega), (show le ≤ 700 by omega), (show qu ≤ 12 by omega), (show n_6 ≤ 8 by omega), (show n_7 ≤ 24 by omega), (show n_8 ≤ 24 by omega), (show il ≤ 700 by omega), (show i_2 ≤ 701 by omega)⟩
                refine z_aload_n B dX12_advanceToken_270 rfl 0 rfl ?_
                refine z_dup B dX12_advanceToken_271 rfl ?_
                refine z_get (ref := "FlowExporterModel") (C := RX12) (T := TX12) (N := 54) (ci := 14) (v := .int (nI i_2)) B (by decide +kernel) rfl 47 (by decide) (by decide +kernel) rfl h_30 rfl dX12_advanceToken_272 ?_
                refine z_iconst (v := 1) B dX12_advanceToken_275 rfl ?_
                refine z_iadd B dX12_advanceToken_276 ?_
                refine z_top (st1 := [.int (nI (i_2 + 1)), .ref x]) (congrArg (fun w9 : Int32 => ([.int w9, .ref x] : List Value)) (nI_add i_2 1)) ?_
                refine z_put (ref := "FlowExporterModel") (C := RX12) (T := TX12) (N := 54) (ci := 14) (v := .int (nI (i_2 + 1))) B (by decide +kernel) tyX12 tyX12_ok nmX12 rfl 47 (by decide) (by decide +kernel) rfl (Or.inl rfl) h_30 hx rfl rfl (Nat.le_of_ble_eq_true rfl) dX12_advanceToken_277 (fun Φ20 hΦ12 => ?_)
                have h_31 : Φ20 x = some (o_ 14 [.int v_16, .ref (x + 1), .ref (x + 2), .int v_17, .int v_18, .int (nI n_5), .int v_19, .int v_20, .ref (x + 3), .ref (x + 4), .int v_21, .long v_22, .ref (x + 5), .int (nI fl), .int v_23, .long v_24, .long v_25, .long v_26, .long v_27, .ref (x + 6), .ref (x + 7), .int (nI pe), .ref (x + 8), .int (nI le), .ref (x + 9), .ref (x + 10), .int (nI qu), .ref (x + 11), .ref (x + 12), .ref (x + 13), .ref (x + 14), .ref (x + 15), .ref (x + 16), .int (nI n_6), .long v_28, .ref (x + 17), .ref (x + 18), .ref (x + 19), .ref (x + 20), .ref (x + 21), .ref (x + 22), .int (nI n_7), .ref (x + 23), .ref (x + 24), .int (nI n_8), .ref (x + 25), .int (nI il), .int (nI (i_2 + 1)), .int ec, .int v_29, .int 2, .int v_30, .int nu, .long v_35]) := fset_at hΦ12
                have hI22 : Im G x (rd, NN, fl, pe, le, i_2 + 1, il, qu, 2, ec, nu, v_35) Φ20 := Im.put0 hI21 hΦ12 ⟨v_16, v_17, v_18, n_5, v_19, v_20, v_21, v_22, v_23, v_24, v_25, v_26, v_27, n_6, v_28, n_7, n_8, v_29, v_30, rfl, b_30, (show 1 ≤ n_5 by omega), (show n_5 ≤ 1024 by omega), (show fl ≤ 12 by omega), (show pe ≤ 24 by omega), (show le ≤ 700 by omega), (show qu ≤ 12 by omega), (show n_6 ≤ 8 by omega), (show n_7 ≤ 24 by omega), (show n_8 ≤ 24 by omega), (show il ≤ 700 by omega), (show (i_2 + 1) ≤ 701 by omega)⟩
                refine z_goto (tgt := 208) B dX12_advanceToken_280 rfl ?_
                refine z_lv [0] rfl ?_
                exact ih2 (i_2 + 1, v_35) Φ20 (show il - (i_2 + 1) < il - i_2 by omega) ⟨hI22, (fun b9 h9 => ((fset_fr hΦ12 (fun h8 => h9 (0) h8 (show 0 = 0 by omega))).trans ((fset_fr hΦ11 (fun h8 => h9 (0) h8 (show 0 = 0 by omega))).trans ((hF10 b9 (fun j9 h8 h7 => (show False from h7).elim)).trans ((hF9 b9 (fun j9 h8 h7 => (show False from h7).elim)).trans ((hF8 b9 (fun j9 h8 h7 => (show False from h7).elim)).trans ((hF7 b9 (fun j9 h8 h7 => h9 j9 h8 (show j9 = 0 by have h6 : j9 = 0 := h7; omega))).trans rfl))))))), (show i_1 ≤ (i_2 + 1) by omega), (Or.inl (show i_1 + 1 ≤ i_2 + 1 by omega)), trivial⟩
        · replace hs4 : st4 = [.int 1, .ref x] := hs4
          subst st4
          replace hL1 : inP (bA f_1 il i_1).toInt64 97 122 := hL1
          have b_33 := bA_in (by decide) hL1
          refine z_if_eq (tgt := 82) B dX12_advanceToken_75 rfl (fun h9 => absurd h9 (by decide)) (fun c_29 => ?_)
          refine z_iconst (v := 1) B dX12_advanceToken_78 rfl ?_
          refine z_goto (tgt := 104) B dX12_advanceToken_79 rfl ?_
          have h_32 : Φ7 x = some (o_ 14 [.int v_1, .ref (x + 1), .ref (x + 2), .int v_2, .int v_3, .int (nI n_1), .int v_4, .int v_5, .ref (x + 3), .ref (x + 4), .int v_6, .long v_7, .ref (x + 5), .int (nI fl), .int v_8, .long v_9, .long v_10, .long v_11, .long v_12, .ref (x + 6), .ref (x + 7), .int (nI pe), .ref (x + 8), .int (nI le), .ref (x + 9), .ref (x + 10), .int (nI qu), .ref (x + 11), .ref (x + 12), .ref (x + 13), .ref (x + 14), .ref (x + 15), .ref (x + 16), .int (nI n_2), .long v_13, .ref (x + 17), .ref (x + 18), .ref (x + 19), .ref (x + 20), .ref (x + 21), .ref (x + 22), .int (nI n_3), .ref (x + 23), .ref (x + 24), .int (nI n_4), .ref (x + 25), .int (nI il), .int (nI i_1), .int ec, .int v_14, .int kn, .int (nI i_1), .int nu, .long 0]) := ((hF5 x (fun j9 h8 h7 => (show False from h7).elim)).trans ((hF4 x (fun j9 h8 h7 => (show False from h7).elim)).trans h_11))
          refine z_put (ref := "FlowExporterModel") (C := RX12) (T := TX12) (N := 54) (ci := 14) (v := .int 1) B (by decide +kernel) tyX12 tyX12_ok nmX12 rfl 50 (by decide) (by decide +kernel) rfl (Or.inl rfl) h_32 hx rfl rfl (Nat.le_of_ble_eq_true rfl) dX12_advanceToken_104 (fun Φ21 hΦ13 => ?_)
          have h_33 : Φ21 x = some (o_ 14 [.int v_1, .ref (x + 1), .ref (x + 2), .int v_2, .int v_3, .int (nI n_1), .int v_4, .int v_5, .ref (x + 3), .ref (x + 4), .int v_6, .long v_7, .ref (x + 5), .int (nI fl), .int v_8, .long v_9, .long v_10, .long v_11, .long v_12, .ref (x + 6), .ref (x + 7), .int (nI pe), .ref (x + 8), .int (nI le), .ref (x + 9), .ref (x + 10), .int (nI qu), .ref (x + 11), .ref (x + 12), .ref (x + 13), .ref (x + 14), .ref (x + 15), .ref (x + 16), .int (nI n_2), .long v_13, .ref (x + 17), .ref (x + 18), .ref (x + 19), .ref (x + 20), .ref (x + 21), .ref (x + 22), .int (nI n_3), .ref (x + 23), .ref (x + 24), .int (nI n_4), .ref (x + 25), .int (nI il), .int (nI i_1), .int ec, .int v_14, .int 1, .int (nI i_1), .int nu, .long 0]) := fset_at hΦ13
          have hI23 : Im G x (rd, NN, fl, pe, le, i_1, il, qu, 1, ec, nu, 0) Φ21 := Im.put0 hI8 hΦ13 ⟨v_1, v_2, v_3, n_1, v_4, v_5, v_6, v_7, v_8, v_9, v_10, v_11, v_12, n_2, v_13, n_3, n_4, v_14, nI i_1, rfl, b_13, (show 1 ≤ n_1 by omega), (show n_1 ≤ 1024 by omega), (show fl ≤ 12 by omega), (show pe ≤ 24 by omega), (show le ≤ 700 by omega), (show qu ≤ 12 by omega), (show n_2 ≤ 8 by omega), (show n_3 ≤ 24 by omega), (show n_4 ≤ 24 by omega), (show il ≤ 700 by omega), (show i_1 ≤ 701 by omega)⟩
          refine z_aload_n B dX12_advanceToken_107 rfl 1 rfl ?_
          refine z_get (ref := "FlowExporterModel") (C := RX12) (T := TX12) (N := 54) (ci := 14) (v := .int 1) B (by decide +kernel) rfl 50 (by decide) (by decide +kernel) rfl h_33 rfl dX12_advanceToken_108 ?_
          refine z_iconst (v := 3) B dX12_advanceToken_111 rfl ?_
          refine z_icmp_eq (tgt := 123) B dX12_advanceToken_112 rfl (fun h9 => absurd h9 (by decide)) (fun c_30 => ?_)
          refine z_aload_n B dX12_advanceToken_115 rfl 1 rfl ?_
          refine z_get (ref := "FlowExporterModel") (C := RX12) (T := TX12) (N := 54) (ci := 14) (v := .int 1) B (by decide +kernel) rfl 50 (by decide) (by decide +kernel) rfl h_33 rfl dX12_advanceToken_116 ?_
          refine z_iconst (v := 4) B dX12_advanceToken_119 rfl ?_
          refine z_icmp_ne (tgt := 133) B dX12_advanceToken_120 rfl (fun c_31 => ?_) (fun h9 => absurd h9 (by decide))
          refine z_lv [1] rfl ?_
          refine z_loop (α := Nat × Int64) (fun (a9 : Nat × Int64) Φi => Im G x (rd, NN, fl, pe, le, a9.1, il, qu, 1, ec, nu, a9.2) Φi ∧ Fr x (fun j9 => j9 = 0) Φ21 Φi ∧ (i_1 ≤ a9.1) ∧ (i_1 + 1 ≤ a9.1 ∨ (a9.1 = i_1 ∧ inP (bA f_1 il i_1).toInt64 97 122)) ∧ True) (fun a9 => [(0, .ref x)]) (fun a9 => il - a9.1) ?_ (i_1, 0) ⟨hI23, fun _ _ => rfl, (show i_1 ≤ i_1 by omega), (Or.inr ⟨rfl, hL1⟩), trivial⟩
          rintro ⟨i_4, i_5⟩ Φl3 ⟨hI24, hF11, b_34, b_35, -⟩ ih3
          replace hI24 : Im G x (rd, NN, fl, pe, le, i_4, il, qu, 1, ec, nu, i_5) Φl3 := hI24
          replace b_34 : i_1 ≤ i_4 := b_34
          replace b_35 : i_1 + 1 ≤ i_4 ∨ (i_4 = i_1 ∧ inP (bA f_1 il i_1).toInt64 97 122) := b_35
          show Z p9 l e9 _ s9 m9 _ w9 t9 k9 _ G 2 133 [(0, .ref x)] [] Φl3 _ _ _
          refine z_aload_n B dX12_advanceToken_133 rfl 0 rfl ?_
          obtain ⟨v_36, v_37, v_38, n_10, v_39, v_40, v_41, v_42, v_43, v_44, v_45, v_46, v_47, n_11, v_48, n_12, n_13, v_49, v_50, h_34, b_47, b_36, b_37, b_38, b_39, b_40, b_41, b_42, b_43, b_44, b_45, b_46⟩ := im0 hI24
          replace b_36 : 1 ≤ n_10 := b_36
          replace b_37 : n_10 ≤ 1024 := b_37
          replace b_38 : fl ≤ 12 := b_38
          replace b_39 : pe ≤ 24 := b_39
          replace b_40 : le ≤ 700 := b_40
          replace b_41 : qu ≤ 12 := b_41
          replace b_42 : n_11 ≤ 8 := b_42
          replace b_43 : n_12 ≤ 24 := b_43
          replace b_44 : n_13 ≤ 24 := b_44
          replace b_45 : il ≤ 700 := b_45
          replace b_46 : i_4 ≤ 701 := b_46
          have h_35 : Φl3 x = some (o_ 14 [.int v_36, .ref (x + 1), .ref (x + 2), .int v_37, .int v_38, .int (nI n_10), .int v_39, .int v_40, .ref (x + 3), .ref (x + 4), .int v_41, .long v_42, .ref (x + 5), .int (nI fl), .int v_43, .long v_44, .long v_45, .long v_46, .long v_47, .ref (x + 6), .ref (x + 7), .int (nI pe), .ref (x + 8), .int (nI le), .ref (x + 9), .ref (x + 10), .int (nI qu), .ref (x + 11), .ref (x + 12), .ref (x + 13), .ref (x + 14), .ref (x + 15), .ref (x + 16), .int (nI n_11), .long v_48, .ref (x + 17), .ref (x + 18), .ref (x + 19), .ref (x + 20), .ref (x + 21), .ref (x + 22), .int (nI n_12), .ref (x + 23), .ref (x + 24), .int (nI n_13), .ref (x + 25), .int (nI il), .int (nI i_4), .int ec, .int v_49, .int 1, .int v_50, .int nu, .long i_5]) := h_34
          refine z_get (ref := "FlowExporterModel") (C := RX12) (T := TX12) (N := 54) (ci := 14) (v := .int 1) B (by decide +kernel) rfl 50 (by decide) (by decide +kernel) rfl h_35 rfl dX12_advanceToken_134 ?_
          refine z_iconst (v := 1) B dX12_advanceToken_137 rfl ?_
          refine z_icmp_ne (tgt := 208) B dX12_advanceToken_138 rfl (fun h9 => absurd (by decide) h9) (fun c_32 => ?_)
          refine z_aload_n B dX12_advanceToken_141 rfl 0 rfl ?_
          refine z_aload_n B dX12_advanceToken_142 rfl 0 rfl ?_
          refine z_get (ref := "FlowExporterModel") (C := RX12) (T := TX12) (N := 54) (ci := 14) (v := .int (nI i_4)) B (by decide +kernel) rfl 47 (by decide) (by decide +kernel) rfl h_35 rfl dX12_advanceToken_143 ?_
          have h_36 : Φl3 (x + 25) = some (ab_ G 700 f_1) := ((hF11 (x + 25) (fun j9 h8 h7 => by have h6 : j9 = 0 := h7; omega)).trans ((fset_fr hΦ13 (ne_off (x := x) (i := 25) (j := 0) rfl)).trans ((hF5 (x + 25) (fun j9 h8 h7 => (show False from h7).elim)).trans ((hF4 (x + 25) (fun j9 h8 h7 => (show False from h7).elim)).trans h_12))))
          refine z_callV (As := [.int (nI i_4)]) (rest := []) B (r_byteAt G l Φl3 sz x rd fl pe le i_4 il qu 1 ec nu i_5 f_1 i_4 hx hI24 h_36 (show i_4 ≤ 701 by omega)) (cwV 1 B.1.2.2.2.2 gX12_advanceToken_X12_byteAt rfl rfl rfl (by decide +kernel) ⟨Nat.le_of_ble_eq_true rfl, Nat.le_of_ble_eq_true rfl⟩) h_35 rfl rfl rfl rfl (Nat.le_of_ble_eq_true rfl) dX12_advanceToken_146 ⟨Nat.le_of_ble_eq_true rfl, Nat.le_of_ble_eq_true rfl⟩ (fun r_10 Φ22 sz9 st9 hp9 hs9 => ?_)
          obtain ⟨rfl, hq9, hI25, hF12⟩ := hp9
          subst sz9
          replace hs9 : st9 = [.int (bA f_1 il i_4)] := hs9
          subst st9
          replace hI25 : Im G x (rd, NN, fl, pe, le, i_4, il, qu, 1, ec, nu, i_5) Φ22 := hI25
          refine z_callS (As := [.int (bA f_1 il i_4)]) (rest := []) B (r_isLetter G l Φ22 sz x rd fl pe le i_4 il qu 1 ec nu i_5 (bA f_1 il i_4) hx hI25 ) (va_cwS 1 B.1.2.2.2.2 gX12_advanceToken_X12_isLetter rfl rfl rfl (by decide +kernel) ⟨Nat.le_of_ble_eq_true rfl, Nat.le_of_ble_eq_true rfl⟩) rfl rfl (Nat.le_of_ble_eq_true rfl) dX12_advanceToken_149 ⟨Nat.le_of_ble_eq_true rfl, Nat.le_of_ble_eq_true rfl⟩ (fun r_11 Φ23 sz10 st10 hp10 hs10 => ?_)
          obtain ⟨ha4, hq10, hI26, hF13⟩ := hp10
          subst sz10
          replace hI26 : Im G x (rd, NN, fl, pe, le, i_4, il, qu, 1, ec, nu, i_5) Φ23 := hI26
          rcases ha4 with ⟨rfl, hL4⟩ | ⟨rfl, hL4⟩
          · replace hs10 : st10 = [.int 0] := hs10
            subst st10
            replace hL4 : ¬ inP (bA f_1 il i_4).toInt64 97 122 := hL4
            refine z_if_eq (tgt := 208) B dX12_advanceToken_152 rfl (fun c_33 => ?_) (fun h9 => absurd (by decide) h9)
            have b_48 : i_1 + 1 ≤ i_4 := by
              rcases b_35 with h | ⟨h1, h2⟩
              · exact h
              · exact absurd (h1.symm ▸ h2) hL4
            refine z_aload_n B dX12_advanceToken_208 rfl 0 rfl ?_
            have h_37 : Φ23 x = some (o_ 14 [.int v_36, .ref (x + 1), .ref (x + 2), .int v_37, .int v_38, .int (nI n_10), .int v_39, .int v_40, .ref (x + 3), .ref (x + 4), .int v_41, .long v_42, .ref (x + 5), .int (nI fl), .int v_43, .long v_44, .long v_45, .long v_46, .long v_47, .ref (x + 6), .ref (x + 7), .int (nI pe), .ref (x + 8), .int (nI le), .ref (x + 9), .ref (x + 10), .int (nI qu), .ref (x + 11), .ref (x + 12), .ref (x + 13), .ref (x + 14), .ref (x + 15), .ref (x + 16), .int (nI n_11), .long v_48, .ref (x + 17), .ref (x + 18), .ref (x + 19), .ref (x + 20), .ref (x + 21), .ref (x + 22), .int (nI n_12), .ref (x + 23), .ref (x + 24), .int (nI n_13), .ref (x + 25), .int (nI il), .int (nI i_4), .int ec, .int v_49, .int 1, .int v_50, .int nu, .long i_5]) := ((hF13 x (fun j9 h8 h7 => (show False from h7).elim)).trans ((hF12 x (fun j9 h8 h7 => (show False from h7).elim)).trans h_35))
            refine z_get (ref := "FlowExporterModel") (C := RX12) (T := TX12) (N := 54) (ci := 14) (v := .int 1) B (by decide +kernel) rfl 50 (by decide) (by decide +kernel) rfl h_37 rfl dX12_advanceToken_209 ?_
            refine z_iconst (v := 2) B dX12_advanceToken_212 rfl ?_
            refine z_icmp_ne (tgt := 283) B dX12_advanceToken_213 rfl (fun c_34 => ?_) (fun h9 => absurd h9 (by decide))
            refine z_aload_n B dX12_advanceToken_283 rfl 0 rfl ?_
            refine z_get (ref := "FlowExporterModel") (C := RX12) (T := TX12) (N := 54) (ci := 14) (v := .int 1) B (by decide +kernel) rfl 50 (by decide) (by decide +kernel) rfl h_37 rfl dX12_advanceToken_284 ?_
            refine z_iconst (v := 1) B dX12_advanceToken_287 rfl ?_
            refine z_icmp_ne (tgt := 305) B dX12_advanceToken_288 rfl (fun h9 => absurd (by decide) h9) (fun c_35 => ?_)
            refine z_aload_n B dX12_advanceToken_291 rfl 0 rfl ?_
            refine z_get (ref := "FlowExporterModel") (C := RX12) (T := TX12) (N := 54) (ci := 14) (v := .int (nI i_4)) B (by decide +kernel) rfl 47 (by decide) (by decide +kernel) rfl h_37 rfl dX12_advanceToken_292 ?_
            refine z_aload_n B dX12_advanceToken_295 rfl 0 rfl ?_
            refine z_get (ref := "FlowExporterModel") (C := RX12) (T := TX12) (N := 54) (ci := 14) (v := .int v_50) B (by decide +kernel) rfl 51 (by decide) (by decide +kernel) rfl h_37 rfl dX12_advanceToken_296 ?_
            refine z_isub B dX12_advanceToken_299 ?_
            refine z_fi (fun v_51 => ?_)
            refine z_bipush (v := 12) B dX12_advanceToken_300 rfl ?_
            refine z_icmp_gt (tgt := 327) B dX12_advanceToken_302 rfl (fun c_36 => ?_) (fun c_36 => ?_)
            · refine z_aload_n B dX12_advanceToken_327 rfl 0 rfl ?_
              refine z_iconst (v := 4) B dX12_advanceToken_328 rfl ?_
              refine z_put (ref := "FlowExporterModel") (C := RX12) (T := TX12) (N := 54) (ci := 14) (v := .int 4) B (by decide +kernel) tyX12 tyX12_ok nmX12 rfl 50 (by decide) (by decide +kernel) rfl (Or.inl rfl) h_37 hx rfl rfl (Nat.le_of_ble_eq_true rfl) dX12_advanceToken_329 (fun Φ24 hΦ14 => ?_)
              have h_38 : Φ24 x = some (o_ 14 [.int v_36, .ref (x + 1), .ref (x + 2), .int v_37, .int v_38, .int (nI n_10), .int v_39, .int v_40, .ref (x + 3), .ref (x + 4), .int v_41, .long v_42, .ref (x + 5), .int (nI fl), .int v_43, .long v_44, .long v_45, .long v_46, .long v_47, .ref (x + 6), .ref (x + 7), .int (nI pe), .ref (x + 8), .int (nI le), .ref (x + 9), .ref (x + 10), .int (nI qu), .ref (x + 11), .ref (x + 12), .ref (x + 13), .ref (x + 14), .ref (x + 15), .ref (x + 16), .int (nI n_11), .long v_48, .ref (x + 17), .ref (x + 18), .ref (x + 19), .ref (x + 20), .ref (x + 21), .ref (x + 22), .int (nI n_12), .ref (x + 23), .ref (x + 24), .int (nI n_13), .ref (x + 25), .int (nI il), .int (nI i_4), .int ec, .int v_49, .int 4, .int v_50, .int nu, .long i_5]) := fset_at hΦ14
              have hI27 : Im G x (rd, NN, fl, pe, le, i_4, il, qu, 4, ec, nu, i_5) Φ24 := Im.put0 hI26 hΦ14 ⟨v_36, v_37, v_38, n_10, v_39, v_40, v_41, v_42, v_43, v_44, v_45, v_46, v_47, n_11, v_48, n_12, n_13, v_49, v_50, rfl, b_47, (show 1 ≤ n_10 by omega), (show n_10 ≤ 1024 by omega), (show fl ≤ 12 by omega), (show pe ≤ 24 by omega), (show le ≤ 700 by omega), (show qu ≤ 12 by omega), (show n_11 ≤ 8 by omega), (show n_12 ≤ 24 by omega), (show n_13 ≤ 24 by omega), (show il ≤ 700 by omega), (show i_4 ≤ 701 by omega)⟩
              refine z_ret_v B dX12_advanceToken_332 ⟨rfl, rfl, ⟨i_4, 4, i_5, ?_, ?_, hI27⟩, ?_⟩
              · exact (show nx ≤ i_4 by omega)
              · exact (Or.inr (show nx < i_4 by omega))
              · exact (fun b9 h9 => ((fset_fr hΦ14 (fun h8 => h9 (0) h8 (show 0 = 0 by omega))).trans ((hF13 b9 (fun j9 h8 h7 => (show False from h7).elim)).trans ((hF12 b9 (fun j9 h8 h7 => (show False from h7).elim)).trans ((hF11 b9 (fun j9 h8 h7 => h9 j9 h8 (show j9 = 0 by have h6 : j9 = 0 := h7; omega))).trans ((fset_fr hΦ13 (fun h8 => h9 (0) h8 (show 0 = 0 by omega))).trans ((hF5 b9 (fun j9 h8 h7 => (show False from h7).elim)).trans ((hF4 b9 (fun j9 h8 h7 => (show False from h7).elim)).trans ((fset_fr hΦ3 (fun h8 => h9 (0) h8 (show 0 = 0 by omega))).trans ((fset_fr hΦ2 (fun h8 => h9 (0) h8 (show 0 = 0 by omega))).trans ((hF3 b9 (fun j9 h8 h7 => (show False from h7).elim)).trans ((hF2 b9 (fun j9 h8 h7 => (show False from h7).elim)).trans ((hF1 b9 (fun j9 h8 h7 => h9 j9 h8 (show j9 = 0 by have h6 : j9 = 0 := h7; omega))).trans rfl)))))))))))))
            · refine z_aload_n B dX12_advanceToken_305 rfl 0 rfl ?_
              refine z_get (ref := "FlowExporterModel") (C := RX12) (T := TX12) (N := 54) (ci := 14) (v := .int 1) B (by decide +kernel) rfl 50 (by decide) (by decide +kernel) rfl h_37 rfl dX12_advanceToken_306 ?_
              refine z_iconst (v := 2) B dX12_advanceToken_309 rfl ?_
              refine z_icmp_ne (tgt := 332) B dX12_advanceToken_310 rfl (fun c_37 => ?_) (fun h9 => absurd h9 (by decide))
              refine z_ret_v B dX12_advanceToken_332 ⟨rfl, rfl, ⟨i_4, 1, i_5, ?_, ?_, hI26⟩, ?_⟩
              · exact (show nx ≤ i_4 by omega)
              · exact (Or.inr (show nx < i_4 by omega))
              · exact (fun b9 h9 => ((hF13 b9 (fun j9 h8 h7 => (show False from h7).elim)).trans ((hF12 b9 (fun j9 h8 h7 => (show False from h7).elim)).trans ((hF11 b9 (fun j9 h8 h7 => h9 j9 h8 (show j9 = 0 by have h6 : j9 = 0 := h7; omega))).trans ((fset_fr hΦ13 (fun h8 => h9 (0) h8 (show 0 = 0 by omega))).trans ((hF5 b9 (fun j9 h8 h7 => (show False from h7).elim)).trans ((hF4 b9 (fun j9 h8 h7 => (show False from h7).elim)).trans ((fset_fr hΦ3 (fun h8 => h9 (0) h8 (show 0 = 0 by omega))).trans ((fset_fr hΦ2 (fun h8 => h9 (0) h8 (show 0 = 0 by omega))).trans ((hF3 b9 (fun j9 h8 h7 => (show False from h7).elim)).trans ((hF2 b9 (fun j9 h8 h7 => (show False from h7).elim)).trans ((hF1 b9 (fun j9 h8 h7 => h9 j9 h8 (show j9 = 0 by have h6 : j9 = 0 := h7; omega))).trans rfl))))))))))))
          · replace hs10 : st10 = [.int 1] := hs10
            subst st10
            replace hL4 : inP (bA f_1 il i_4).toInt64 97 122 := hL4
            have b_49 := bA_in (by decide) hL4
            refine z_if_eq (tgt := 208) B dX12_advanceToken_152 rfl (fun h9 => absurd h9 (by decide)) (fun c_38 => ?_)
            refine z_aload_n B dX12_advanceToken_155 rfl 0 rfl ?_
            have h_39 : Φ23 x = some (o_ 14 [.int v_36, .ref (x + 1), .ref (x + 2), .int v_37, .int v_38, .int (nI n_10), .int v_39, .int v_40, .ref (x + 3), .ref (x + 4), .int v_41, .long v_42, .ref (x + 5), .int (nI fl), .int v_43, .long v_44, .long v_45, .long v_46, .long v_47, .ref (x + 6), .ref (x + 7), .int (nI pe), .ref (x + 8), .int (nI le), .ref (x + 9), .ref (x + 10), .int (nI qu), .ref (x + 11), .ref (x + 12), .ref (x + 13), .ref (x + 14), .ref (x + 15), .ref (x + 16), .int (nI n_11), .long v_48, .ref (x + 17), .ref (x + 18), .ref (x + 19), .ref (x + 20), .ref (x + 21), .ref (x + 22), .int (nI n_12), .ref (x + 23), .ref (x + 24), .int (nI n_13), .ref (x + 25), .int (nI il), .int (nI i_4), .int ec, .int v_49, .int 1, .int v_50, .int nu, .long i_5]) := ((hF13 x (fun j9 h8 h7 => (show False from h7).elim)).trans ((hF12 x (fun j9 h8 h7 => (show False from h7).elim)).trans h_35))
            refine z_get (ref := "FlowExporterModel") (C := RX12) (T := TX12) (N := 54) (ci := 14) (v := .int (nI i_4)) B (by decide +kernel) rfl 47 (by decide) (by decide +kernel) rfl h_39 rfl dX12_advanceToken_156 ?_
            refine z_aload_n B dX12_advanceToken_159 rfl 0 rfl ?_
            refine z_get (ref := "FlowExporterModel") (C := RX12) (T := TX12) (N := 54) (ci := 14) (v := .int v_50) B (by decide +kernel) rfl 51 (by decide) (by decide +kernel) rfl h_39 rfl dX12_advanceToken_160 ?_
            refine z_isub B dX12_advanceToken_163 ?_
            refine z_fi (fun v_52 => ?_)
            refine z_bipush (v := 12) B dX12_advanceToken_164 rfl ?_
            refine z_icmp_ge (tgt := 195) B dX12_advanceToken_166 rfl (fun c_39 => ?_) (fun c_39 => ?_)
            · obtain ⟨n_14, e_4, e_3, rfl⟩ := nI_ofge (c := 12) (by omega) (Int32.not_lt.mpr c_39)
              refine z_aload_n B dX12_advanceToken_195 rfl 0 rfl ?_
              refine z_dup B dX12_advanceToken_196 rfl ?_
              refine z_get (ref := "FlowExporterModel") (C := RX12) (T := TX12) (N := 54) (ci := 14) (v := .int (nI i_4)) B (by decide +kernel) rfl 47 (by decide) (by decide +kernel) rfl h_39 rfl dX12_advanceToken_197 ?_
              refine z_iconst (v := 1) B dX12_advanceToken_200 rfl ?_
              refine z_iadd B dX12_advanceToken_201 ?_
              refine z_top (st1 := [.int (nI (i_4 + 1)), .ref x]) (congrArg (fun w9 : Int32 => ([.int w9, .ref x] : List Value)) (nI_add i_4 1)) ?_
              refine z_put (ref := "FlowExporterModel") (C := RX12) (T := TX12) (N := 54) (ci := 14) (v := .int (nI (i_4 + 1))) B (by decide +kernel) tyX12 tyX12_ok nmX12 rfl 47 (by decide) (by decide +kernel) rfl (Or.inl rfl) h_39 hx rfl rfl (Nat.le_of_ble_eq_true rfl) dX12_advanceToken_202 (fun Φ25 hΦ15 => ?_)
              have h_40 : Φ25 x = some (o_ 14 [.int v_36, .ref (x + 1), .ref (x + 2), .int v_37, .int v_38, .int (nI n_10), .int v_39, .int v_40, .ref (x + 3), .ref (x + 4), .int v_41, .long v_42, .ref (x + 5), .int (nI fl), .int v_43, .long v_44, .long v_45, .long v_46, .long v_47, .ref (x + 6), .ref (x + 7), .int (nI pe), .ref (x + 8), .int (nI le), .ref (x + 9), .ref (x + 10), .int (nI qu), .ref (x + 11), .ref (x + 12), .ref (x + 13), .ref (x + 14), .ref (x + 15), .ref (x + 16), .int (nI n_11), .long v_48, .ref (x + 17), .ref (x + 18), .ref (x + 19), .ref (x + 20), .ref (x + 21), .ref (x + 22), .int (nI n_12), .ref (x + 23), .ref (x + 24), .int (nI n_13), .ref (x + 25), .int (nI il), .int (nI (i_4 + 1)), .int ec, .int v_49, .int 1, .int v_50, .int nu, .long i_5]) := fset_at hΦ15
              have hI28 : Im G x (rd, NN, fl, pe, le, i_4 + 1, il, qu, 1, ec, nu, i_5) Φ25 := Im.put0 hI26 hΦ15 ⟨v_36, v_37, v_38, n_10, v_39, v_40, v_41, v_42, v_43, v_44, v_45, v_46, v_47, n_11, v_48, n_12, n_13, v_49, v_50, rfl, b_47, (show 1 ≤ n_10 by omega), (show n_10 ≤ 1024 by omega), (show fl ≤ 12 by omega), (show pe ≤ 24 by omega), (show le ≤ 700 by omega), (show qu ≤ 12 by omega), (show n_11 ≤ 8 by omega), (show n_12 ≤ 24 by omega), (show n_13 ≤ 24 by omega), (show il ≤ 700 by omega), (show (i_4 + 1) ≤ 701 by omega)⟩
              refine z_goto (tgt := 133) B dX12_advanceToken_205 rfl ?_
              refine z_lv [0] rfl ?_
              exact ih3 (i_4 + 1, i_5) Φ25 (show il - (i_4 + 1) < il - i_4 by omega) ⟨hI28, (fun b9 h9 => ((fset_fr hΦ15 (fun h8 => h9 (0) h8 (show 0 = 0 by omega))).trans ((hF13 b9 (fun j9 h8 h7 => (show False from h7).elim)).trans ((hF12 b9 (fun j9 h8 h7 => (show False from h7).elim)).trans ((hF11 b9 (fun j9 h8 h7 => h9 j9 h8 (show j9 = 0 by have h6 : j9 = 0 := h7; omega))).trans rfl))))), (show i_1 ≤ (i_4 + 1) by omega), (Or.inl (show i_1 + 1 ≤ i_4 + 1 by omega)), trivial⟩
            · refine z_aload_n B dX12_advanceToken_169 rfl 0 rfl ?_
              refine z_aload_n B dX12_advanceToken_170 rfl 0 rfl ?_
              refine z_get (ref := "FlowExporterModel") (C := RX12) (T := TX12) (N := 54) (ci := 14) (v := .long i_5) B (by decide +kernel) rfl 53 (by decide) (by decide +kernel) rfl h_39 rfl dX12_advanceToken_171 ?_
              refine z_ldc2 (v := 32) B (by decide +kernel) dX12_advanceToken_174 ?_
              refine z_lmul B dX12_advanceToken_177 ?_
              refine z_fl (fun v_53 => ?_)
              refine z_aload_n B dX12_advanceToken_178 rfl 0 rfl ?_
              refine z_aload_n B dX12_advanceToken_179 rfl 0 rfl ?_
              refine z_get (ref := "FlowExporterModel") (C := RX12) (T := TX12) (N := 54) (ci := 14) (v := .int (nI i_4)) B (by decide +kernel) rfl 47 (by decide) (by decide +kernel) rfl h_39 rfl dX12_advanceToken_180 ?_
              have h_41 : Φ23 (x + 25) = some (ab_ G 700 f_1) := ((hF13 (x + 25) (fun j9 h8 h7 => (show False from h7).elim)).trans ((hF12 (x + 25) (fun j9 h8 h7 => (show False from h7).elim)).trans h_36))
              refine z_callV (As := [.int (nI i_4)]) (rest := [.long v_53, .ref x]) B (r_byteAt G l Φ23 sz x rd fl pe le i_4 il qu 1 ec nu i_5 f_1 i_4 hx hI26 h_41 (show i_4 ≤ 701 by omega)) (cwV 1 B.1.2.2.2.2 gX12_advanceToken_X12_byteAt rfl rfl rfl (by decide +kernel) ⟨Nat.le_of_ble_eq_true rfl, Nat.le_of_ble_eq_true rfl⟩) h_39 rfl rfl rfl rfl (Nat.le_of_ble_eq_true rfl) dX12_advanceToken_183 ⟨Nat.le_of_ble_eq_true rfl, Nat.le_of_ble_eq_true rfl⟩ (fun r_12 Φ26 sz11 st11 hp11 hs11 => ?_)
              obtain ⟨rfl, hq11, hI29, hF14⟩ := hp11
              subst sz11
              replace hs11 : st11 = [.int (bA f_1 il i_4), .long v_53, .ref x] := hs11
              subst st11
              replace hI29 : Im G x (rd, NN, fl, pe, le, i_4, il, qu, 1, ec, nu, i_5) Φ26 := hI29
              refine z_i2l (v := (bA f_1 il i_4).toInt64) B dX12_advanceToken_186 rfl ?_
              refine z_ladd B dX12_advanceToken_187 ?_
              refine z_fl (fun v_54 => ?_)
              refine z_ldc2 (v := 96) B (by decide +kernel) dX12_advanceToken_188 ?_
              refine z_lsub B dX12_advanceToken_191 ?_
              refine z_fl (fun v_55 => ?_)
              have h_42 : Φ26 x = some (o_ 14 [.int v_36, .ref (x + 1), .ref (x + 2), .int v_37, .int v_38, .int (nI n_10), .int v_39, .int v_40, .ref (x + 3), .ref (x + 4), .int v_41, .long v_42, .ref (x + 5), .int (nI fl), .int v_43, .long v_44, .long v_45, .long v_46, .long v_47, .ref (x + 6), .ref (x + 7), .int (nI pe), .ref (x + 8), .int (nI le), .ref (x + 9), .ref (x + 10), .int (nI qu), .ref (x + 11), .ref (x + 12), .ref (x + 13), .ref (x + 14), .ref (x + 15), .ref (x + 16), .int (nI n_11), .long v_48, .ref (x + 17), .ref (x + 18), .ref (x + 19), .ref (x + 20), .ref (x + 21), .ref (x + 22), .int (nI n_12), .ref (x + 23), .ref (x + 24), .int (nI n_13), .ref (x + 25), .int (nI il), .int (nI i_4), .int ec, .int v_49, .int 1, .int v_50, .int nu, .long i_5]) := ((hF14 x (fun j9 h8 h7 => (show False from h7).elim)).trans h_39)
              refine z_put (ref := "FlowExporterModel") (C := RX12) (T := TX12) (N := 54) (ci := 14) (v := .long v_55) B (by decide +kernel) tyX12 tyX12_ok nmX12 rfl 53 (by decide) (by decide +kernel) rfl (Or.inl rfl) h_42 hx rfl rfl (Nat.le_of_ble_eq_true rfl) dX12_advanceToken_192 (fun Φ27 hΦ16 => ?_)
              have h_43 : Φ27 x = some (o_ 14 [.int v_36, .ref (x + 1), .ref (x + 2), .int v_37, .int v_38, .int (nI n_10), .int v_39, .int v_40, .ref (x + 3), .ref (x + 4), .int v_41, .long v_42, .ref (x + 5), .int (nI fl), .int v_43, .long v_44, .long v_45, .long v_46, .long v_47, .ref (x + 6), .ref (x + 7), .int (nI pe), .ref (x + 8), .int (nI le), .ref (x + 9), .ref (x + 10), .int (nI qu), .ref (x + 11), .ref (x + 12), .ref (x + 13), .ref (x + 14), .ref (x + 15), .ref (x + 16), .int (nI n_11), .long v_48, .ref (x + 17), .ref (x + 18), .ref (x + 19), .ref (x + 20), .ref (x + 21), .ref (x + 22), .int (nI n_12), .ref (x + 23), .ref (x + 24), .int (nI n_13), .ref (x + 25), .int (nI il), .int (nI i_4), .int ec, .int v_49, .int 1, .int v_50, .int nu, .long v_55]) := fset_at hΦ16
              have hI30 : Im G x (rd, NN, fl, pe, le, i_4, il, qu, 1, ec, nu, v_55) Φ27 := Im.put0 hI29 hΦ16 ⟨v_36, v_37, v_38, n_10, v_39, v_40, v_41, v_42, v_43, v_44, v_45, v_46, v_47, n_11, v_48, n_12, n_13, v_49, v_50, rfl, b_47, (show 1 ≤ n_10 by omega), (show n_10 ≤ 1024 by omega), (show fl ≤ 12 by omega), (show pe ≤ 24 by omega), (show le ≤ 700 by omega), (show qu ≤ 12 by omega), (show n_11 ≤ 8 by omega), (show n_12 ≤ 24 by omega), (show n_13 ≤ 24 by omega), (show il ≤ 700 by omega), (show i_4 ≤ 701 by omega)⟩
              refine z_aload_n B dX12_advanceToken_195 rfl 0 rfl ?_
              refine z_dup B dX12_advanceToken_196 rfl ?_
              refine z_get (ref := "FlowExporterModel") (C := RX12) (T := TX12) (N := 54) (ci := 14) (v := .int (nI i_4)) B (by decide +kernel) rfl 47 (by decide) (by decide +kernel) rfl h_43 rfl dX12_advanceToken_197 ?_
              refine z_iconst (v := 1) B dX12_advanceToken_200 rfl ?_
              refine z_iadd B dX12_advanceToken_201 ?_
              refine z_top (st1 := [.int (nI (i_4 + 1)), .ref x]) (congrArg (fun w9 : Int32 => ([.int w9, .ref x] : List Value)) (nI_add i_4 1)) ?_
              refine z_put (ref := "FlowExporterModel") (C := RX12) (T := TX12) (N := 54) (ci := 14) (v := .int (nI (i_4 + 1))) B (by decide +kernel) tyX12 tyX12_ok nmX12 rfl 47 (by decide) (by decide +kernel) rfl (Or.inl rfl) h_43 hx rfl rfl (Nat.le_of_ble_eq_true rfl) dX12_advanceToken_202 (fun Φ28 hΦ17 => ?_)
              have h_44 : Φ28 x = some (o_ 14 [.int v_36, .ref (x + 1), .ref (x + 2), .int v_37, .int v_38, .int (nI n_10), .int v_39, .int v_40, .ref (x + 3), .ref (x + 4), .int v_41, .long v_42, .ref (x + 5), .int (nI fl), .int v_43, .long v_44, .long v_45, .long v_46, .long v_47, .ref (x + 6), .ref (x + 7), .int (nI pe), .ref (x + 8), .int (nI le), .ref (x + 9), .ref (x + 10), .int (nI qu), .ref (x + 11), .ref (x + 12), .ref (x + 13), .ref (x + 14), .ref (x + 15), .ref (x + 16), .int (nI n_11), .long v_48, .ref (x + 17), .ref (x + 18), .ref (x + 19), .ref (x + 20), .ref (x + 21), .ref (x + 22), .int (nI n_12), .ref (x + 23), .ref (x + 24), .int (nI n_13), .ref (x + 25), .int (nI il), .int (nI (i_4 + 1)), .int ec, .int v_49, .int 1, .int v_50, .int nu, .long v_55]) := fset_at hΦ17
              have hI31 : Im G x (rd, NN, fl, pe, le, i_4 + 1, il, qu, 1, ec, nu, v_55) Φ28 := Im.put0 hI30 hΦ17 ⟨v_36, v_37, v_38, n_10, v_39, v_40, v_41, v_42, v_43, v_44, v_45, v_46, v_47, n_11, v_48, n_12, n_13, v_49, v_50, rfl, b_47, (show 1 ≤ n_10 by omega), (show n_10 ≤ 1024 by omega), (show fl ≤ 12 by omega), (show pe ≤ 24 by omega), (show le ≤ 700 by omega), (show qu ≤ 12 by omega), (show n_11 ≤ 8 by omega), (show n_12 ≤ 24 by omega), (show n_13 ≤ 24 by omega), (show il ≤ 700 by omega), (show (i_4 + 1) ≤ 701 by omega)⟩
              refine z_goto (tgt := 133) B dX12_advanceToken_205 rfl ?_
              refine z_lv [0] rfl ?_
              exact ih3 (i_4 + 1, v_55) Φ28 (show il - (i_4 + 1) < il - i_4 by omega) ⟨hI31, (fun b9 h9 => ((fset_fr hΦ17 (fun h8 => h9 (0) h8 (show 0 = 0 by omega))).trans ((fset_fr hΦ16 (fun h8 => h9 (0) h8 (show 0 = 0 by omega))).trans ((hF14 b9 (fun j9 h8 h7 => (show False from h7).elim)).trans ((hF13 b9 (fun j9 h8 h7 => (show False from h7).elim)).trans ((hF12 b9 (fun j9 h8 h7 => (show False from h7).elim)).trans ((hF11 b9 (fun j9 h8 h7 => h9 j9 h8 (show j9 = 0 by have h6 : j9 = 0 := h7; omega))).trans rfl))))))), (show i_1 ≤ (i_4 + 1) by omega), (Or.inl (show i_1 + 1 ≤ i_4 + 1 by omega)), trivial⟩
      · refine z_iconst (v := 0) B dX12_advanceToken_67 rfl ?_
        refine z_goto (tgt := 104) B dX12_advanceToken_68 rfl ?_
        have h_45 : Φ6 x = some (o_ 14 [.int v_1, .ref (x + 1), .ref (x + 2), .int v_2, .int v_3, .int (nI n_1), .int v_4, .int v_5, .ref (x + 3), .ref (x + 4), .int v_6, .long v_7, .ref (x + 5), .int (nI fl), .int v_8, .long v_9, .long v_10, .long v_11, .long v_12, .ref (x + 6), .ref (x + 7), .int (nI pe), .ref (x + 8), .int (nI le), .ref (x + 9), .ref (x + 10), .int (nI qu), .ref (x + 11), .ref (x + 12), .ref (x + 13), .ref (x + 14), .ref (x + 15), .ref (x + 16), .int (nI n_2), .long v_13, .ref (x + 17), .ref (x + 18), .ref (x + 19), .ref (x + 20), .ref (x + 21), .ref (x + 22), .int (nI n_3), .ref (x + 23), .ref (x + 24), .int (nI n_4), .ref (x + 25), .int (nI il), .int (nI i_1), .int ec, .int v_14, .int kn, .int (nI i_1), .int nu, .long 0]) := ((hF4 x (fun j9 h8 h7 => (show False from h7).elim)).trans h_11)
        refine z_put (ref := "FlowExporterModel") (C := RX12) (T := TX12) (N := 54) (ci := 14) (v := .int 0) B (by decide +kernel) tyX12 tyX12_ok nmX12 rfl 50 (by decide) (by decide +kernel) rfl (Or.inl rfl) h_45 hx rfl rfl (Nat.le_of_ble_eq_true rfl) dX12_advanceToken_104 (fun Φ29 hΦ18 => ?_)
        have h_46 : Φ29 x = some (o_ 14 [.int v_1, .ref (x + 1), .ref (x + 2), .int v_2, .int v_3, .int (nI n_1), .int v_4, .int v_5, .ref (x + 3), .ref (x + 4), .int v_6, .long v_7, .ref (x + 5), .int (nI fl), .int v_8, .long v_9, .long v_10, .long v_11, .long v_12, .ref (x + 6), .ref (x + 7), .int (nI pe), .ref (x + 8), .int (nI le), .ref (x + 9), .ref (x + 10), .int (nI qu), .ref (x + 11), .ref (x + 12), .ref (x + 13), .ref (x + 14), .ref (x + 15), .ref (x + 16), .int (nI n_2), .long v_13, .ref (x + 17), .ref (x + 18), .ref (x + 19), .ref (x + 20), .ref (x + 21), .ref (x + 22), .int (nI n_3), .ref (x + 23), .ref (x + 24), .int (nI n_4), .ref (x + 25), .int (nI il), .int (nI i_1), .int ec, .int v_14, .int 0, .int (nI i_1), .int nu, .long 0]) := fset_at hΦ18
        have hI32 : Im G x (rd, NN, fl, pe, le, i_1, il, qu, 0, ec, nu, 0) Φ29 := Im.put0 hI7 hΦ18 ⟨v_1, v_2, v_3, n_1, v_4, v_5, v_6, v_7, v_8, v_9, v_10, v_11, v_12, n_2, v_13, n_3, n_4, v_14, nI i_1, rfl, b_13, (show 1 ≤ n_1 by omega), (show n_1 ≤ 1024 by omega), (show fl ≤ 12 by omega), (show pe ≤ 24 by omega), (show le ≤ 700 by omega), (show qu ≤ 12 by omega), (show n_2 ≤ 8 by omega), (show n_3 ≤ 24 by omega), (show n_4 ≤ 24 by omega), (show il ≤ 700 by omega), (show i_1 ≤ 701 by omega)⟩
        refine z_aload_n B dX12_advanceToken_107 rfl 1 rfl ?_
        refine z_get (ref := "FlowExporterModel") (C := RX12) (T := TX12) (N := 54) (ci := 14) (v := .int 0) B (by decide +kernel) rfl 50 (by decide) (by decide +kernel) rfl h_46 rfl dX12_advanceToken_108 ?_
        refine z_iconst (v := 3) B dX12_advanceToken_111 rfl ?_
        refine z_icmp_eq (tgt := 123) B dX12_advanceToken_112 rfl (fun h9 => absurd h9 (by decide)) (fun c_40 => ?_)
        refine z_aload_n B dX12_advanceToken_115 rfl 1 rfl ?_
        refine z_get (ref := "FlowExporterModel") (C := RX12) (T := TX12) (N := 54) (ci := 14) (v := .int 0) B (by decide +kernel) rfl 50 (by decide) (by decide +kernel) rfl h_46 rfl dX12_advanceToken_116 ?_
        refine z_iconst (v := 4) B dX12_advanceToken_119 rfl ?_
        refine z_icmp_ne (tgt := 133) B dX12_advanceToken_120 rfl (fun c_41 => ?_) (fun h9 => absurd h9 (by decide))
        refine z_aload_n B dX12_advanceToken_133 rfl 1 rfl ?_
        refine z_get (ref := "FlowExporterModel") (C := RX12) (T := TX12) (N := 54) (ci := 14) (v := .int 0) B (by decide +kernel) rfl 50 (by decide) (by decide +kernel) rfl h_46 rfl dX12_advanceToken_134 ?_
        refine z_iconst (v := 1) B dX12_advanceToken_137 rfl ?_
        refine z_icmp_ne (tgt := 208) B dX12_advanceToken_138 rfl (fun c_42 => ?_) (fun h9 => absurd h9 (by decide))
        refine z_aload_n B dX12_advanceToken_208 rfl 1 rfl ?_
        refine z_get (ref := "FlowExporterModel") (C := RX12) (T := TX12) (N := 54) (ci := 14) (v := .int 0) B (by decide +kernel) rfl 50 (by decide) (by decide +kernel) rfl h_46 rfl dX12_advanceToken_209 ?_
        refine z_iconst (v := 2) B dX12_advanceToken_212 rfl ?_
        refine z_icmp_ne (tgt := 283) B dX12_advanceToken_213 rfl (fun c_43 => ?_) (fun h9 => absurd h9 (by decide))
        refine z_aload_n B dX12_advanceToken_283 rfl 1 rfl ?_
        refine z_get (ref := "FlowExporterModel") (C := RX12) (T := TX12) (N := 54) (ci := 14) (v := .int 0) B (by decide +kernel) rfl 50 (by decide) (by decide +kernel) rfl h_46 rfl dX12_advanceToken_284 ?_
        refine z_iconst (v := 1) B dX12_advanceToken_287 rfl ?_
        refine z_icmp_ne (tgt := 305) B dX12_advanceToken_288 rfl (fun c_44 => ?_) (fun h9 => absurd h9 (by decide))
        refine z_aload_n B dX12_advanceToken_305 rfl 1 rfl ?_
        refine z_get (ref := "FlowExporterModel") (C := RX12) (T := TX12) (N := 54) (ci := 14) (v := .int 0) B (by decide +kernel) rfl 50 (by decide) (by decide +kernel) rfl h_46 rfl dX12_advanceToken_306 ?_
        refine z_iconst (v := 2) B dX12_advanceToken_309 rfl ?_
        refine z_icmp_ne (tgt := 332) B dX12_advanceToken_310 rfl (fun c_45 => ?_) (fun h9 => absurd h9 (by decide))
        refine z_ret_v B dX12_advanceToken_332 ⟨rfl, rfl, ⟨i_1, 0, 0, ?_, ?_, hI32⟩, ?_⟩
        · exact (show nx ≤ i_1 by omega)
        · exact (Or.inl rfl)
        · exact (fun b9 h9 => ((fset_fr hΦ18 (fun h8 => h9 (0) h8 (show 0 = 0 by omega))).trans ((hF4 b9 (fun j9 h8 h7 => (show False from h7).elim)).trans ((fset_fr hΦ3 (fun h8 => h9 (0) h8 (show 0 = 0 by omega))).trans ((fset_fr hΦ2 (fun h8 => h9 (0) h8 (show 0 = 0 by omega))).trans ((hF3 b9 (fun j9 h8 h7 => (show False from h7).elim)).trans ((hF2 b9 (fun j9 h8 h7 => (show False from h7).elim)).trans ((hF1 b9 (fun j9 h8 h7 => h9 j9 h8 (show j9 = 0 by have h6 : j9 = 0 := h7; omega))).trans rfl))))))))
    · have b_50 := bA_eq (by decide) c_2
      refine z_aload_n B dX12_advanceToken_26 rfl 0 rfl ?_
      refine z_dup B dX12_advanceToken_27 rfl ?_
      have h_47 : Φ3 x = some (o_ 14 [.int v_1, .ref (x + 1), .ref (x + 2), .int v_2, .int v_3, .int (nI n_1), .int v_4, .int v_5, .ref (x + 3), .ref (x + 4), .int v_6, .long v_7, .ref (x + 5), .int (nI fl), .int v_8, .long v_9, .long v_10, .long v_11, .long v_12, .ref (x + 6), .ref (x + 7), .int (nI pe), .ref (x + 8), .int (nI le), .ref (x + 9), .ref (x + 10), .int (nI qu), .ref (x + 11), .ref (x + 12), .ref (x + 13), .ref (x + 14), .ref (x + 15), .ref (x + 16), .int (nI n_2), .long v_13, .ref (x + 17), .ref (x + 18), .ref (x + 19), .ref (x + 20), .ref (x + 21), .ref (x + 22), .int (nI n_3), .ref (x + 23), .ref (x + 24), .int (nI n_4), .ref (x + 25), .int (nI il), .int (nI i_1), .int ec, .int v_14, .int kn, .int v_15, .int nu, .long va]) := ((hF3 x (fun j9 h8 h7 => (show False from h7).elim)).trans h_7)
      refine z_get (ref := "FlowExporterModel") (C := RX12) (T := TX12) (N := 54) (ci := 14) (v := .int (nI i_1)) B (by decide +kernel) rfl 47 (by decide) (by decide +kernel) rfl h_47 rfl dX12_advanceToken_28 ?_
      refine z_iconst (v := 1) B dX12_advanceToken_31 rfl ?_
      refine z_iadd B dX12_advanceToken_32 ?_
      refine z_top (st1 := [.int (nI (i_1 + 1)), .ref x]) (congrArg (fun w9 : Int32 => ([.int w9, .ref x] : List Value)) (nI_add i_1 1)) ?_
      refine z_put (ref := "FlowExporterModel") (C := RX12) (T := TX12) (N := 54) (ci := 14) (v := .int (nI (i_1 + 1))) B (by decide +kernel) tyX12 tyX12_ok nmX12 rfl 47 (by decide) (by decide +kernel) rfl (Or.inl rfl) h_47 hx rfl rfl (Nat.le_of_ble_eq_true rfl) dX12_advanceToken_33 (fun Φ30 hΦ19 => ?_)
      have h_48 : Φ30 x = some (o_ 14 [.int v_1, .ref (x + 1), .ref (x + 2), .int v_2, .int v_3, .int (nI n_1), .int v_4, .int v_5, .ref (x + 3), .ref (x + 4), .int v_6, .long v_7, .ref (x + 5), .int (nI fl), .int v_8, .long v_9, .long v_10, .long v_11, .long v_12, .ref (x + 6), .ref (x + 7), .int (nI pe), .ref (x + 8), .int (nI le), .ref (x + 9), .ref (x + 10), .int (nI qu), .ref (x + 11), .ref (x + 12), .ref (x + 13), .ref (x + 14), .ref (x + 15), .ref (x + 16), .int (nI n_2), .long v_13, .ref (x + 17), .ref (x + 18), .ref (x + 19), .ref (x + 20), .ref (x + 21), .ref (x + 22), .int (nI n_3), .ref (x + 23), .ref (x + 24), .int (nI n_4), .ref (x + 25), .int (nI il), .int (nI (i_1 + 1)), .int ec, .int v_14, .int kn, .int v_15, .int nu, .long va]) := fset_at hΦ19
      have hI33 : Im G x (rd, NN, fl, pe, le, i_1 + 1, il, qu, kn, ec, nu, va) Φ30 := Im.put0 hI4 hΦ19 ⟨v_1, v_2, v_3, n_1, v_4, v_5, v_6, v_7, v_8, v_9, v_10, v_11, v_12, n_2, v_13, n_3, n_4, v_14, v_15, rfl, b_13, (show 1 ≤ n_1 by omega), (show n_1 ≤ 1024 by omega), (show fl ≤ 12 by omega), (show pe ≤ 24 by omega), (show le ≤ 700 by omega), (show qu ≤ 12 by omega), (show n_2 ≤ 8 by omega), (show n_3 ≤ 24 by omega), (show n_4 ≤ 24 by omega), (show il ≤ 700 by omega), (show (i_1 + 1) ≤ 701 by omega)⟩
      refine z_goto (tgt := 0) B dX12_advanceToken_36 rfl ?_
      refine z_lv [0] rfl ?_
      exact ih1 (i_1 + 1) Φ30 (show il - (i_1 + 1) < il - i_1 by omega) ⟨hI33, (fun b9 h9 => ((fset_fr hΦ19 (fun h8 => h9 (0) h8 (show 0 = 0 by omega))).trans ((hF3 b9 (fun j9 h8 h7 => (show False from h7).elim)).trans ((hF2 b9 (fun j9 h8 h7 => (show False from h7).elim)).trans ((hF1 b9 (fun j9 h8 h7 => h9 j9 h8 (show j9 = 0 by have h6 : j9 = 0 := h7; omega))).trans rfl))))), (show nx ≤ (i_1 + 1) by omega), trivial⟩

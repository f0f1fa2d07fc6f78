set_option maxHeartbeats 4000000 in
set_option maxRecDepth 100000 in
theorem r_sendPending (G : EnvG) (l : Launch) (Φ : Hm) (sz x : Nat) (rd : (Nat → Int32) → Prop) (fl : Nat) (pe : Nat) (le : Nat) (nx : Nat) (il : Nat) (qu : Nat) (kn : Int32) (ec : Int32) (nu : Int32) (va : Int64)  (hx : G.2.2.2 ≤ x) (hI : Im G x (rd, NN, fl, pe, le, nx, il, qu, kn, ec, nu, va) Φ)  : Ct G l yX12_sendPending wsX12_sendPending ({ frames := 5, cells := 0, slots := 0, locals := 117 }) 0 0 [.ref x] Φ sz (fun v Φ1 sz1 => (v = none) ∧ sz1 = sz ∧ (∃ (le1 : Nat) (qu1 : Nat), Im G x (rd, NN, fl, 0, le1, nx, il, qu1, kn, ec, nu, va) Φ1) ∧ Fr x (fun j9 => j9 = 0 ∨ j9 = 3 ∨ j9 = 4 ∨ j9 = 8 ∨ j9 = 9 ∨ j9 = 10) Φ Φ1) := by
  refine Ct.of (cc := cX12_sendPending) (maxL := 3) (ret := none) (by decide) rfl (Nat.le_of_ble_eq_true rfl) ?_
  intro p9 e9 s9 m9 w9 t9 k9 B
  show Z p9 l e9 _ s9 m9 _ w9 t9 k9 _ G 3 0 [(0, .ref x)] [] Φ sz 0 0
  refine z_iconst (v := 0) B dX12_sendPending_0 rfl ?_
  refine z_istore_n (lv' := [(1, .int 0), (0, .ref x)]) B dX12_sendPending_1 rfl (Nat.le_of_ble_eq_true rfl) rfl ?_
  refine z_lv [0, 1] rfl ?_
  refine z_loop (α := Nat × Nat × Nat) (fun (a9 : Nat × Nat × Nat) Φi => Im G x (rd, NN, fl, pe, a9.2.1, nx, il, a9.2.2, kn, ec, nu, va) Φi ∧ Fr x (fun j9 => j9 = 0 ∨ j9 = 3 ∨ j9 = 4 ∨ j9 = 8 ∨ j9 = 9 ∨ j9 = 10) Φ Φi ∧ (a9.1 ≤ pe) ∧ True) (fun a9 => [(1, .int (nI (a9.1))), (0, .ref x)]) (fun a9 => pe - a9.1) ?_ (0, le, qu) ⟨hI, fun _ _ => rfl, (show 0 ≤ pe by omega), trivial⟩
  rintro ⟨i_1, i_2, i_3⟩ Φl1 ⟨hI1, hF1, b_1, -⟩ ih1
  replace hI1 : Im G x (rd, NN, fl, pe, i_2, nx, il, i_3, kn, ec, nu, va) Φl1 := hI1
  replace b_1 : i_1 ≤ pe := b_1
  show Z p9 l e9 _ s9 m9 _ w9 t9 k9 _ G 3 2 [(1, .int (nI i_1)), (0, .ref x)] [] Φl1 _ _ _
  refine z_iload_n B dX12_sendPending_2 rfl 0 rfl ?_
  refine z_aload_n B dX12_sendPending_3 rfl 1 rfl ?_
  obtain ⟨v_1, v_2, v_3, n_1, v_4, v_5, v_6, v_7, v_8, v_9, v_10, v_11, v_12, n_2, v_13, n_3, n_4, v_14, v_15, h_1, b_13, b_2, b_3, b_4, b_5, b_6, b_7, b_8, b_9, b_10, b_11, b_12⟩ := im0 hI1
  replace b_2 : 1 ≤ n_1 := b_2
  replace b_3 : n_1 ≤ 1024 := b_3
  replace b_4 : fl ≤ 12 := b_4
  replace b_5 : pe ≤ 24 := b_5
  replace b_6 : i_2 ≤ 700 := b_6
  replace b_7 : i_3 ≤ 12 := b_7
  replace b_8 : n_2 ≤ 8 := b_8
  replace b_9 : n_3 ≤ 24 := b_9
  replace b_10 : n_4 ≤ 24 := b_10
  replace b_11 : il ≤ 700 := b_11
  replace b_12 : nx ≤ 701 := b_12
  have h_2 : Φl1 x = some (o_ 14 [.int v_1, .ref (x + 1), .ref (x + 2), .int v_2, .int v_3, .int (nI n_1), .int v_4, .int v_5, .ref (x + 3), .ref (x + 4), .int v_6, .long v_7, .ref (x + 5), .int (nI fl), .int v_8, .long v_9, .long v_10, .long v_11, .long v_12, .ref (x + 6), .ref (x + 7), .int (nI pe), .ref (x + 8), .int (nI i_2), .ref (x + 9), .ref (x + 10), .int (nI i_3), .ref (x + 11), .ref (x + 12), .ref (x + 13), .ref (x + 14), .ref (x + 15), .ref (x + 16), .int (nI n_2), .long v_13, .ref (x + 17), .ref (x + 18), .ref (x + 19), .ref (x + 20), .ref (x + 21), .ref (x + 22), .int (nI n_3), .ref (x + 23), .ref (x + 24), .int (nI n_4), .ref (x + 25), .int (nI il), .int (nI nx), .int ec, .int v_14, .int kn, .int v_15, .int nu, .long va]) := h_1
  refine z_get (ref := "FlowExporterModel") (C := RX12) (T := TX12) (N := 54) (ci := 14) (v := .int (nI pe)) B (by decide +kernel) rfl 21 (by decide) (by decide +kernel) rfl h_2 rfl dX12_sendPending_4 ?_
  refine z_icmp_ge (tgt := 132) B dX12_sendPending_7 rfl (fun c_1 => ?_) (fun c_1 => ?_)
  · have e_1 : pe ≤ i_1 := (nI_leI (a := pe) (b := i_1) (by omega) (by omega)).mp c_1
    refine z_aload_n B dX12_sendPending_132 rfl 1 rfl ?_
    refine z_iconst (v := 0) B dX12_sendPending_133 rfl ?_
    refine z_put (ref := "FlowExporterModel") (C := RX12) (T := TX12) (N := 54) (ci := 14) (v := .int 0) B (by decide +kernel) tyX12 tyX12_ok nmX12 rfl 21 (by decide) (by decide +kernel) rfl (Or.inl rfl) h_2 hx rfl rfl (Nat.le_of_ble_eq_true rfl) dX12_sendPending_134 (fun Φ1 hΦ1 => ?_)
    have h_3 : Φ1 x = some (o_ 14 [.int v_1, .ref (x + 1), .ref (x + 2), .int v_2, .int v_3, .int (nI n_1), .int v_4, .int v_5, .ref (x + 3), .ref (x + 4), .int v_6, .long v_7, .ref (x + 5), .int (nI fl), .int v_8, .long v_9, .long v_10, .long v_11, .long v_12, .ref (x + 6), .ref (x + 7), .int 0, .ref (x + 8), .int (nI i_2), .ref (x + 9), .ref (x + 10), .int (nI i_3), .ref (x + 11), .ref (x + 12), .ref (x + 13), .ref (x + 14), .ref (x + 15), .ref (x + 16), .int (nI n_2), .long v_13, .ref (x + 17), .ref (x + 18), .ref (x + 19), .ref (x + 20), .ref (x + 21), .ref (x + 22), .int (nI n_3), .ref (x + 23), .ref (x + 24), .int (nI n_4), .ref (x + 25), .int (nI il), .int (nI nx), .int ec, .int v_14, .int kn, .int v_15, .int nu, .long va]) := fset_at hΦ1
    have hI2 : Im G x (rd, NN, fl, 0, i_2, nx, il, i_3, kn, ec, nu, va) Φ1 := Im.put0 hI1 hΦ1 ⟨v_1, v_2, v_3, n_1, v_4, v_5, v_6, v_7, v_8, v_9, v_10, v_11, v_12, n_2, v_13, n_3, n_4, v_14, v_15, rfl, b_13, (show 1 ≤ n_1 by omega), (show n_1 ≤ 1024 by omega), (show fl ≤ 12 by omega), (show 0 ≤ 24 by omega), (show i_2 ≤ 700 by omega), (show i_3 ≤ 12 by omega), (show n_2 ≤ 8 by omega), (show n_3 ≤ 24 by omega), (show n_4 ≤ 24 by omega), (show il ≤ 700 by omega), (show nx ≤ 701 by omega)⟩
    exact z_ret_v B dX12_sendPending_137 ⟨rfl, rfl, ⟨i_2, i_3, hI2⟩, (fun b9 h9 => ((fset_fr hΦ1 (fun h8 => h9 (0) h8 (show 0 = 0 ∨ 0 = 3 ∨ 0 = 4 ∨ 0 = 8 ∨ 0 = 9 ∨ 0 = 10 by omega))).trans ((hF1 b9 (fun j9 h8 h7 => h9 j9 h8 (show j9 = 0 ∨ j9 = 3 ∨ j9 = 4 ∨ j9 = 8 ∨ j9 = 9 ∨ j9 = 10 by have h6 : j9 = 0 ∨ j9 = 3 ∨ j9 = 4 ∨ j9 = 8 ∨ j9 = 9 ∨ j9 = 10 := h7; omega))).trans rfl)))⟩
  · have e_2 : ¬ (pe ≤ i_1) := fun h9 => c_1 ((nI_leI (a := pe) (b := i_1) (by omega) (by omega)).mpr h9)
    refine z_aload_n B dX12_sendPending_10 rfl 1 rfl ?_
    refine z_iconst (v := 0) B dX12_sendPending_11 rfl ?_
    refine z_put (ref := "FlowExporterModel") (C := RX12) (T := TX12) (N := 54) (ci := 14) (v := .int 0) B (by decide +kernel) tyX12 tyX12_ok nmX12 rfl 23 (by decide) (by decide +kernel) rfl (Or.inl rfl) h_2 hx rfl rfl (Nat.le_of_ble_eq_true rfl) dX12_sendPending_12 (fun Φ2 hΦ2 => ?_)
    have h_4 : Φ2 x = some (o_ 14 [.int v_1, .ref (x + 1), .ref (x + 2), .int v_2, .int v_3, .int (nI n_1), .int v_4, .int v_5, .ref (x + 3), .ref (x + 4), .int v_6, .long v_7, .ref (x + 5), .int (nI fl), .int v_8, .long v_9, .long v_10, .long v_11, .long v_12, .ref (x + 6), .ref (x + 7), .int (nI pe), .ref (x + 8), .int 0, .ref (x + 9), .ref (x + 10), .int (nI i_3), .ref (x + 11), .ref (x + 12), .ref (x + 13), .ref (x + 14), .ref (x + 15), .ref (x + 16), .int (nI n_2), .long v_13, .ref (x + 17), .ref (x + 18), .ref (x + 19), .ref (x + 20), .ref (x + 21), .ref (x + 22), .int (nI n_3), .ref (x + 23), .ref (x + 24), .int (nI n_4), .ref (x + 25), .int (nI il), .int (nI nx), .int ec, .int v_14, .int kn, .int v_15, .int nu, .long va]) := fset_at hΦ2
    have hI3 : Im G x (rd, NN, fl, pe, 0, nx, il, i_3, kn, ec, nu, va) Φ2 := Im.put0 hI1 hΦ2 ⟨v_1, v_2, v_3, n_1, v_4, v_5, v_6, v_7, v_8, v_9, v_10, v_11, v_12, n_2, v_13, n_3, n_4, v_14, v_15, rfl, b_13, (show 1 ≤ n_1 by omega), (show n_1 ≤ 1024 by omega), (show fl ≤ 12 by omega), (show pe ≤ 24 by omega), (show 0 ≤ 700 by omega), (show i_3 ≤ 12 by omega), (show n_2 ≤ 8 by omega), (show n_3 ≤ 24 by omega), (show n_4 ≤ 24 by omega), (show il ≤ 700 by omega), (show nx ≤ 701 by omega)⟩
    refine z_aload_n B dX12_sendPending_15 rfl 1 rfl ?_
    refine z_ldc2 (v := 10) B (by decide +kernel) dX12_sendPending_16 ?_
    refine z_iconst (v := 2) B dX12_sendPending_19 rfl ?_
    refine z_callV (As := [.long 10, .int 2]) (rest := []) B (r_put G l Φ2 sz x rd fl pe 0 nx il i_3 kn ec nu va 10 2 hx hI3 (show 2 ≤ 8 by omega) (show 0 + 2 ≤ 700 by omega)) (cwV 2 B.1.2.2.2.2 gX12_sendPending_X12_put rfl rfl rfl (by decide +kernel) ⟨Nat.le_of_ble_eq_true rfl, Nat.le_of_ble_eq_true rfl⟩) h_4 rfl rfl rfl rfl (Nat.le_of_ble_eq_true rfl) dX12_sendPending_20 ⟨Nat.le_of_ble_eq_true rfl, Nat.le_of_ble_eq_true rfl⟩ (fun r_1 Φ3 sz1 st1 hp1 hs1 => ?_)
    obtain ⟨rfl, hq1, ⟨n_5, b_14, hI4⟩, hF2⟩ := hp1
    subst sz1
    replace hs1 : st1 = [] := hs1
    subst st1
    replace hI4 : Im G x (rd, NN, fl, pe, n_5, nx, il, i_3, kn, ec, nu, va) Φ3 := hI4
    replace b_14 : n_5 = 0 + 2 := b_14
    refine z_aload_n B dX12_sendPending_23 rfl 1 rfl ?_
    refine z_lconst (v := 0) B dX12_sendPending_24 rfl ?_
    refine z_iconst (v := 2) B dX12_sendPending_25 rfl ?_
    obtain ⟨v_16, v_17, v_18, n_6, v_19, v_20, v_21, v_22, v_23, v_24, v_25, v_26, v_27, n_7, v_28, n_8, n_9, v_29, v_30, h_5, b_26, b_15, b_16, b_17, b_18, b_19, b_20, b_21, b_22, b_23, b_24, b_25⟩ := im0 hI4
    replace b_15 : 1 ≤ n_6 := b_15
    replace b_16 : n_6 ≤ 1024 := b_16
    replace b_17 : fl ≤ 12 := b_17
    replace b_18 : pe ≤ 24 := b_18
    replace b_19 : n_5 ≤ 700 := b_19
    replace b_20 : i_3 ≤ 12 := b_20
    replace b_21 : n_7 ≤ 8 := b_21
    replace b_22 : n_8 ≤ 24 := b_22
    replace b_23 : n_9 ≤ 24 := b_23
    replace b_24 : il ≤ 700 := b_24
    replace b_25 : nx ≤ 701 := b_25
    have h_6 : Φ3 x = some (o_ 14 [.int v_16, .ref (x + 1), .ref (x + 2), .int v_17, .int v_18, .int (nI n_6), .int v_19, .int v_20, .ref (x + 3), .ref (x + 4), .int v_21, .long v_22, .ref (x + 5), .int (nI fl), .int v_23, .long v_24, .long v_25, .long v_26, .long v_27, .ref (x + 6), .ref (x + 7), .int (nI pe), .ref (x + 8), .int (nI n_5), .ref (x + 9), .ref (x + 10), .int (nI i_3), .ref (x + 11), .ref (x + 12), .ref (x + 13), .ref (x + 14), .ref (x + 15), .ref (x + 16), .int (nI n_7), .long v_28, .ref (x + 17), .ref (x + 18), .ref (x + 19), .ref (x + 20), .ref (x + 21), .ref (x + 22), .int (nI n_8), .ref (x + 23), .ref (x + 24), .int (nI n_9), .ref (x + 25), .int (nI il), .int (nI nx), .int ec, .int v_29, .int kn, .int v_30, .int nu, .long va]) := h_5
    refine z_callV (As := [.long 0, .int 2]) (rest := []) B (r_put G l Φ3 sz x rd fl pe n_5 nx il i_3 kn ec nu va 0 2 hx hI4 (show 2 ≤ 8 by omega) (show n_5 + 2 ≤ 700 by omega)) (cwV 2 B.1.2.2.2.2 gX12_sendPending_X12_put rfl rfl rfl (by decide +kernel) ⟨Nat.le_of_ble_eq_true rfl, Nat.le_of_ble_eq_true rfl⟩) h_6 rfl rfl rfl rfl (Nat.le_of_ble_eq_true rfl) dX12_sendPending_26 ⟨Nat.le_of_ble_eq_true rfl, Nat.le_of_ble_eq_true rfl⟩ (fun r_2 Φ4 sz2 st2 hp2 hs2 => ?_)
    obtain ⟨rfl, hq2, ⟨n_10, b_27, hI5⟩, hF3⟩ := hp2
    subst sz2
    replace hs2 : st2 = [] := hs2
    subst st2
    replace hI5 : Im G x (rd, NN, fl, pe, n_10, nx, il, i_3, kn, ec, nu, va) Φ4 := hI5
    replace b_27 : n_10 = n_5 + 2 := b_27
    refine z_aload_n B dX12_sendPending_29 rfl 1 rfl ?_
    refine z_aload_n B dX12_sendPending_30 rfl 1 rfl ?_
    obtain ⟨v_31, v_32, v_33, n_11, v_34, v_35, v_36, v_37, v_38, v_39, v_40, v_41, v_42, n_12, v_43, n_13, n_14, v_44, v_45, h_7, b_39, b_28, b_29, b_30, b_31, b_32, b_33, b_34, b_35, b_36, b_37, b_38⟩ := im0 hI5
    replace b_28 : 1 ≤ n_11 := b_28
    replace b_29 : n_11 ≤ 1024 := b_29
    replace b_30 : fl ≤ 12 := b_30
    replace b_31 : pe ≤ 24 := b_31
    replace b_32 : n_10 ≤ 700 := b_32
    replace b_33 : i_3 ≤ 12 := b_33
    replace b_34 : n_12 ≤ 8 := b_34
    replace b_35 : n_13 ≤ 24 := b_35
    replace b_36 : n_14 ≤ 24 := b_36
    replace b_37 : il ≤ 700 := b_37
    replace b_38 : nx ≤ 701 := b_38
    have h_8 : Φ4 x = some (o_ 14 [.int v_31, .ref (x + 1), .ref (x + 2), .int v_32, .int v_33, .int (nI n_11), .int v_34, .int v_35, .ref (x + 3), .ref (x + 4), .int v_36, .long v_37, .ref (x + 5), .int (nI fl), .int v_38, .long v_39, .long v_40, .long v_41, .long v_42, .ref (x + 6), .ref (x + 7), .int (nI pe), .ref (x + 8), .int (nI n_10), .ref (x + 9), .ref (x + 10), .int (nI i_3), .ref (x + 11), .ref (x + 12), .ref (x + 13), .ref (x + 14), .ref (x + 15), .ref (x + 16), .int (nI n_12), .long v_43, .ref (x + 17), .ref (x + 18), .ref (x + 19), .ref (x + 20), .ref (x + 21), .ref (x + 22), .int (nI n_13), .ref (x + 23), .ref (x + 24), .int (nI n_14), .ref (x + 25), .int (nI il), .int (nI nx), .int ec, .int v_44, .int kn, .int v_45, .int nu, .long va]) := h_7
    refine z_get (ref := "FlowExporterModel") (C := RX12) (T := TX12) (N := 54) (ci := 14) (v := .int v_32) B (by decide +kernel) rfl 3 (by decide) (by decide +kernel) rfl h_8 rfl dX12_sendPending_31 ?_
    refine z_i2l (v := v_32.toInt64) B dX12_sendPending_34 rfl ?_
    refine z_iconst (v := 4) B dX12_sendPending_35 rfl ?_
    refine z_callV (As := [.long v_32.toInt64, .int 4]) (rest := []) B (r_put G l Φ4 sz x rd fl pe n_10 nx il i_3 kn ec nu va v_32.toInt64 4 hx hI5 (show 4 ≤ 8 by omega) (show n_10 + 4 ≤ 700 by omega)) (cwV 2 B.1.2.2.2.2 gX12_sendPending_X12_put rfl rfl rfl (by decide +kernel) ⟨Nat.le_of_ble_eq_true rfl, Nat.le_of_ble_eq_true rfl⟩) h_8 rfl rfl rfl rfl (Nat.le_of_ble_eq_true rfl) dX12_sendPending_36 ⟨Nat.le_of_ble_eq_true rfl, Nat.le_of_ble_eq_true rfl⟩ (fun r_3 Φ5 sz3 st3 hp3 hs3 => ?_)
    obtain ⟨rfl, hq3, ⟨n_15, b_40, hI6⟩, hF4⟩ := hp3
    subst sz3
    replace hs3 : st3 = [] := hs3
    subst st3
    replace hI6 : Im G x (rd, NN, fl, pe, n_15, nx, il, i_3, kn, ec, nu, va) Φ5 := hI6
    replace b_40 : n_15 = n_10 + 4 := b_40
    refine z_aload_n B dX12_sendPending_39 rfl 1 rfl ?_
    refine z_aload_n B dX12_sendPending_40 rfl 1 rfl ?_
    obtain ⟨v_46, v_47, v_48, n_16, v_49, v_50, v_51, v_52, v_53, v_54, v_55, v_56, v_57, n_17, v_58, n_18, n_19, v_59, v_60, h_9, b_52, b_41, b_42, b_43, b_44, b_45, b_46, b_47, b_48, b_49, b_50, b_51⟩ := im0 hI6
    replace b_41 : 1 ≤ n_16 := b_41
    replace b_42 : n_16 ≤ 1024 := b_42
    replace b_43 : fl ≤ 12 := b_43
    replace b_44 : pe ≤ 24 := b_44
    replace b_45 : n_15 ≤ 700 := b_45
    replace b_46 : i_3 ≤ 12 := b_46
    replace b_47 : n_17 ≤ 8 := b_47
    replace b_48 : n_18 ≤ 24 := b_48
    replace b_49 : n_19 ≤ 24 := b_49
    replace b_50 : il ≤ 700 := b_50
    replace b_51 : nx ≤ 701 := b_51
    have h_10 : Φ5 x = some (o_ 14 [.int v_46, .ref (x + 1), .ref (x + 2), .int v_47, .int v_48, .int (nI n_16), .int v_49, .int v_50, .ref (x + 3), .ref (x + 4), .int v_51, .long v_52, .ref (x + 5), .int (nI fl), .int v_53, .long v_54, .long v_55, .long v_56, .long v_57, .ref (x + 6), .ref (x + 7), .int (nI pe), .ref (x + 8), .int (nI n_15), .ref (x + 9), .ref (x + 10), .int (nI i_3), .ref (x + 11), .ref (x + 12), .ref (x + 13), .ref (x + 14), .ref (x + 15), .ref (x + 16), .int (nI n_17), .long v_58, .ref (x + 17), .ref (x + 18), .ref (x + 19), .ref (x + 20), .ref (x + 21), .ref (x + 22), .int (nI n_18), .ref (x + 23), .ref (x + 24), .int (nI n_19), .ref (x + 25), .int (nI il), .int (nI nx), .int ec, .int v_59, .int kn, .int v_60, .int nu, .long va]) := h_9
    refine z_get (ref := "FlowExporterModel") (C := RX12) (T := TX12) (N := 54) (ci := 14) (v := .long v_52) B (by decide +kernel) rfl 11 (by decide) (by decide +kernel) rfl h_10 rfl dX12_sendPending_41 ?_
    refine z_iconst (v := 4) B dX12_sendPending_44 rfl ?_
    refine z_callV (As := [.long v_52, .int 4]) (rest := []) B (r_put G l Φ5 sz x rd fl pe n_15 nx il i_3 kn ec nu va v_52 4 hx hI6 (show 4 ≤ 8 by omega) (show n_15 + 4 ≤ 700 by omega)) (cwV 2 B.1.2.2.2.2 gX12_sendPending_X12_put rfl rfl rfl (by decide +kernel) ⟨Nat.le_of_ble_eq_true rfl, Nat.le_of_ble_eq_true rfl⟩) h_10 rfl rfl rfl rfl (Nat.le_of_ble_eq_true rfl) dX12_sendPending_45 ⟨Nat.le_of_ble_eq_true rfl, Nat.le_of_ble_eq_true rfl⟩ (fun r_4 Φ6 sz4 st4 hp4 hs4 => ?_)
    obtain ⟨rfl, hq4, ⟨n_20, b_53, hI7⟩, hF5⟩ := hp4
    subst sz4
    replace hs4 : st4 = [] := hs4
    subst st4
    replace hI7 : Im G x (rd, NN, fl, pe, n_20, nx, il, i_3, kn, ec, nu, va) Φ6 := hI7
    replace b_53 : n_20 = n_15 + 4 := b_53
    refine z_aload_n B dX12_sendPending_48 rfl 1 rfl ?_
    refine z_lconst (v := 0) B dX12_sendPending_49 rfl ?_
    refine z_iconst (v := 4) B dX12_sendPending_50 rfl ?_
    obtain ⟨v_61, v_62, v_63, n_21, v_64, v_65, v_66, v_67, v_68, v_69, v_70, v_71, v_72, n_22, v_73, n_23, n_24, v_74, v_75, h_11, b_65, b_54, b_55, b_56, b_57, b_58, b_59, b_60, b_61, b_62, b_63, b_64⟩ := im0 hI7
    replace b_54 : 1 ≤ n_21 := b_54
    replace b_55 : n_21 ≤ 1024 := b_55
    replace b_56 : fl ≤ 12 := b_56
    replace b_57 : pe ≤ 24 := b_57
    replace b_58 : n_20 ≤ 700 := b_58
    replace b_59 : i_3 ≤ 12 := b_59
    replace b_60 : n_22 ≤ 8 := b_60
    replace b_61 : n_23 ≤ 24 := b_61
    replace b_62 : n_24 ≤ 24 := b_62
    replace b_63 : il ≤ 700 := b_63
    replace b_64 : nx ≤ 701 := b_64
    have h_12 : Φ6 x = some (o_ 14 [.int v_61, .ref (x + 1), .ref (x + 2), .int v_62, .int v_63, .int (nI n_21), .int v_64, .int v_65, .ref (x + 3), .ref (x + 4), .int v_66, .long v_67, .ref (x + 5), .int (nI fl), .int v_68, .long v_69, .long v_70, .long v_71, .long v_72, .ref (x + 6), .ref (x + 7), .int (nI pe), .ref (x + 8), .int (nI n_20), .ref (x + 9), .ref (x + 10), .int (nI i_3), .ref (x + 11), .ref (x + 12), .ref (x + 13), .ref (x + 14), .ref (x + 15), .ref (x + 16), .int (nI n_22), .long v_73, .ref (x + 17), .ref (x + 18), .ref (x + 19), .ref (x + 20), .ref (x + 21), .ref (x + 22), .int (nI n_23), .ref (x + 23), .ref (x + 24), .int (nI n_24), .ref (x + 25), .int (nI il), .int (nI nx), .int ec, .int v_74, .int kn, .int v_75, .int nu, .long va]) := h_11
    refine z_callV (As := [.long 0, .int 4]) (rest := []) B (r_put G l Φ6 sz x rd fl pe n_20 nx il i_3 kn ec nu va 0 4 hx hI7 (show 4 ≤ 8 by omega) (show n_20 + 4 ≤ 700 by omega)) (cwV 2 B.1.2.2.2.2 gX12_sendPending_X12_put rfl rfl rfl (by decide +kernel) ⟨Nat.le_of_ble_eq_true rfl, Nat.le_of_ble_eq_true rfl⟩) h_12 rfl rfl rfl rfl (Nat.le_of_ble_eq_true rfl) dX12_sendPending_51 ⟨Nat.le_of_ble_eq_true rfl, Nat.le_of_ble_eq_true rfl⟩ (fun r_5 Φ7 sz5 st5 hp5 hs5 => ?_)
    obtain ⟨rfl, hq5, ⟨n_25, b_66, hI8⟩, hF6⟩ := hp5
    subst sz5
    replace hs5 : st5 = [] := hs5
    subst st5
    replace hI8 : Im G x (rd, NN, fl, pe, n_25, nx, il, i_3, kn, ec, nu, va) Φ7 := hI8
    replace b_66 : n_25 = n_20 + 4 := b_66
    refine z_aload_n B dX12_sendPending_54 rfl 1 rfl ?_
    obtain ⟨v_76, v_77, v_78, n_26, v_79, v_80, v_81, v_82, v_83, v_84, v_85, v_86, v_87, n_27, v_88, n_28, n_29, v_89, v_90, h_13, b_78, b_67, b_68, b_69, b_70, b_71, b_72, b_73, b_74, b_75, b_76, b_77⟩ := im0 hI8
    replace b_67 : 1 ≤ n_26 := b_67
    replace b_68 : n_26 ≤ 1024 := b_68
    replace b_69 : fl ≤ 12 := b_69
    replace b_70 : pe ≤ 24 := b_70
    replace b_71 : n_25 ≤ 700 := b_71
    replace b_72 : i_3 ≤ 12 := b_72
    replace b_73 : n_27 ≤ 8 := b_73
    replace b_74 : n_28 ≤ 24 := b_74
    replace b_75 : n_29 ≤ 24 := b_75
    replace b_76 : il ≤ 700 := b_76
    replace b_77 : nx ≤ 701 := b_77
    have h_14 : Φ7 x = some (o_ 14 [.int v_76, .ref (x + 1), .ref (x + 2), .int v_77, .int v_78, .int (nI n_26), .int v_79, .int v_80, .ref (x + 3), .ref (x + 4), .int v_81, .long v_82, .ref (x + 5), .int (nI fl), .int v_83, .long v_84, .long v_85, .long v_86, .long v_87, .ref (x + 6), .ref (x + 7), .int (nI pe), .ref (x + 8), .int (nI n_25), .ref (x + 9), .ref (x + 10), .int (nI i_3), .ref (x + 11), .ref (x + 12), .ref (x + 13), .ref (x + 14), .ref (x + 15), .ref (x + 16), .int (nI n_27), .long v_88, .ref (x + 17), .ref (x + 18), .ref (x + 19), .ref (x + 20), .ref (x + 21), .ref (x + 22), .int (nI n_28), .ref (x + 23), .ref (x + 24), .int (nI n_29), .ref (x + 25), .int (nI il), .int (nI nx), .int ec, .int v_89, .int kn, .int v_90, .int nu, .long va]) := h_13
    refine z_callV (As := []) (rest := []) B (r_putTemplates G l Φ7 sz x rd fl pe n_25 nx il i_3 kn ec nu va  hx hI8 (show n_25 ≤ 16 by omega)) (cwV 0 B.1.2.2.2.2 gX12_sendPending_X12_putTemplates rfl rfl rfl (by decide +kernel) ⟨Nat.le_of_ble_eq_true rfl, Nat.le_of_ble_eq_true rfl⟩) h_14 rfl rfl rfl rfl (Nat.le_of_ble_eq_true rfl) dX12_sendPending_55 ⟨Nat.le_of_ble_eq_true rfl, Nat.le_of_ble_eq_true rfl⟩ (fun r_6 Φ8 sz6 st6 hp6 hs6 => ?_)
    obtain ⟨rfl, hq6, ⟨n_30, b_79, b_80, hI9⟩, hF7⟩ := hp6
    subst sz6
    replace hs6 : st6 = [] := hs6
    subst st6
    replace hI9 : Im G x (rd, NN, fl, pe, n_30, nx, il, i_3, kn, ec, nu, va) Φ8 := hI9
    replace b_79 : n_25 ≤ n_30 := b_79
    replace b_80 : n_30 ≤ n_25 + 164 := b_80
    refine z_aload_n B dX12_sendPending_58 rfl 1 rfl ?_
    refine z_iload_n B dX12_sendPending_59 rfl 0 rfl ?_
    obtain ⟨v_91, v_92, v_93, n_31, v_94, v_95, v_96, v_97, v_98, v_99, v_100, v_101, v_102, n_32, v_103, n_33, n_34, v_104, v_105, h_15, b_92, b_81, b_82, b_83, b_84, b_85, b_86, b_87, b_88, b_89, b_90, b_91⟩ := im0 hI9
    replace b_81 : 1 ≤ n_31 := b_81
    replace b_82 : n_31 ≤ 1024 := b_82
    replace b_83 : fl ≤ 12 := b_83
    replace b_84 : pe ≤ 24 := b_84
    replace b_85 : n_30 ≤ 700 := b_85
    replace b_86 : i_3 ≤ 12 := b_86
    replace b_87 : n_32 ≤ 8 := b_87
    replace b_88 : n_33 ≤ 24 := b_88
    replace b_89 : n_34 ≤ 24 := b_89
    replace b_90 : il ≤ 700 := b_90
    replace b_91 : nx ≤ 701 := b_91
    have h_16 : Φ8 x = some (o_ 14 [.int v_91, .ref (x + 1), .ref (x + 2), .int v_92, .int v_93, .int (nI n_31), .int v_94, .int v_95, .ref (x + 3), .ref (x + 4), .int v_96, .long v_97, .ref (x + 5), .int (nI fl), .int v_98, .long v_99, .long v_100, .long v_101, .long v_102, .ref (x + 6), .ref (x + 7), .int (nI pe), .ref (x + 8), .int (nI n_30), .ref (x + 9), .ref (x + 10), .int (nI i_3), .ref (x + 11), .ref (x + 12), .ref (x + 13), .ref (x + 14), .ref (x + 15), .ref (x + 16), .int (nI n_32), .long v_103, .ref (x + 17), .ref (x + 18), .ref (x + 19), .ref (x + 20), .ref (x + 21), .ref (x + 22), .int (nI n_33), .ref (x + 23), .ref (x + 24), .int (nI n_34), .ref (x + 25), .int (nI il), .int (nI nx), .int ec, .int v_104, .int kn, .int v_105, .int nu, .long va]) := h_15
    refine z_callV (As := [.int (nI i_1)]) (rest := []) B (r_putRecords G l Φ8 sz x rd fl pe n_30 nx il i_3 kn ec nu va i_1 hx hI9 (show i_1 < pe by omega) (show n_30 ≤ 180 by omega)) (cwV 1 B.1.2.2.2.2 gX12_sendPending_X12_putRecords rfl rfl rfl (by decide +kernel) ⟨Nat.le_of_ble_eq_true rfl, Nat.le_of_ble_eq_true rfl⟩) h_16 rfl rfl rfl rfl (Nat.le_of_ble_eq_true rfl) dX12_sendPending_60 ⟨Nat.le_of_ble_eq_true rfl, Nat.le_of_ble_eq_true rfl⟩ (fun r_7 Φ9 sz7 st7 hp7 hs7 => ?_)
    obtain ⟨⟨n_36, rfl, b_94⟩, hq7, ⟨n_35, b_93, hI10⟩, hF8⟩ := hp7
    subst sz7
    replace hs7 : st7 = [.int (nI n_36)] := hs7
    subst st7
    replace b_94 : i_1 < n_36 ∧ n_36 ≤ pe := b_94
    replace hI10 : Im G x (rd, NN, fl, pe, n_35, nx, il, i_3, kn, ec, nu, va) Φ9 := hI10
    replace b_93 : n_35 ≤ 600 := b_93
    refine z_istore_n (lv' := [(2, .int (nI n_36)), (1, .int (nI i_1)), (0, .ref x)]) B dX12_sendPending_63 rfl (Nat.le_of_ble_eq_true rfl) rfl ?_
    refine z_aload_n B dX12_sendPending_64 rfl 2 rfl ?_
    refine z_iconst (v := 2) B dX12_sendPending_65 rfl ?_
    refine z_aload_n B dX12_sendPending_66 rfl 2 rfl ?_
    obtain ⟨v_106, v_107, v_108, n_37, v_109, v_110, v_111, v_112, v_113, v_114, v_115, v_116, v_117, n_38, v_118, n_39, n_40, v_119, v_120, h_17, b_106, b_95, b_96, b_97, b_98, b_99, b_100, b_101, b_102, b_103, b_104, b_105⟩ := im0 hI10
    replace b_95 : 1 ≤ n_37 := b_95
    replace b_96 : n_37 ≤ 1024 := b_96
    replace b_97 : fl ≤ 12 := b_97
    replace b_98 : pe ≤ 24 := b_98
    replace b_99 : n_35 ≤ 700 := b_99
    replace b_100 : i_3 ≤ 12 := b_100
    replace b_101 : n_38 ≤ 8 := b_101
    replace b_102 : n_39 ≤ 24 := b_102
    replace b_103 : n_40 ≤ 24 := b_103
    replace b_104 : il ≤ 700 := b_104
    replace b_105 : nx ≤ 701 := b_105
    have h_18 : Φ9 x = some (o_ 14 [.int v_106, .ref (x + 1), .ref (x + 2), .int v_107, .int v_108, .int (nI n_37), .int v_109, .int v_110, .ref (x + 3), .ref (x + 4), .int v_111, .long v_112, .ref (x + 5), .int (nI fl), .int v_113, .long v_114, .long v_115, .long v_116, .long v_117, .ref (x + 6), .ref (x + 7), .int (nI pe), .ref (x + 8), .int (nI n_35), .ref (x + 9), .ref (x + 10), .int (nI i_3), .ref (x + 11), .ref (x + 12), .ref (x + 13), .ref (x + 14), .ref (x + 15), .ref (x + 16), .int (nI n_38), .long v_118, .ref (x + 17), .ref (x + 18), .ref (x + 19), .ref (x + 20), .ref (x + 21), .ref (x + 22), .int (nI n_39), .ref (x + 23), .ref (x + 24), .int (nI n_40), .ref (x + 25), .int (nI il), .int (nI nx), .int ec, .int v_119, .int kn, .int v_120, .int nu, .long va]) := h_17
    refine z_get (ref := "FlowExporterModel") (C := RX12) (T := TX12) (N := 54) (ci := 14) (v := .int (nI n_35)) B (by decide +kernel) rfl 23 (by decide) (by decide +kernel) rfl h_18 rfl dX12_sendPending_67 ?_
    refine z_callV (As := [.int 2, .int (nI n_35)]) (rest := []) B (r_putAt G l Φ9 sz x rd fl pe n_35 nx il i_3 kn ec nu va 2 n_35 hx hI10 (show 2 + 1 < 700 by omega) (show n_35 ≤ 700 by omega)) (cwV 2 B.1.2.2.2.2 gX12_sendPending_X12_putAt rfl rfl rfl (by decide +kernel) ⟨Nat.le_of_ble_eq_true rfl, Nat.le_of_ble_eq_true rfl⟩) h_18 rfl rfl rfl rfl (Nat.le_of_ble_eq_true rfl) dX12_sendPending_70 ⟨Nat.le_of_ble_eq_true rfl, Nat.le_of_ble_eq_true rfl⟩ (fun r_8 Φ10 sz8 st8 hp8 hs8 => ?_)
    obtain ⟨rfl, hq8, hI11, hF9⟩ := hp8
    subst sz8
    replace hs8 : st8 = [] := hs8
    subst st8
    replace hI11 : Im G x (rd, NN, fl, pe, n_35, nx, il, i_3, kn, ec, nu, va) Φ10 := hI11
    refine z_aload_n B dX12_sendPending_73 rfl 2 rfl ?_
    refine z_bipush (v := 14) B dX12_sendPending_74 rfl ?_
    refine z_iload_n B dX12_sendPending_76 rfl 0 rfl ?_
    refine z_iload_n B dX12_sendPending_77 rfl 1 rfl ?_
    refine z_isub B dX12_sendPending_78 ?_
    refine z_top (st1 := [.int (nI (n_36 - i_1)), .int 14, .ref x]) (congrArg (fun w9 : Int32 => ([.int w9, .int 14, .ref x] : List Value)) (nI_sub (show i_1 ≤ n_36 by omega))) ?_
    have h_19 : Φ10 x = some (o_ 14 [.int v_106, .ref (x + 1), .ref (x + 2), .int v_107, .int v_108, .int (nI n_37), .int v_109, .int v_110, .ref (x + 3), .ref (x + 4), .int v_111, .long v_112, .ref (x + 5), .int (nI fl), .int v_113, .long v_114, .long v_115, .long v_116, .long v_117, .ref (x + 6), .ref (x + 7), .int (nI pe), .ref (x + 8), .int (nI n_35), .ref (x + 9), .ref (x + 10), .int (nI i_3), .ref (x + 11), .ref (x + 12), .ref (x + 13), .ref (x + 14), .ref (x + 15), .ref (x + 16), .int (nI n_38), .long v_118, .ref (x + 17), .ref (x + 18), .ref (x + 19), .ref (x + 20), .ref (x + 21), .ref (x + 22), .int (nI n_39), .ref (x + 23), .ref (x + 24), .int (nI n_40), .ref (x + 25), .int (nI il), .int (nI nx), .int ec, .int v_119, .int kn, .int v_120, .int nu, .long va]) := ((hF9 x (fun j9 h8 h7 => by have h6 : j9 = 8 := h7; omega)).trans h_18)
    refine z_callV (As := [.int 14, .int (nI (n_36 - i_1))]) (rest := []) B (r_putAt G l Φ10 sz x rd fl pe n_35 nx il i_3 kn ec nu va 14 (n_36 - i_1) hx hI11 (show 14 + 1 < 700 by omega) (show (n_36 - i_1) ≤ 700 by omega)) (cwV 2 B.1.2.2.2.2 gX12_sendPending_X12_putAt rfl rfl rfl (by decide +kernel) ⟨Nat.le_of_ble_eq_true rfl, Nat.le_of_ble_eq_true rfl⟩) h_19 rfl rfl rfl rfl (Nat.le_of_ble_eq_true rfl) dX12_sendPending_79 ⟨Nat.le_of_ble_eq_true rfl, Nat.le_of_ble_eq_true rfl⟩ (fun r_9 Φ11 sz9 st9 hp9 hs9 => ?_)
    obtain ⟨rfl, hq9, hI12, hF10⟩ := hp9
    subst sz9
    replace hs9 : st9 = [] := hs9
    subst st9
    replace hI12 : Im G x (rd, NN, fl, pe, n_35, nx, il, i_3, kn, ec, nu, va) Φ11 := hI12
    refine z_aload_n B dX12_sendPending_82 rfl 2 rfl ?_
    refine z_dup B dX12_sendPending_83 rfl ?_
    have h_20 : Φ11 x = some (o_ 14 [.int v_106, .ref (x + 1), .ref (x + 2), .int v_107, .int v_108, .int (nI n_37), .int v_109, .int v_110, .ref (x + 3), .ref (x + 4), .int v_111, .long v_112, .ref (x + 5), .int (nI fl), .int v_113, .long v_114, .long v_115, .long v_116, .long v_117, .ref (x + 6), .ref (x + 7), .int (nI pe), .ref (x + 8), .int (nI n_35), .ref (x + 9), .ref (x + 10), .int (nI i_3), .ref (x + 11), .ref (x + 12), .ref (x + 13), .ref (x + 14), .ref (x + 15), .ref (x + 16), .int (nI n_38), .long v_118, .ref (x + 17), .ref (x + 18), .ref (x + 19), .ref (x + 20), .ref (x + 21), .ref (x + 22), .int (nI n_39), .ref (x + 23), .ref (x + 24), .int (nI n_40), .ref (x + 25), .int (nI il), .int (nI nx), .int ec, .int v_119, .int kn, .int v_120, .int nu, .long va]) := ((hF10 x (fun j9 h8 h7 => by have h6 : j9 = 8 := h7; omega)).trans h_19)
    refine z_get (ref := "FlowExporterModel") (C := RX12) (T := TX12) (N := 54) (ci := 14) (v := .int v_111) B (by decide +kernel) rfl 10 (by decide) (by decide +kernel) rfl h_20 rfl dX12_sendPending_84 ?_
    refine z_iconst (v := 1) B dX12_sendPending_87 rfl ?_
    refine z_iadd B dX12_sendPending_88 ?_
    refine z_fi (fun v_121 => ?_)
    refine z_put (ref := "FlowExporterModel") (C := RX12) (T := TX12) (N := 54) (ci := 14) (v := .int v_121) B (by decide +kernel) tyX12 tyX12_ok nmX12 rfl 10 (by decide) (by decide +kernel) rfl (Or.inl rfl) h_20 hx rfl rfl (Nat.le_of_ble_eq_true rfl) dX12_sendPending_89 (fun Φ12 hΦ3 => ?_)
    have h_21 : Φ12 x = some (o_ 14 [.int v_106, .ref (x + 1), .ref (x + 2), .int v_107, .int v_108, .int (nI n_37), .int v_109, .int v_110, .ref (x + 3), .ref (x + 4), .int v_121, .long v_112, .ref (x + 5), .int (nI fl), .int v_113, .long v_114, .long v_115, .long v_116, .long v_117, .ref (x + 6), .ref (x + 7), .int (nI pe), .ref (x + 8), .int (nI n_35), .ref (x + 9), .ref (x + 10), .int (nI i_3), .ref (x + 11), .ref (x + 12), .ref (x + 13), .ref (x + 14), .ref (x + 15), .ref (x + 16), .int (nI n_38), .long v_118, .ref (x + 17), .ref (x + 18), .ref (x + 19), .ref (x + 20), .ref (x + 21), .ref (x + 22), .int (nI n_39), .ref (x + 23), .ref (x + 24), .int (nI n_40), .ref (x + 25), .int (nI il), .int (nI nx), .int ec, .int v_119, .int kn, .int v_120, .int nu, .long va]) := fset_at hΦ3
    have hI13 : Im G x (rd, NN, fl, pe, n_35, nx, il, i_3, kn, ec, nu, va) Φ12 := Im.put0 hI12 hΦ3 ⟨v_106, v_107, v_108, n_37, v_109, v_110, v_121, v_112, v_113, v_114, v_115, v_116, v_117, n_38, v_118, n_39, n_40, v_119, v_120, rfl, b_106, (show 1 ≤ n_37 by omega), (show n_37 ≤ 1024 by omega), (show fl ≤ 12 by omega), (show pe ≤ 24 by omega), (show n_35 ≤ 700 by omega), (show i_3 ≤ 12 by omega), (show n_38 ≤ 8 by omega), (show n_39 ≤ 24 by omega), (show n_40 ≤ 24 by omega), (show il ≤ 700 by omega), (show nx ≤ 701 by omega)⟩
    refine z_aload_n B dX12_sendPending_92 rfl 2 rfl ?_
    refine z_dup B dX12_sendPending_93 rfl ?_
    refine z_get (ref := "FlowExporterModel") (C := RX12) (T := TX12) (N := 54) (ci := 14) (v := .long v_116) B (by decide +kernel) rfl 17 (by decide) (by decide +kernel) rfl h_21 rfl dX12_sendPending_94 ?_
    refine z_iload_n B dX12_sendPending_97 rfl 0 rfl ?_
    refine z_iload_n B dX12_sendPending_98 rfl 1 rfl ?_
    refine z_isub B dX12_sendPending_99 ?_
    refine z_top (st1 := [.int (nI (n_36 - i_1)), .long v_116, .ref x]) (congrArg (fun w9 : Int32 => ([.int w9, .long v_116, .ref x] : List Value)) (nI_sub (show i_1 ≤ n_36 by omega))) ?_
    refine z_i2l (v := (nI (n_36 - i_1)).toInt64) B dX12_sendPending_100 rfl ?_
    refine z_ladd B dX12_sendPending_101 ?_
    refine z_fl (fun v_122 => ?_)
    refine z_put (ref := "FlowExporterModel") (C := RX12) (T := TX12) (N := 54) (ci := 14) (v := .long v_122) B (by decide +kernel) tyX12 tyX12_ok nmX12 rfl 17 (by decide) (by decide +kernel) rfl (Or.inl rfl) h_21 hx rfl rfl (Nat.le_of_ble_eq_true rfl) dX12_sendPending_102 (fun Φ13 hΦ4 => ?_)
    have h_22 : Φ13 x = some (o_ 14 [.int v_106, .ref (x + 1), .ref (x + 2), .int v_107, .int v_108, .int (nI n_37), .int v_109, .int v_110, .ref (x + 3), .ref (x + 4), .int v_121, .long v_112, .ref (x + 5), .int (nI fl), .int v_113, .long v_114, .long v_115, .long v_122, .long v_117, .ref (x + 6), .ref (x + 7), .int (nI pe), .ref (x + 8), .int (nI n_35), .ref (x + 9), .ref (x + 10), .int (nI i_3), .ref (x + 11), .ref (x + 12), .ref (x + 13), .ref (x + 14), .ref (x + 15), .ref (x + 16), .int (nI n_38), .long v_118, .ref (x + 17), .ref (x + 18), .ref (x + 19), .ref (x + 20), .ref (x + 21), .ref (x + 22), .int (nI n_39), .ref (x + 23), .ref (x + 24), .int (nI n_40), .ref (x + 25), .int (nI il), .int (nI nx), .int ec, .int v_119, .int kn, .int v_120, .int nu, .long va]) := fset_at hΦ4
    have hI14 : Im G x (rd, NN, fl, pe, n_35, nx, il, i_3, kn, ec, nu, va) Φ13 := Im.put0 hI13 hΦ4 ⟨v_106, v_107, v_108, n_37, v_109, v_110, v_121, v_112, v_113, v_114, v_115, v_122, v_117, n_38, v_118, n_39, n_40, v_119, v_120, rfl, b_106, (show 1 ≤ n_37 by omega), (show n_37 ≤ 1024 by omega), (show fl ≤ 12 by omega), (show pe ≤ 24 by omega), (show n_35 ≤ 700 by omega), (show i_3 ≤ 12 by omega), (show n_38 ≤ 8 by omega), (show n_39 ≤ 24 by omega), (show n_40 ≤ 24 by omega), (show il ≤ 700 by omega), (show nx ≤ 701 by omega)⟩
    refine z_aload_n B dX12_sendPending_105 rfl 2 rfl ?_
    refine z_aload_n B dX12_sendPending_106 rfl 2 rfl ?_
    refine z_get (ref := "FlowExporterModel") (C := RX12) (T := TX12) (N := 54) (ci := 14) (v := .long v_112) B (by decide +kernel) rfl 11 (by decide) (by decide +kernel) rfl h_22 rfl dX12_sendPending_107 ?_
    refine z_iload_n B dX12_sendPending_110 rfl 0 rfl ?_
    refine z_i2l (v := (nI n_36).toInt64) B dX12_sendPending_111 rfl ?_
    refine z_ladd B dX12_sendPending_112 ?_
    refine z_fl (fun v_123 => ?_)
    refine z_iload_n B dX12_sendPending_113 rfl 1 rfl ?_
    refine z_i2l (v := (nI i_1).toInt64) B dX12_sendPending_114 rfl ?_
    refine z_lsub B dX12_sendPending_115 ?_
    refine z_fl (fun v_124 => ?_)
    refine z_ldc2 (v := 4294967295) B (by decide +kernel) dX12_sendPending_116 ?_
    refine z_land B dX12_sendPending_119 ?_
    refine z_fl (fun v_125 => ?_)
    refine z_put (ref := "FlowExporterModel") (C := RX12) (T := TX12) (N := 54) (ci := 14) (v := .long v_125) B (by decide +kernel) tyX12 tyX12_ok nmX12 rfl 11 (by decide) (by decide +kernel) rfl (Or.inl rfl) h_22 hx rfl rfl (Nat.le_of_ble_eq_true rfl) dX12_sendPending_120 (fun Φ14 hΦ5 => ?_)
    have h_23 : Φ14 x = some (o_ 14 [.int v_106, .ref (x + 1), .ref (x + 2), .int v_107, .int v_108, .int (nI n_37), .int v_109, .int v_110, .ref (x + 3), .ref (x + 4), .int v_121, .long v_125, .ref (x + 5), .int (nI fl), .int v_113, .long v_114, .long v_115, .long v_122, .long v_117, .ref (x + 6), .ref (x + 7), .int (nI pe), .ref (x + 8), .int (nI n_35), .ref (x + 9), .ref (x + 10), .int (nI i_3), .ref (x + 11), .ref (x + 12), .ref (x + 13), .ref (x + 14), .ref (x + 15), .ref (x + 16), .int (nI n_38), .long v_118, .ref (x + 17), .ref (x + 18), .ref (x + 19), .ref (x + 20), .ref (x + 21), .ref (x + 22), .int (nI n_39), .ref (x + 23), .ref (x + 24), .int (nI n_40), .ref (x + 25), .int (nI il), .int (nI nx), .int ec, .int v_119, .int kn, .int v_120, .int nu, .long va]) := fset_at hΦ5
    have hI15 : Im G x (rd, NN, fl, pe, n_35, nx, il, i_3, kn, ec, nu, va) Φ14 := Im.put0 hI14 hΦ5 ⟨v_106, v_107, v_108, n_37, v_109, v_110, v_121, v_125, v_113, v_114, v_115, v_122, v_117, n_38, v_118, n_39, n_40, v_119, v_120, rfl, b_106, (show 1 ≤ n_37 by omega), (show n_37 ≤ 1024 by omega), (show fl ≤ 12 by omega), (show pe ≤ 24 by omega), (show n_35 ≤ 700 by omega), (show i_3 ≤ 12 by omega), (show n_38 ≤ 8 by omega), (show n_39 ≤ 24 by omega), (show n_40 ≤ 24 by omega), (show il ≤ 700 by omega), (show nx ≤ 701 by omega)⟩
    refine z_iload_n B dX12_sendPending_123 rfl 0 rfl ?_
    refine z_istore_n (lv' := [(1, .int (nI n_36)), (2, .int (nI n_36)), (0, .ref x)]) B dX12_sendPending_124 rfl (Nat.le_of_ble_eq_true rfl) rfl ?_
    refine z_aload_n B dX12_sendPending_125 rfl 2 rfl ?_
    refine z_callV (As := []) (rest := []) B (r_enqueue G l Φ14 sz x rd fl pe n_35 nx il i_3 kn ec nu va  hx hI15 (show n_35 ≤ 600 by omega)) (cwV 0 B.1.2.2.2.2 gX12_sendPending_X12_enqueue rfl rfl rfl (by decide +kernel) ⟨Nat.le_of_ble_eq_true rfl, Nat.le_of_ble_eq_true rfl⟩) h_23 rfl rfl rfl rfl (Nat.le_of_ble_eq_true rfl) dX12_sendPending_126 ⟨Nat.le_of_ble_eq_true rfl, Nat.le_of_ble_eq_true rfl⟩ (fun r_10 Φ15 sz10 st10 hp10 hs10 => ?_)
    obtain ⟨rfl, hq10, ⟨n_41, hI16⟩, hF11⟩ := hp10
    subst sz10
    replace hs10 : st10 = [] := hs10
    subst st10
    replace hI16 : Im G x (rd, NN, fl, pe, n_35, nx, il, n_41, kn, ec, nu, va) Φ15 := hI16
    refine z_goto (tgt := 2) B dX12_sendPending_129 rfl ?_
    refine z_lv [0, 2] rfl ?_
    exact ih1 (n_36, n_35, n_41) Φ15 (show pe - n_36 < pe - i_1 by omega) ⟨hI16, (fun b9 h9 => ((hF11 b9 (fun j9 h8 h7 => h9 j9 h8 (show j9 = 0 ∨ j9 = 3 ∨ j9 = 4 ∨ j9 = 8 ∨ j9 = 9 ∨ j9 = 10 by have h6 : j9 = 0 ∨ j9 = 9 ∨ j9 = 10 := h7; omega))).trans ((fset_fr hΦ5 (fun h8 => h9 (0) h8 (show 0 = 0 ∨ 0 = 3 ∨ 0 = 4 ∨ 0 = 8 ∨ 0 = 9 ∨ 0 = 10 by omega))).trans ((fset_fr hΦ4 (fun h8 => h9 (0) h8 (show 0 = 0 ∨ 0 = 3 ∨ 0 = 4 ∨ 0 = 8 ∨ 0 = 9 ∨ 0 = 10 by omega))).trans ((fset_fr hΦ3 (fun h8 => h9 (0) h8 (show 0 = 0 ∨ 0 = 3 ∨ 0 = 4 ∨ 0 = 8 ∨ 0 = 9 ∨ 0 = 10 by omega))).trans ((hF10 b9 (fun j9 h8 h7 => h9 j9 h8 (show j9 = 0 ∨ j9 = 3 ∨ j9 = 4 ∨ j9 = 8 ∨ j9 = 9 ∨ j9 = 10 by have h6 : j9 = 8 := h7; omega))).trans ((hF9 b9 (fun j9 h8 h7 => h9 j9 h8 (show j9 = 0 ∨ j9 = 3 ∨ j9 = 4 ∨ j9 = 8 ∨ j9 = 9 ∨ j9 = 10 by have h6 : j9 = 8 := h7; omega))).trans ((hF8 b9 (fun j9 h8 h7 => h9 j9 h8 (show j9 = 0 ∨ j9 = 3 ∨ j9 = 4 ∨ j9 = 8 ∨ j9 = 9 ∨ j9 = 10 by have h6 : j9 = 0 ∨ j9 = 8 := h7; omega))).trans ((hF7 b9 (fun j9 h8 h7 => h9 j9 h8 (show j9 = 0 ∨ j9 = 3 ∨ j9 = 4 ∨ j9 = 8 ∨ j9 = 9 ∨ j9 = 10 by have h6 : j9 = 0 ∨ j9 = 3 ∨ j9 = 4 ∨ j9 = 8 := h7; omega))).trans ((hF6 b9 (fun j9 h8 h7 => h9 j9 h8 (show j9 = 0 ∨ j9 = 3 ∨ j9 = 4 ∨ j9 = 8 ∨ j9 = 9 ∨ j9 = 10 by have h6 : j9 = 0 ∨ j9 = 8 := h7; omega))).trans ((hF5 b9 (fun j9 h8 h7 => h9 j9 h8 (show j9 = 0 ∨ j9 = 3 ∨ j9 = 4 ∨ j9 = 8 ∨ j9 = 9 ∨ j9 = 10 by have h6 : j9 = 0 ∨ j9 = 8 := h7; omega))).trans ((hF4 b9 (fun j9 h8 h7 => h9 j9 h8 (show j9 = 0 ∨ j9 = 3 ∨ j9 = 4 ∨ j9 = 8 ∨ j9 = 9 ∨ j9 = 10 by have h6 : j9 = 0 ∨ j9 = 8 := h7; omega))).trans ((hF3 b9 (fun j9 h8 h7 => h9 j9 h8 (show j9 = 0 ∨ j9 = 3 ∨ j9 = 4 ∨ j9 = 8 ∨ j9 = 9 ∨ j9 = 10 by have h6 : j9 = 0 ∨ j9 = 8 := h7; omega))).trans ((hF2 b9 (fun j9 h8 h7 => h9 j9 h8 (show j9 = 0 ∨ j9 = 3 ∨ j9 = 4 ∨ j9 = 8 ∨ j9 = 9 ∨ j9 = 10 by have h6 : j9 = 0 ∨ j9 = 8 := h7; omega))).trans ((fset_fr hΦ2 (fun h8 => h9 (0) h8 (show 0 = 0 ∨ 0 = 3 ∨ 0 = 4 ∨ 0 = 8 ∨ 0 = 9 ∨ 0 = 10 by omega))).trans ((hF1 b9 (fun j9 h8 h7 => h9 j9 h8 (show j9 = 0 ∨ j9 = 3 ∨ j9 = 4 ∨ j9 = 8 ∨ j9 = 9 ∨ j9 = 10 by have h6 : j9 = 0 ∨ j9 = 3 ∨ j9 = 4 ∨ j9 = 8 ∨ j9 = 9 ∨ j9 = 10 := h7; omega))).trans rfl)))))))))))))))), (show n_36 ≤ pe by omega), trivial⟩

set_option maxHeartbeats 4000000 in
set_option maxRecDepth 100000 in
theorem r_isPacket (G : EnvG) (l : Launch) (Φ : Hm) (sz x : Nat) (rd : (Nat → Int32) → Prop) (fl : Nat) (pe : Nat) (le : Nat) (nx : Nat) (il : Nat) (qu : Nat) (kn : Int32) (ec : Int32) (nu : Int32) (va : Int64) (a : Int32) (b : Int32) (d : Int32) (f : Int32) (g : Int32) (hx : G.2.2.2 ≤ x) (hI : Im G x (rd, NN, fl, pe, le, nx, il, qu, kn, ec, nu, va) Φ)  : Ct G l yX12_isPacket wsX12_isPacket ({ frames := 2, cells := 0, slots := 0, locals := 45 }) 0 0 [.int a, .int b, .int d, .int f, .int g] Φ sz (fun v Φ1 sz1 => (v = some (.int 0) ∨ (v = some (.int 1) ∧ (∃ n9 : Nat, n9 ≤ 255 ∧ f = nI n9))) ∧ sz1 = sz ∧ (Im G x (rd, NN, fl, pe, le, nx, il, qu, kn, ec, nu, va) Φ1) ∧ Fr x (fun j9 => False) Φ Φ1) := by
  refine Ct.of (cc := cX12_isPacket) (maxL := 5) (ret := (some .boolean)) (by decide) rfl (Nat.le_of_ble_eq_true rfl) ?_
  intro p9 e9 s9 m9 w9 t9 k9 B
  show Z p9 l e9 _ s9 m9 _ w9 t9 k9 _ G 5 0 [(0, .int a), (1, .int b), (2, .int d), (3, .int f), (4, .int g)] [] Φ sz 0 0
  refine z_iload_n B dX12_isPacket_0 rfl 0 rfl ?_
  refine z_callS (As := [.int a]) (rest := []) B (r_isByte G l Φ sz x rd fl pe le nx il qu kn ec nu va a hx hI ) (va_cwS 1 B.1.2.2.2.2 gX12_isPacket_X12_isByte rfl rfl rfl (by decide +kernel) ⟨Nat.le_of_ble_eq_true rfl, Nat.le_of_ble_eq_true rfl⟩) rfl rfl (Nat.le_of_ble_eq_true rfl) dX12_isPacket_1 ⟨Nat.le_of_ble_eq_true rfl, Nat.le_of_ble_eq_true rfl⟩ (fun r_1 Φ1 sz1 st1 hp1 hs1 => ?_)
  obtain ⟨ha1, hq1, hI1, hF1⟩ := hp1
  subst sz1
  replace hI1 : Im G x (rd, NN, fl, pe, le, nx, il, qu, kn, ec, nu, va) Φ1 := hI1
  rcases ha1 with rfl | ⟨rfl, n_1, b_1, rfl⟩
  · replace hs1 : st1 = [.int 0] := hs1
    subst st1
    refine z_if_eq (tgt := 50) B dX12_isPacket_4 rfl (fun c_1 => ?_) (fun h9 => absurd (by decide) h9)
    refine z_iconst (v := 0) B dX12_isPacket_50 rfl ?_
    exact z_ret_z B dX12_isPacket_51 (by decide) ⟨(Or.inl rfl), rfl, hI1, (fun b9 h9 => ((hF1 b9 (fun j9 h8 h7 => (show False from h7).elim)).trans rfl))⟩
  · replace hs1 : st1 = [.int 1] := hs1
    subst st1
    replace b_1 : n_1 ≤ 255 := b_1
    refine z_if_eq (tgt := 50) B dX12_isPacket_4 rfl (fun h9 => absurd h9 (by decide)) (fun c_2 => ?_)
    refine z_iload_n B dX12_isPacket_7 rfl 1 rfl ?_
    refine z_callS (As := [.int b]) (rest := []) B (r_isByte G l Φ1 sz x rd fl pe le nx il qu kn ec nu va b hx hI1 ) (va_cwS 1 B.1.2.2.2.2 gX12_isPacket_X12_isByte rfl rfl rfl (by decide +kernel) ⟨Nat.le_of_ble_eq_true rfl, Nat.le_of_ble_eq_true rfl⟩) rfl rfl (Nat.le_of_ble_eq_true rfl) dX12_isPacket_8 ⟨Nat.le_of_ble_eq_true rfl, Nat.le_of_ble_eq_true rfl⟩ (fun r_2 Φ2 sz2 st2 hp2 hs2 => ?_)
    obtain ⟨ha2, hq2, hI2, hF2⟩ := hp2
    subst sz2
    replace hI2 : Im G x (rd, NN, fl, pe, le, nx, il, qu, kn, ec, nu, va) Φ2 := hI2
    rcases ha2 with rfl | ⟨rfl, n_2, b_2, rfl⟩
    · replace hs2 : st2 = [.int 0] := hs2
      subst st2
      refine z_if_eq (tgt := 50) B dX12_isPacket_11 rfl (fun c_3 => ?_) (fun h9 => absurd (by decide) h9)
      refine z_iconst (v := 0) B dX12_isPacket_50 rfl ?_
      exact z_ret_z B dX12_isPacket_51 (by decide) ⟨(Or.inl rfl), rfl, hI2, (fun b9 h9 => ((hF2 b9 (fun j9 h8 h7 => (show False from h7).elim)).trans ((hF1 b9 (fun j9 h8 h7 => (show False from h7).elim)).trans rfl)))⟩
    · replace hs2 : st2 = [.int 1] := hs2
      subst st2
      replace b_2 : n_2 ≤ 255 := b_2
      refine z_if_eq (tgt := 50) B dX12_isPacket_11 rfl (fun h9 => absurd h9 (by decide)) (fun c_4 => ?_)
      refine z_iload_n B dX12_isPacket_14 rfl 2 rfl ?_
      refine z_i2l (v := d.toInt64) B dX12_isPacket_15 rfl ?_
      refine z_lconst (v := 0) B dX12_isPacket_16 rfl ?_
      refine z_ldc2 (v := 65535) B (by decide +kernel) dX12_isPacket_17 ?_
      by_cases hR1 : inP d.toInt64 0 65535
      · obtain ⟨n_3, e_1, e_2, e_3, rfl⟩ := in_get (L := 0) (H := 65535) (by decide) (by decide) hR1
        refine z_callS (As := [.long ((nI n_3).toInt64), .long 0, .long 65535]) (rest := []) B (c_inR1 G l Φ2 sz ((nI n_3).toInt64) 0 65535 hR1 (fun v8 Φ8 sz8 => v8 = some (.int 1) ∧ sz8 = sz ∧ Im G x (rd, NN, fl, pe, le, nx, il, qu, kn, ec, nu, va) Φ8 ∧ Fr x (fun j9 => False) Φ2 Φ8) ⟨rfl, rfl, hI2, fun _ _ => rfl⟩) (va_cwS 3 B.1.2.2.2.2 gX12_isPacket_X12_inRange rfl rfl rfl (by decide +kernel) ⟨Nat.le_of_ble_eq_true rfl, Nat.le_of_ble_eq_true rfl⟩) rfl rfl (Nat.le_of_ble_eq_true rfl) dX12_isPacket_20 ⟨Nat.le_of_ble_eq_true rfl, Nat.le_of_ble_eq_true rfl⟩ (fun r_3 Φ3 sz3 st3 hp3 hs3 => ?_)
        obtain ⟨rfl, hq3, hI3, hF3⟩ := hp3
        subst sz3
        replace hs3 : st3 = [.int 1] := hs3
        subst st3
        refine z_if_eq (tgt := 50) B dX12_isPacket_23 rfl (fun h9 => absurd h9 (by decide)) (fun c_5 => ?_)
        refine z_iload_n B dX12_isPacket_26 rfl 3 rfl ?_
        refine z_callS (As := [.int f]) (rest := []) B (r_isByte G l Φ3 sz x rd fl pe le nx il qu kn ec nu va f hx hI3 ) (va_cwS 1 B.1.2.2.2.2 gX12_isPacket_X12_isByte rfl rfl rfl (by decide +kernel) ⟨Nat.le_of_ble_eq_true rfl, Nat.le_of_ble_eq_true rfl⟩) rfl rfl (Nat.le_of_ble_eq_true rfl) dX12_isPacket_27 ⟨Nat.le_of_ble_eq_true rfl, Nat.le_of_ble_eq_true rfl⟩ (fun r_4 Φ4 sz4 st4 hp4 hs4 => ?_)
        obtain ⟨ha3, hq4, hI4, hF4⟩ := hp4
        subst sz4
        replace hI4 : Im G x (rd, NN, fl, pe, le, nx, il, qu, kn, ec, nu, va) Φ4 := hI4
        rcases ha3 with rfl | ⟨rfl, n_4, b_3, rfl⟩
        · replace hs4 : st4 = [.int 0] := hs4
          subst st4
          refine z_if_eq (tgt := 50) B dX12_isPacket_30 rfl (fun c_6 => ?_) (fun h9 => absurd (by decide) h9)
          refine z_iconst (v := 0) B dX12_isPacket_50 rfl ?_
          exact z_ret_z B dX12_isPacket_51 (by decide) ⟨(Or.inl rfl), rfl, hI4, (fun b9 h9 => ((hF4 b9 (fun j9 h8 h7 => (show False from h7).elim)).trans ((hF3 b9 (fun j9 h8 h7 => (show False from h7).elim)).trans ((hF2 b9 (fun j9 h8 h7 => (show False from h7).elim)).trans ((hF1 b9 (fun j9 h8 h7 => (show False from h7).elim)).trans rfl)))))⟩
        · replace hs4 : st4 = [.int 1] := hs4
          subst st4
          replace b_3 : n_4 ≤ 255 := b_3
          refine z_if_eq (tgt := 50) B dX12_isPacket_30 rfl (fun h9 => absurd h9 (by decide)) (fun c_7 => ?_)
          refine z_iload B dX12_isPacket_33 4 rfl ?_
          refine z_i2l (v := g.toInt64) B dX12_isPacket_35 rfl ?_
          refine z_lconst (v := 1) B dX12_isPacket_36 rfl ?_
          refine z_ldc2 (v := 65535) B (by decide +kernel) dX12_isPacket_37 ?_
          by_cases hR2 : inP g.toInt64 1 65535
          · obtain ⟨n_5, e_4, e_5, e_6, rfl⟩ := in_get (L := 1) (H := 65535) (by decide) (by decide) hR2
            refine z_callS (As := [.long ((nI n_5).toInt64), .long 1, .long 65535]) (rest := []) B (c_inR1 G l Φ4 sz ((nI n_5).toInt64) 1 65535 hR2 (fun v8 Φ8 sz8 => v8 = some (.int 1) ∧ sz8 = sz ∧ Im G x (rd, NN, fl, pe, le, nx, il, qu, kn, ec, nu, va) Φ8 ∧ Fr x (fun j9 => False) Φ4 Φ8) ⟨rfl, rfl, hI4, fun _ _ => rfl⟩) (va_cwS 3 B.1.2.2.2.2 gX12_isPacket_X12_inRange rfl rfl rfl (by decide +kernel) ⟨Nat.le_of_ble_eq_true rfl, Nat.le_of_ble_eq_true rfl⟩) rfl rfl (Nat.le_of_ble_eq_true rfl) dX12_isPacket_40 ⟨Nat.le_of_ble_eq_true rfl, Nat.le_of_ble_eq_true rfl⟩ (fun r_5 Φ5 sz5 st5 hp5 hs5 => ?_)
            obtain ⟨rfl, hq5, hI5, hF5⟩ := hp5
            subst sz5
            replace hs5 : st5 = [.int 1] := hs5
            subst st5
            refine z_if_eq (tgt := 50) B dX12_isPacket_43 rfl (fun h9 => absurd h9 (by decide)) (fun c_8 => ?_)
            refine z_iconst (v := 1) B dX12_isPacket_46 rfl ?_
            refine z_goto (tgt := 51) B dX12_isPacket_47 rfl ?_
            exact z_ret_z B dX12_isPacket_51 (by decide) ⟨(Or.inr ⟨rfl, ⟨n_4, (show n_4 ≤ 255 by omega), rfl⟩⟩), rfl, hI5, (fun b9 h9 => ((hF5 b9 (fun j9 h8 h7 => (show False from h7).elim)).trans ((hF4 b9 (fun j9 h8 h7 => (show False from h7).elim)).trans ((hF3 b9 (fun j9 h8 h7 => (show False from h7).elim)).trans ((hF2 b9 (fun j9 h8 h7 => (show False from h7).elim)).trans ((hF1 b9 (fun j9 h8 h7 => (show False from h7).elim)).trans rfl))))))⟩
          · refine z_callS (As := [.long g.toInt64, .long 1, .long 65535]) (rest := []) B (c_inR0 G l Φ4 sz g.toInt64 1 65535 hR2 (fun v8 Φ8 sz8 => v8 = some (.int 0) ∧ sz8 = sz ∧ Im G x (rd, NN, fl, pe, le, nx, il, qu, kn, ec, nu, va) Φ8 ∧ Fr x (fun j9 => False) Φ4 Φ8) ⟨rfl, rfl, hI4, fun _ _ => rfl⟩) (va_cwS 3 B.1.2.2.2.2 gX12_isPacket_X12_inRange rfl rfl rfl (by decide +kernel) ⟨Nat.le_of_ble_eq_true rfl, Nat.le_of_ble_eq_true rfl⟩) rfl rfl (Nat.le_of_ble_eq_true rfl) dX12_isPacket_40 ⟨Nat.le_of_ble_eq_true rfl, Nat.le_of_ble_eq_true rfl⟩ (fun r_6 Φ6 sz6 st6 hp6 hs6 => ?_)
            obtain ⟨rfl, hq6, hI6, hF6⟩ := hp6
            subst sz6
            replace hs6 : st6 = [.int 0] := hs6
            subst st6
            refine z_if_eq (tgt := 50) B dX12_isPacket_43 rfl (fun c_9 => ?_) (fun h9 => absurd (by decide) h9)
            refine z_iconst (v := 0) B dX12_isPacket_50 rfl ?_
            exact z_ret_z B dX12_isPacket_51 (by decide) ⟨(Or.inl rfl), rfl, hI6, (fun b9 h9 => ((hF6 b9 (fun j9 h8 h7 => (show False from h7).elim)).trans ((hF4 b9 (fun j9 h8 h7 => (show False from h7).elim)).trans ((hF3 b9 (fun j9 h8 h7 => (show False from h7).elim)).trans ((hF2 b9 (fun j9 h8 h7 => (show False from h7).elim)).trans ((hF1 b9 (fun j9 h8 h7 => (show False from h7).elim)).trans rfl))))))⟩
      · refine z_callS (As := [.long d.toInt64, .long 0, .long 65535]) (rest := []) B (c_inR0 G l Φ2 sz d.toInt64 0 65535 hR1 (fun v8 Φ8 sz8 => v8 = some (.int 0) ∧ sz8 = sz ∧ Im G x (rd, NN, fl, pe, le, nx, il, qu, kn, ec, nu, va) Φ8 ∧ Fr x (fun j9 => False) Φ2 Φ8) ⟨rfl, rfl, hI2, fun _ _ => rfl⟩) (va_cwS 3 B.1.2.2.2.2 gX12_isPacket_X12_inRange rfl rfl rfl (by decide +kernel) ⟨Nat.le_of_ble_eq_true rfl, Nat.le_of_ble_eq_true rfl⟩) rfl rfl (Nat.le_of_ble_eq_true rfl) dX12_isPacket_20 ⟨Nat.le_of_ble_eq_true rfl, Nat.le_of_ble_eq_true rfl⟩ (fun r_7 Φ7 sz7 st7 hp7 hs7 => ?_)
        obtain ⟨rfl, hq7, hI7, hF7⟩ := hp7
        subst sz7
        replace hs7 : st7 = [.int 0] := hs7
        subst st7
        refine z_if_eq (tgt := 50) B dX12_isPacket_23 rfl (fun c_10 => ?_) (fun h9 => absurd (by decide) h9)
        refine z_iconst (v := 0) B dX12_isPacket_50 rfl ?_
        exact z_ret_z B dX12_isPacket_51 (by decide) ⟨(Or.inl rfl), rfl, hI7, (fun b9 h9 => ((hF7 b9 (fun j9 h8 h7 => (show False from h7).elim)).trans ((hF2 b9 (fun j9 h8 h7 => (show False from h7).elim)).trans ((hF1 b9 (fun j9 h8 h7 => (show False from h7).elim)).trans rfl))))⟩

set_option maxHeartbeats 4000000 in
set_option maxRecDepth 100000 in
theorem r_see (G : EnvG) (l : Launch) (Φ : Hm) (sz x : Nat) (rd : (Nat → Int32) → Prop) (fl : Nat) (pe : Nat) (le : Nat) (nx : Nat) (il : Nat) (qu : Nat) (kn : Int32) (ec : Int32) (nu : Int32) (va : Int64) (fC : Nat → Int64) (a : Int32) (b : Int32) (d : Int32) (g : Nat) (e : Int32) (hx : G.2.2.2 ≤ x) (hI : Im G x (rd, NN, fl, pe, le, nx, il, qu, kn, ec, nu, va) Φ) (hc0 : Φ (x + 5) = some (al_ G 96 fC)) (hC : CC fC) (hg : g ≤ 255) (hk : pe = 0 ∨ (pe ≤ 1 ∧ InC fC fl a b d (nI g))) : Ct G l yX12_see wsX12_see ({ frames := 6, cells := 0, slots := 0, locals := 133 }) 0 0 [.ref x, .int a, .int b, .int d, .int (nI g), .int e] Φ sz (fun v Φ1 sz1 => (∃ r9 : Int32, v = some (.int r9) ∧ (r9 = 0 ∨ r9 = 1)) ∧ sz1 = sz ∧ (∃ (fl1 : Nat) (pe1 : Nat), (pe1 = 0 ∨ (pe1 ≤ 1 ∧ ∀ fC1, Φ1 (x + 5) = some (al_ G 96 fC1) → InC fC1 fl1 a b d (nI g))) ∧ Im G x (rd, NN, fl1, pe1, le, nx, il, qu, kn, ec, nu, va) Φ1) ∧ Fr x (fun j9 => j9 = 0 ∨ j9 = 5 ∨ j9 = 6 ∨ j9 = 7 ∨ j9 = 23 ∨ j9 = 24) Φ Φ1) := by
  refine Ct.of (cc := cX12_see) (maxL := 8) (ret := (some .boolean)) (by decide) rfl (Nat.le_of_ble_eq_true rfl) ?_
  intro p9 e9 s9 m9 w9 t9 k9 B
  show Z p9 l e9 _ s9 m9 _ w9 t9 k9 _ G 8 0 [(0, .ref x), (1, .int a), (2, .int b), (3, .int d), (4, .int (nI g)), (5, .int e)] [] Φ sz 0 0
  have hk1 : pe ≤ 1 := by
    rcases hk with h | h
    · omega
    · exact h.1
  refine z_aload_n B dX12_see_0 rfl 0 rfl ?_
  refine z_dup B dX12_see_1 rfl ?_
  obtain ⟨v_1, v_2, v_3, n_1, v_4, v_5, v_6, v_7, v_8, v_9, v_10, v_11, v_12, n_2, v_13, n_3, n_4, v_14, v_15, h_1, b_12, b_1, b_2, b_3, b_4, b_5, b_6, b_7, b_8, b_9, b_10, b_11⟩ := im0 hI
  replace b_1 : 1 ≤ n_1 := b_1
  replace b_2 : n_1 ≤ 1024 := b_2
  replace b_3 : fl ≤ 12 := b_3
  replace b_4 : pe ≤ 24 := b_4
  replace b_5 : le ≤ 700 := b_5
  replace b_6 : qu ≤ 12 := b_6
  replace b_7 : n_2 ≤ 8 := b_7
  replace b_8 : n_3 ≤ 24 := b_8
  replace b_9 : n_4 ≤ 24 := b_9
  replace b_10 : il ≤ 700 := b_10
  replace b_11 : nx ≤ 701 := b_11
  have h_2 : Φ x = some (o_ 14 [.int v_1, .ref (x + 1), .ref (x + 2), .int v_2, .int v_3, .int (nI n_1), .int v_4, .int v_5, .ref (x + 3), .ref (x + 4), .int v_6, .long v_7, .ref (x + 5), .int (nI fl), .int v_8, .long v_9, .long v_10, .long v_11, .long v_12, .ref (x + 6), .ref (x + 7), .int (nI pe), .ref (x + 8), .int (nI le), .ref (x + 9), .ref (x + 10), .int (nI qu), .ref (x + 11), .ref (x + 12), .ref (x + 13), .ref (x + 14), .ref (x + 15), .ref (x + 16), .int (nI n_2), .long v_13, .ref (x + 17), .ref (x + 18), .ref (x + 19), .ref (x + 20), .ref (x + 21), .ref (x + 22), .int (nI n_3), .ref (x + 23), .ref (x + 24), .int (nI n_4), .ref (x + 25), .int (nI il), .int (nI nx), .int ec, .int v_14, .int kn, .int v_15, .int nu, .long va]) := h_1
  refine z_get (ref := "FlowExporterModel") (C := RX12) (T := TX12) (N := 54) (ci := 14) (v := .long v_9) B (by decide +kernel) rfl 15 (by decide) (by decide +kernel) rfl h_2 rfl dX12_see_2 ?_
  refine z_lconst (v := 1) B dX12_see_5 rfl ?_
  refine z_ladd B dX12_see_6 ?_
  refine z_fl (fun v_16 => ?_)
  refine z_put (ref := "FlowExporterModel") (C := RX12) (T := TX12) (N := 54) (ci := 14) (v := .long v_16) B (by decide +kernel) tyX12 tyX12_ok nmX12 rfl 15 (by decide) (by decide +kernel) rfl (Or.inl rfl) h_2 hx rfl rfl (Nat.le_of_ble_eq_true rfl) dX12_see_7 (fun Φ1 hΦ1 => ?_)
  have h_3 : Φ1 x = some (o_ 14 [.int v_1, .ref (x + 1), .ref (x + 2), .int v_2, .int v_3, .int (nI n_1), .int v_4, .int v_5, .ref (x + 3), .ref (x + 4), .int v_6, .long v_7, .ref (x + 5), .int (nI fl), .int v_8, .long v_16, .long v_10, .long v_11, .long v_12, .ref (x + 6), .ref (x + 7), .int (nI pe), .ref (x + 8), .int (nI le), .ref (x + 9), .ref (x + 10), .int (nI qu), .ref (x + 11), .ref (x + 12), .ref (x + 13), .ref (x + 14), .ref (x + 15), .ref (x + 16), .int (nI n_2), .long v_13, .ref (x + 17), .ref (x + 18), .ref (x + 19), .ref (x + 20), .ref (x + 21), .ref (x + 22), .int (nI n_3), .ref (x + 23), .ref (x + 24), .int (nI n_4), .ref (x + 25), .int (nI il), .int (nI nx), .int ec, .int v_14, .int kn, .int v_15, .int nu, .long va]) := fset_at hΦ1
  have hI1 : Im G x (rd, NN, fl, pe, le, nx, il, qu, kn, ec, nu, va) Φ1 := Im.put0 hI hΦ1 ⟨v_1, v_2, v_3, n_1, v_4, v_5, v_6, v_7, v_8, v_16, v_10, v_11, v_12, n_2, v_13, n_3, n_4, v_14, v_15, rfl, b_12, (show 1 ≤ n_1 by omega), (show n_1 ≤ 1024 by omega), (show fl ≤ 12 by omega), (show pe ≤ 24 by omega), (show le ≤ 700 by omega), (show qu ≤ 12 by omega), (show n_2 ≤ 8 by omega), (show n_3 ≤ 24 by omega), (show n_4 ≤ 24 by omega), (show il ≤ 700 by omega), (show nx ≤ 701 by omega)⟩
  refine z_aload_n B dX12_see_10 rfl 0 rfl ?_
  refine z_iload_n B dX12_see_11 rfl 1 rfl ?_
  refine z_iload_n B dX12_see_12 rfl 2 rfl ?_
  refine z_iload_n B dX12_see_13 rfl 3 rfl ?_
  refine z_iload B dX12_see_14 4 rfl ?_
  refine z_iload B dX12_see_16 5 rfl ?_
  refine z_callV (As := [.int a, .int b, .int d, .int (nI g), .int e]) (rest := []) B (r_remember G l Φ1 sz x rd fl pe le nx il qu kn ec nu va a b d (nI g) e hx hI1 ) (cwV 5 B.1.2.2.2.2 gX12_see_X12_remember rfl rfl rfl (by decide +kernel) ⟨Nat.le_of_ble_eq_true rfl, Nat.le_of_ble_eq_true rfl⟩) h_3 rfl rfl rfl rfl (Nat.le_of_ble_eq_true rfl) dX12_see_18 ⟨Nat.le_of_ble_eq_true rfl, Nat.le_of_ble_eq_true rfl⟩ (fun r_1 Φ2 sz1 st1 hp1 hs1 => ?_)
  obtain ⟨rfl, hq1, hI2, hF1⟩ := hp1
  subst sz1
  replace hs1 : st1 = [] := hs1
  subst st1
  replace hI2 : Im G x (rd, NN, fl, pe, le, nx, il, qu, kn, ec, nu, va) Φ2 := hI2
  refine z_aload_n B dX12_see_21 rfl 0 rfl ?_
  obtain ⟨v_17, v_18, v_19, n_5, v_20, v_21, v_22, v_23, v_24, v_25, v_26, v_27, v_28, n_6, v_29, n_7, n_8, v_30, v_31, h_4, b_24, b_13, b_14, b_15, b_16, b_17, b_18, b_19, b_20, b_21, b_22, b_23⟩ := im0 hI2
  replace b_13 : 1 ≤ n_5 := b_13
  replace b_14 : n_5 ≤ 1024 := b_14
  replace b_15 : fl ≤ 12 := b_15
  replace b_16 : pe ≤ 24 := b_16
  replace b_17 : le ≤ 700 := b_17
  replace b_18 : qu ≤ 12 := b_18
  replace b_19 : n_6 ≤ 8 := b_19
  replace b_20 : n_7 ≤ 24 := b_20
  replace b_21 : n_8 ≤ 24 := b_21
  replace b_22 : il ≤ 700 := b_22
  replace b_23 : nx ≤ 701 := b_23
  have h_5 : Φ2 x = some (o_ 14 [.int v_17, .ref (x + 1), .ref (x + 2), .int v_18, .int v_19, .int (nI n_5), .int v_20, .int v_21, .ref (x + 3), .ref (x + 4), .int v_22, .long v_23, .ref (x + 5), .int (nI fl), .int v_24, .long v_25, .long v_26, .long v_27, .long v_28, .ref (x + 6), .ref (x + 7), .int (nI pe), .ref (x + 8), .int (nI le), .ref (x + 9), .ref (x + 10), .int (nI qu), .ref (x + 11), .ref (x + 12), .ref (x + 13), .ref (x + 14), .ref (x + 15), .ref (x + 16), .int (nI n_6), .long v_29, .ref (x + 17), .ref (x + 18), .ref (x + 19), .ref (x + 20), .ref (x + 21), .ref (x + 22), .int (nI n_7), .ref (x + 23), .ref (x + 24), .int (nI n_8), .ref (x + 25), .int (nI il), .int (nI nx), .int ec, .int v_30, .int kn, .int v_31, .int nu, .long va]) := h_4
  refine z_get (ref := "FlowExporterModel") (C := RX12) (T := TX12) (N := 54) (ci := 14) (v := .int (nI n_5)) B (by decide +kernel) rfl 5 (by decide) (by decide +kernel) rfl h_5 rfl dX12_see_22 ?_
  refine z_iconst (v := 1) B dX12_see_25 rfl ?_
  refine z_icmp_le (tgt := 42) B dX12_see_26 rfl (fun c_1 => ?_) (fun c_1 => ?_)
  · have e_1 : n_5 ≤ 1 := (nI_leI (a := n_5) (b := 1) (by omega) (by omega)).mp c_1
    refine z_aload_n B dX12_see_42 rfl 0 rfl ?_
    refine z_dup B dX12_see_43 rfl ?_
    refine z_get (ref := "FlowExporterModel") (C := RX12) (T := TX12) (N := 54) (ci := 14) (v := .long v_26) B (by decide +kernel) rfl 16 (by decide) (by decide +kernel) rfl h_5 rfl dX12_see_44 ?_
    refine z_lconst (v := 1) B dX12_see_47 rfl ?_
    refine z_ladd B dX12_see_48 ?_
    refine z_fl (fun v_32 => ?_)
    refine z_put (ref := "FlowExporterModel") (C := RX12) (T := TX12) (N := 54) (ci := 14) (v := .long v_32) B (by decide +kernel) tyX12 tyX12_ok nmX12 rfl 16 (by decide) (by decide +kernel) rfl (Or.inl rfl) h_5 hx rfl rfl (Nat.le_of_ble_eq_true rfl) dX12_see_49 (fun Φ3 hΦ2 => ?_)
    have h_6 : Φ3 x = some (o_ 14 [.int v_17, .ref (x + 1), .ref (x + 2), .int v_18, .int v_19, .int (nI n_5), .int v_20, .int v_21, .ref (x + 3), .ref (x + 4), .int v_22, .long v_23, .ref (x + 5), .int (nI fl), .int v_24, .long v_25, .long v_32, .long v_27, .long v_28, .ref (x + 6), .ref (x + 7), .int (nI pe), .ref (x + 8), .int (nI le), .ref (x + 9), .ref (x + 10), .int (nI qu), .ref (x + 11), .ref (x + 12), .ref (x + 13), .ref (x + 14), .ref (x + 15), .ref (x + 16), .int (nI n_6), .long v_29, .ref (x + 17), .ref (x + 18), .ref (x + 19), .ref (x + 20), .ref (x + 21), .ref (x + 22), .int (nI n_7), .ref (x + 23), .ref (x + 24), .int (nI n_8), .ref (x + 25), .int (nI il), .int (nI nx), .int ec, .int v_30, .int kn, .int v_31, .int nu, .long va]) := fset_at hΦ2
    have hI3 : Im G x (rd, NN, fl, pe, le, nx, il, qu, kn, ec, nu, va) Φ3 := Im.put0 hI2 hΦ2 ⟨v_17, v_18, v_19, n_5, v_20, v_21, v_22, v_23, v_24, v_25, v_32, v_27, v_28, n_6, v_29, n_7, n_8, v_30, v_31, rfl, b_24, (show 1 ≤ n_5 by omega), (show n_5 ≤ 1024 by omega), (show fl ≤ 12 by omega), (show pe ≤ 24 by omega), (show le ≤ 700 by omega), (show qu ≤ 12 by omega), (show n_6 ≤ 8 by omega), (show n_7 ≤ 24 by omega), (show n_8 ≤ 24 by omega), (show il ≤ 700 by omega), (show nx ≤ 701 by omega)⟩
    refine z_aload_n B dX12_see_52 rfl 0 rfl ?_
    refine z_iload_n B dX12_see_53 rfl 1 rfl ?_
    refine z_iload_n B dX12_see_54 rfl 2 rfl ?_
    refine z_iload_n B dX12_see_55 rfl 3 rfl ?_
    refine z_iload B dX12_see_56 4 rfl ?_
    have h_7 : Φ3 (x + 5) = some (al_ G 96 fC) := ((fset_fr hΦ2 (ne_off (x := x) (i := 5) (j := 0) rfl)).trans ((hF1 (x + 5) (fun j9 h8 h7 => by have h6 : j9 = 0 ∨ j9 = 23 ∨ j9 = 24 := h7; omega)).trans ((fset_fr hΦ1 (ne_off (x := x) (i := 5) (j := 0) rfl)).trans hc0)))
    refine z_callV (As := [.int a, .int b, .int d, .int (nI g)]) (rest := []) B (r_flowOf G l Φ3 sz x rd fl pe le nx il qu kn ec nu va fC a b d (nI g) hx hI3 h_7) (cwV 4 B.1.2.2.2.2 gX12_see_X12_flowOf rfl rfl rfl (by decide +kernel) ⟨Nat.le_of_ble_eq_true rfl, Nat.le_of_ble_eq_true rfl⟩) h_6 rfl rfl rfl rfl (Nat.le_of_ble_eq_true rfl) dX12_see_58 ⟨Nat.le_of_ble_eq_true rfl, Nat.le_of_ble_eq_true rfl⟩ (fun r_2 Φ4 sz2 st2 hp2 hs2 => ?_)
    obtain ⟨ha1, hq2, hI4, hF2⟩ := hp2
    subst sz2
    replace hI4 : Im G x (rd, NN, fl, pe, le, nx, il, qu, kn, ec, nu, va) Φ4 := hI4
    rcases ha1 with ⟨rfl, q_1⟩ | ⟨n_9, b_25, q_1, rfl⟩
    · replace hs2 : st2 = [.int (-1)] := hs2
      subst st2
      refine z_istore (lv' := [(6, .int (-1)), (0, .ref x), (1, .int a), (2, .int b), (3, .int d), (4, .int (nI g)), (5, .int e)]) B dX12_see_61 (Nat.le_of_ble_eq_true rfl) rfl ?_
      refine z_iload B dX12_see_63 0 rfl ?_
      refine z_iconst (v := (-1)) B dX12_see_65 rfl ?_
      refine z_icmp_ne (tgt := 174) B dX12_see_66 rfl (fun h9 => absurd (by decide) h9) (fun c_2 => ?_)
      have hk0 : pe = 0 := hk.resolve_right (fun h9 => q_1 h9.2)
      refine z_aload_n B dX12_see_69 rfl 1 rfl ?_
      have h_8 : Φ4 x = some (o_ 14 [.int v_17, .ref (x + 1), .ref (x + 2), .int v_18, .int v_19, .int (nI n_5), .int v_20, .int v_21, .ref (x + 3), .ref (x + 4), .int v_22, .long v_23, .ref (x + 5), .int (nI fl), .int v_24, .long v_25, .long v_32, .long v_27, .long v_28, .ref (x + 6), .ref (x + 7), .int (nI pe), .ref (x + 8), .int (nI le), .ref (x + 9), .ref (x + 10), .int (nI qu), .ref (x + 11), .ref (x + 12), .ref (x + 13), .ref (x + 14), .ref (x + 15), .ref (x + 16), .int (nI n_6), .long v_29, .ref (x + 17), .ref (x + 18), .ref (x + 19), .ref (x + 20), .ref (x + 21), .ref (x + 22), .int (nI n_7), .ref (x + 23), .ref (x + 24), .int (nI n_8), .ref (x + 25), .int (nI il), .int (nI nx), .int ec, .int v_30, .int kn, .int v_31, .int nu, .long va]) := ((hF2 x (fun j9 h8 h7 => (show False from h7).elim)).trans h_6)
      refine z_callV (As := []) (rest := []) B (r_makeRoom G l Φ4 sz x rd fl pe le nx il qu kn ec nu va  hx hI4 (show pe < 24 by omega)) (cwV 0 B.1.2.2.2.2 gX12_see_X12_makeRoom rfl rfl rfl (by decide +kernel) ⟨Nat.le_of_ble_eq_true rfl, Nat.le_of_ble_eq_true rfl⟩) h_8 rfl rfl rfl rfl (Nat.le_of_ble_eq_true rfl) dX12_see_70 ⟨Nat.le_of_ble_eq_true rfl, Nat.le_of_ble_eq_true rfl⟩ (fun r_3 Φ5 sz3 st3 hp3 hs3 => ?_)
      obtain ⟨rfl, hq3, ⟨n_10, n_11, b_26, b_27, hI5⟩, hF3⟩ := hp3
      subst sz3
      replace hs3 : st3 = [] := hs3
      subst st3
      replace hI5 : Im G x (rd, NN, n_10, n_11, le, nx, il, qu, kn, ec, nu, va) Φ5 := hI5
      replace b_26 : n_10 ≤ 11 := b_26
      replace b_27 : n_11 ≤ pe + 1 := b_27
      refine z_aload_n B dX12_see_73 rfl 1 rfl ?_
      obtain ⟨v_33, v_34, v_35, n_12, v_36, v_37, v_38, v_39, v_40, v_41, v_42, v_43, v_44, n_13, v_45, n_14, n_15, v_46, v_47, h_9, b_39, b_28, b_29, b_30, b_31, b_32, b_33, b_34, b_35, b_36, b_37, b_38⟩ := im0 hI5
      replace b_28 : 1 ≤ n_12 := b_28
      replace b_29 : n_12 ≤ 1024 := b_29
      replace b_30 : n_10 ≤ 12 := b_30
      replace b_31 : n_11 ≤ 24 := b_31
      replace b_32 : le ≤ 700 := b_32
      replace b_33 : qu ≤ 12 := b_33
      replace b_34 : n_13 ≤ 8 := b_34
      replace b_35 : n_14 ≤ 24 := b_35
      replace b_36 : n_15 ≤ 24 := b_36
      replace b_37 : il ≤ 700 := b_37
      replace b_38 : nx ≤ 701 := b_38
      have h_10 : Φ5 x = some (o_ 14 [.int v_33, .ref (x + 1), .ref (x + 2), .int v_34, .int v_35, .int (nI n_12), .int v_36, .int v_37, .ref (x + 3), .ref (x + 4), .int v_38, .long v_39, .ref (x + 5), .int (nI n_10), .int v_40, .long v_41, .long v_42, .long v_43, .long v_44, .ref (x + 6), .ref (x + 7), .int (nI n_11), .ref (x + 8), .int (nI le), .ref (x + 9), .ref (x + 10), .int (nI qu), .ref (x + 11), .ref (x + 12), .ref (x + 13), .ref (x + 14), .ref (x + 15), .ref (x + 16), .int (nI n_13), .long v_45, .ref (x + 17), .ref (x + 18), .ref (x + 19), .ref (x + 20), .ref (x + 21), .ref (x + 22), .int (nI n_14), .ref (x + 23), .ref (x + 24), .int (nI n_15), .ref (x + 25), .int (nI il), .int (nI nx), .int ec, .int v_46, .int kn, .int v_47, .int nu, .long va]) := h_9
      refine z_get (ref := "FlowExporterModel") (C := RX12) (T := TX12) (N := 54) (ci := 14) (v := .int (nI n_10)) B (by decide +kernel) rfl 13 (by decide) (by decide +kernel) rfl h_10 rfl dX12_see_74 ?_
      refine z_istore (lv' := [(6, .int (nI n_10)), (0, .ref x), (1, .int a), (2, .int b), (3, .int d), (4, .int (nI g)), (5, .int e)]) B dX12_see_77 (Nat.le_of_ble_eq_true rfl) rfl ?_
      refine z_aload_n B dX12_see_79 rfl 1 rfl ?_
      refine z_dup B dX12_see_80 rfl ?_
      refine z_get (ref := "FlowExporterModel") (C := RX12) (T := TX12) (N := 54) (ci := 14) (v := .int (nI n_10)) B (by decide +kernel) rfl 13 (by decide) (by decide +kernel) rfl h_10 rfl dX12_see_81 ?_
      refine z_iconst (v := 1) B dX12_see_84 rfl ?_
      refine z_iadd B dX12_see_85 ?_
      refine z_top (st1 := [.int (nI (n_10 + 1)), .ref x]) (congrArg (fun w9 : Int32 => ([.int w9, .ref x] : List Value)) (nI_add n_10 1)) ?_
      refine z_put (ref := "FlowExporterModel") (C := RX12) (T := TX12) (N := 54) (ci := 14) (v := .int (nI (n_10 + 1))) B (by decide +kernel) tyX12 tyX12_ok nmX12 rfl 13 (by decide) (by decide +kernel) rfl (Or.inl rfl) h_10 hx rfl rfl (Nat.le_of_ble_eq_true rfl) dX12_see_86 (fun Φ6 hΦ3 => ?_)
      have h_11 : Φ6 x = some (o_ 14 [.int v_33, .ref (x + 1), .ref (x + 2), .int v_34, .int v_35, .int (nI n_12), .int v_36, .int v_37, .ref (x + 3), .ref (x + 4), .int v_38, .long v_39, .ref (x + 5), .int (nI (n_10 + 1)), .int v_40, .long v_41, .long v_42, .long v_43, .long v_44, .ref (x + 6), .ref (x + 7), .int (nI n_11), .ref (x + 8), .int (nI le), .ref (x + 9), .ref (x + 10), .int (nI qu), .ref (x + 11), .ref (x + 12), .ref (x + 13), .ref (x + 14), .ref (x + 15), .ref (x + 16), .int (nI n_13), .long v_45, .ref (x + 17), .ref (x + 18), .ref (x + 19), .ref (x + 20), .ref (x + 21), .ref (x + 22), .int (nI n_14), .ref (x + 23), .ref (x + 24), .int (nI n_15), .ref (x + 25), .int (nI il), .int (nI nx), .int ec, .int v_46, .int kn, .int v_47, .int nu, .long va]) := fset_at hΦ3
      have hI6 : Im G x (rd, NN, n_10 + 1, n_11, le, nx, il, qu, kn, ec, nu, va) Φ6 := Im.put0 hI5 hΦ3 ⟨v_33, v_34, v_35, n_12, v_36, v_37, v_38, v_39, v_40, v_41, v_42, v_43, v_44, n_13, v_45, n_14, n_15, v_46, v_47, rfl, b_39, (show 1 ≤ n_12 by omega), (show n_12 ≤ 1024 by omega), (show (n_10 + 1) ≤ 12 by omega), (show n_11 ≤ 24 by omega), (show le ≤ 700 by omega), (show qu ≤ 12 by omega), (show n_13 ≤ 8 by omega), (show n_14 ≤ 24 by omega), (show n_15 ≤ 24 by omega), (show il ≤ 700 by omega), (show nx ≤ 701 by omega)⟩
      refine z_bipush (v := 8) B dX12_see_89 rfl ?_
      refine z_iload B dX12_see_91 0 rfl ?_
      refine z_imul B dX12_see_93 ?_
      refine z_top (st1 := [.int (nI (8 * n_10))]) (congrArg (fun w9 : Int32 => ([.int w9] : List Value)) (nI_mul 8 n_10)) ?_
      refine z_istore (lv' := [(7, .int (nI (8 * n_10))), (6, .int (nI n_10)), (0, .ref x), (1, .int a), (2, .int b), (3, .int d), (4, .int (nI g)), (5, .int e)]) B dX12_see_94 (Nat.le_of_ble_eq_true rfl) rfl ?_
      refine z_aload_n B dX12_see_96 rfl 2 rfl ?_
      refine z_get (ref := "FlowExporterModel") (C := RX12) (T := TX12) (N := 54) (ci := 14) (v := .ref (x + 5)) B (by decide +kernel) rfl 12 (by decide) (by decide +kernel) rfl h_11 rfl dX12_see_97 ?_
      refine z_iload B dX12_see_100 0 rfl ?_
      refine z_iload_n B dX12_see_102 rfl 3 rfl ?_
      refine z_i2l (v := a.toInt64) B dX12_see_103 rfl ?_
      obtain ⟨f_1, h_12, r_4⟩ := imk (k := 5) hI6
      replace r_4 : CC f_1 := r_4
      have h_13 : Φ6 (x + 5) = some (al_ G 96 f_1) := h_12
      refine z_last B h_13 (Nat.le_trans hx (Nat.le_add_right x 5)) (vp_in_nI (by omega) (by omega)) dX12_see_104 (fun Φ7 hΦ4 => ?_)
      have h_14 : Φ7 (x + 5) = some (al_ G 96 (vp_updL f_1 (nI (8 * n_10)).toNatClampNeg a.toInt64)) := fset_at hΦ4
      have hI7 : Im G x (rd, NN, n_10 + 1, n_11, le, nx, il, qu, kn, ec, nu, va) Φ7 := Im.put (k := 5) hI6 hΦ4 ⟨_, rfl, CC.up r_4 (by rw [nI_clamp (by omega)]; omega)⟩
      have r_5 : CC (vp_updL f_1 (nI (8 * n_10)).toNatClampNeg a.toInt64) := CC.up r_4 (by rw [nI_clamp (by omega)]; omega)
      refine z_aload_n B dX12_see_105 rfl 2 rfl ?_
      have h_15 : Φ7 x = some (o_ 14 [.int v_33, .ref (x + 1), .ref (x + 2), .int v_34, .int v_35, .int (nI n_12), .int v_36, .int v_37, .ref (x + 3), .ref (x + 4), .int v_38, .long v_39, .ref (x + 5), .int (nI (n_10 + 1)), .int v_40, .long v_41, .long v_42, .long v_43, .long v_44, .ref (x + 6), .ref (x + 7), .int (nI n_11), .ref (x + 8), .int (nI le), .ref (x + 9), .ref (x + 10), .int (nI qu), .ref (x + 11), .ref (x + 12), .ref (x + 13), .ref (x + 14), .ref (x + 15), .ref (x + 16), .int (nI n_13), .long v_45, .ref (x + 17), .ref (x + 18), .ref (x + 19), .ref (x + 20), .ref (x + 21), .ref (x + 22), .int (nI n_14), .ref (x + 23), .ref (x + 24), .int (nI n_15), .ref (x + 25), .int (nI il), .int (nI nx), .int ec, .int v_46, .int kn, .int v_47, .int nu, .long va]) := ((fset_fr hΦ4 (ne_off (x := x) (i := 0) (j := 5) rfl)).trans h_11)
      refine z_get (ref := "FlowExporterModel") (C := RX12) (T := TX12) (N := 54) (ci := 14) (v := .ref (x + 5)) B (by decide +kernel) rfl 12 (by decide) (by decide +kernel) rfl h_15 rfl dX12_see_106 ?_
      refine z_iload B dX12_see_109 0 rfl ?_
      refine z_iconst (v := 1) B dX12_see_111 rfl ?_
      refine z_iadd B dX12_see_112 ?_
      refine z_top (st1 := [.int (nI (8 * n_10 + 1)), .ref (x + 5)]) (congrArg (fun w9 : Int32 => ([.int w9, .ref (x + 5)] : List Value)) (nI_add (8 * n_10) 1)) ?_
      refine z_iload_n B dX12_see_113 rfl 4 rfl ?_
      refine z_i2l (v := b.toInt64) B dX12_see_114 rfl ?_
      refine z_last B h_14 (Nat.le_trans hx (Nat.le_add_right x 5)) (vp_in_nI (by omega) (by omega)) dX12_see_115 (fun Φ8 hΦ5 => ?_)
      have h_16 : Φ8 (x + 5) = some (al_ G 96 (vp_updL (vp_updL f_1 (nI (8 * n_10)).toNatClampNeg a.toInt64) (nI (8 * n_10 + 1)).toNatClampNeg b.toInt64)) := fset_at hΦ5
      have hI8 : Im G x (rd, NN, n_10 + 1, n_11, le, nx, il, qu, kn, ec, nu, va) Φ8 := Im.put (k := 5) hI7 hΦ5 ⟨_, rfl, CC.up r_5 (by rw [nI_clamp (by omega)]; omega)⟩
      have r_6 : CC (vp_updL (vp_updL f_1 (nI (8 * n_10)).toNatClampNeg a.toInt64) (nI (8 * n_10 + 1)).toNatClampNeg b.toInt64) := CC.up r_5 (by rw [nI_clamp (by omega)]; omega)
      refine z_aload_n B dX12_see_116 rfl 2 rfl ?_
      have h_17 : Φ8 x = some (o_ 14 [.int v_33, .ref (x + 1), .ref (x + 2), .int v_34, .int v_35, .int (nI n_12), .int v_36, .int v_37, .ref (x + 3), .ref (x + 4), .int v_38, .long v_39, .ref (x + 5), .int (nI (n_10 + 1)), .int v_40, .long v_41, .long v_42, .long v_43, .long v_44, .ref (x + 6), .ref (x + 7), .int (nI n_11), .ref (x + 8), .int (nI le), .ref (x + 9), .ref (x + 10), .int (nI qu), .ref (x + 11), .ref (x + 12), .ref (x + 13), .ref (x + 14), .ref (x + 15), .ref (x + 16), .int (nI n_13), .long v_45, .ref (x + 17), .ref (x + 18), .ref (x + 19), .ref (x + 20), .ref (x + 21), .ref (x + 22), .int (nI n_14), .ref (x + 23), .ref (x + 24), .int (nI n_15), .ref (x + 25), .int (nI il), .int (nI nx), .int ec, .int v_46, .int kn, .int v_47, .int nu, .long va]) := ((fset_fr hΦ5 (ne_off (x := x) (i := 0) (j := 5) rfl)).trans h_15)
      refine z_get (ref := "FlowExporterModel") (C := RX12) (T := TX12) (N := 54) (ci := 14) (v := .ref (x + 5)) B (by decide +kernel) rfl 12 (by decide) (by decide +kernel) rfl h_17 rfl dX12_see_117 ?_
      refine z_iload B dX12_see_120 0 rfl ?_
      refine z_iconst (v := 2) B dX12_see_122 rfl ?_
      refine z_iadd B dX12_see_123 ?_
      refine z_top (st1 := [.int (nI (8 * n_10 + 2)), .ref (x + 5)]) (congrArg (fun w9 : Int32 => ([.int w9, .ref (x + 5)] : List Value)) (nI_add (8 * n_10) 2)) ?_
      refine z_iload_n B dX12_see_124 rfl 5 rfl ?_
      refine z_i2l (v := d.toInt64) B dX12_see_125 rfl ?_
      refine z_last B h_16 (Nat.le_trans hx (Nat.le_add_right x 5)) (vp_in_nI (by omega) (by omega)) dX12_see_126 (fun Φ9 hΦ6 => ?_)
      have h_18 : Φ9 (x + 5) = some (al_ G 96 (vp_updL (vp_updL (vp_updL f_1 (nI (8 * n_10)).toNatClampNeg a.toInt64) (nI (8 * n_10 + 1)).toNatClampNeg b.toInt64) (nI (8 * n_10 + 2)).toNatClampNeg d.toInt64)) := fset_at hΦ6
      have hI9 : Im G x (rd, NN, n_10 + 1, n_11, le, nx, il, qu, kn, ec, nu, va) Φ9 := Im.put (k := 5) hI8 hΦ6 ⟨_, rfl, CC.up r_6 (by rw [nI_clamp (by omega)]; omega)⟩
      have r_7 : CC (vp_updL (vp_updL (vp_updL f_1 (nI (8 * n_10)).toNatClampNeg a.toInt64) (nI (8 * n_10 + 1)).toNatClampNeg b.toInt64) (nI (8 * n_10 + 2)).toNatClampNeg d.toInt64) := CC.up r_6 (by rw [nI_clamp (by omega)]; omega)
      refine z_aload_n B dX12_see_127 rfl 2 rfl ?_
      have h_19 : Φ9 x = some (o_ 14 [.int v_33, .ref (x + 1), .ref (x + 2), .int v_34, .int v_35, .int (nI n_12), .int v_36, .int v_37, .ref (x + 3), .ref (x + 4), .int v_38, .long v_39, .ref (x + 5), .int (nI (n_10 + 1)), .int v_40, .long v_41, .long v_42, .long v_43, .long v_44, .ref (x + 6), .ref (x + 7), .int (nI n_11), .ref (x + 8), .int (nI le), .ref (x + 9), .ref (x + 10), .int (nI qu), .ref (x + 11), .ref (x + 12), .ref (x + 13), .ref (x + 14), .ref (x + 15), .ref (x + 16), .int (nI n_13), .long v_45, .ref (x + 17), .ref (x + 18), .ref (x + 19), .ref (x + 20), .ref (x + 21), .ref (x + 22), .int (nI n_14), .ref (x + 23), .ref (x + 24), .int (nI n_15), .ref (x + 25), .int (nI il), .int (nI nx), .int ec, .int v_46, .int kn, .int v_47, .int nu, .long va]) := ((fset_fr hΦ6 (ne_off (x := x) (i := 0) (j := 5) rfl)).trans h_17)
      refine z_get (ref := "FlowExporterModel") (C := RX12) (T := TX12) (N := 54) (ci := 14) (v := .ref (x + 5)) B (by decide +kernel) rfl 12 (by decide) (by decide +kernel) rfl h_19 rfl dX12_see_128 ?_
      refine z_iload B dX12_see_131 0 rfl ?_
      refine z_iconst (v := 3) B dX12_see_133 rfl ?_
      refine z_iadd B dX12_see_134 ?_
      refine z_top (st1 := [.int (nI (8 * n_10 + 3)), .ref (x + 5)]) (congrArg (fun w9 : Int32 => ([.int w9, .ref (x + 5)] : List Value)) (nI_add (8 * n_10) 3)) ?_
      refine z_iload B dX12_see_135 6 rfl ?_
      refine z_i2l (v := (nI g).toInt64) B dX12_see_137 rfl ?_
      refine z_last B h_18 (Nat.le_trans hx (Nat.le_add_right x 5)) (vp_in_nI (by omega) (by omega)) dX12_see_138 (fun Φ10 hΦ7 => ?_)
      have h_20 : Φ10 (x + 5) = some (al_ G 96 (vp_updL (vp_updL (vp_updL (vp_updL f_1 (nI (8 * n_10)).toNatClampNeg a.toInt64) (nI (8 * n_10 + 1)).toNatClampNeg b.toInt64) (nI (8 * n_10 + 2)).toNatClampNeg d.toInt64) (nI (8 * n_10 + 3)).toNatClampNeg ((nI g).toInt64))) := fset_at hΦ7
      have hI10 : Im G x (rd, NN, n_10 + 1, n_11, le, nx, il, qu, kn, ec, nu, va) Φ10 := Im.put (k := 5) hI9 hΦ7 ⟨_, rfl, CC.up3 (n := g) r_7 (by omega) (toL (by omega))⟩
      have r_8 : CC (vp_updL (vp_updL (vp_updL (vp_updL f_1 (nI (8 * n_10)).toNatClampNeg a.toInt64) (nI (8 * n_10 + 1)).toNatClampNeg b.toInt64) (nI (8 * n_10 + 2)).toNatClampNeg d.toInt64) (nI (8 * n_10 + 3)).toNatClampNeg ((nI g).toInt64)) := CC.up3 (n := g) r_7 (by omega) (toL (by omega))
      refine z_aload_n B dX12_see_139 rfl 2 rfl ?_
      have h_21 : Φ10 x = some (o_ 14 [.int v_33, .ref (x + 1), .ref (x + 2), .int v_34, .int v_35, .int (nI n_12), .int v_36, .int v_37, .ref (x + 3), .ref (x + 4), .int v_38, .long v_39, .ref (x + 5), .int (nI (n_10 + 1)), .int v_40, .long v_41, .long v_42, .long v_43, .long v_44, .ref (x + 6), .ref (x + 7), .int (nI n_11), .ref (x + 8), .int (nI le), .ref (x + 9), .ref (x + 10), .int (nI qu), .ref (x + 11), .ref (x + 12), .ref (x + 13), .ref (x + 14), .ref (x + 15), .ref (x + 16), .int (nI n_13), .long v_45, .ref (x + 17), .ref (x + 18), .ref (x + 19), .ref (x + 20), .ref (x + 21), .ref (x + 22), .int (nI n_14), .ref (x + 23), .ref (x + 24), .int (nI n_15), .ref (x + 25), .int (nI il), .int (nI nx), .int ec, .int v_46, .int kn, .int v_47, .int nu, .long va]) := ((fset_fr hΦ7 (ne_off (x := x) (i := 0) (j := 5) rfl)).trans h_19)
      refine z_get (ref := "FlowExporterModel") (C := RX12) (T := TX12) (N := 54) (ci := 14) (v := .ref (x + 5)) B (by decide +kernel) rfl 12 (by decide) (by decide +kernel) rfl h_21 rfl dX12_see_140 ?_
      refine z_iload B dX12_see_143 0 rfl ?_
      refine z_iconst (v := 4) B dX12_see_145 rfl ?_
      refine z_iadd B dX12_see_146 ?_
      refine z_top (st1 := [.int (nI (8 * n_10 + 4)), .ref (x + 5)]) (congrArg (fun w9 : Int32 => ([.int w9, .ref (x + 5)] : List Value)) (nI_add (8 * n_10) 4)) ?_
      refine z_lconst (v := 0) B dX12_see_147 rfl ?_
      refine z_last B h_20 (Nat.le_trans hx (Nat.le_add_right x 5)) (vp_in_nI (by omega) (by omega)) dX12_see_148 (fun Φ11 hΦ8 => ?_)
      have h_22 : Φ11 (x + 5) = some (al_ G 96 (vp_updL (vp_updL (vp_updL (vp_updL (vp_updL f_1 (nI (8 * n_10)).toNatClampNeg a.toInt64) (nI (8 * n_10 + 1)).toNatClampNeg b.toInt64) (nI (8 * n_10 + 2)).toNatClampNeg d.toInt64) (nI (8 * n_10 + 3)).toNatClampNeg ((nI g).toInt64)) (nI (8 * n_10 + 4)).toNatClampNeg 0)) := fset_at hΦ8
      have hI11 : Im G x (rd, NN, n_10 + 1, n_11, le, nx, il, qu, kn, ec, nu, va) Φ11 := Im.put (k := 5) hI10 hΦ8 ⟨_, rfl, CC.up r_8 (by rw [nI_clamp (by omega)]; omega)⟩
      have r_9 : CC (vp_updL (vp_updL (vp_updL (vp_updL (vp_updL f_1 (nI (8 * n_10)).toNatClampNeg a.toInt64) (nI (8 * n_10 + 1)).toNatClampNeg b.toInt64) (nI (8 * n_10 + 2)).toNatClampNeg d.toInt64) (nI (8 * n_10 + 3)).toNatClampNeg ((nI g).toInt64)) (nI (8 * n_10 + 4)).toNatClampNeg 0) := CC.up r_8 (by rw [nI_clamp (by omega)]; omega)
      refine z_aload_n B dX12_see_149 rfl 2 rfl ?_
      have h_23 : Φ11 x = some (o_ 14 [.int v_33, .ref (x + 1), .ref (x + 2), .int v_34, .int v_35, .int (nI n_12), .int v_36, .int v_37, .ref (x + 3), .ref (x + 4), .int v_38, .long v_39, .ref (x + 5), .int (nI (n_10 + 1)), .int v_40, .long v_41, .long v_42, .long v_43, .long v_44, .ref (x + 6), .ref (x + 7), .int (nI n_11), .ref (x + 8), .int (nI le), .ref (x + 9), .ref (x + 10), .int (nI qu), .ref (x + 11), .ref (x + 12), .ref (x + 13), .ref (x + 14), .ref (x + 15), .ref (x + 16), .int (nI n_13), .long v_45, .ref (x + 17), .ref (x + 18), .ref (x + 19), .ref (x + 20), .ref (x + 21), .ref (x + 22), .int (nI n_14), .ref (x + 23), .ref (x + 24), .int (nI n_15), .ref (x + 25), .int (nI il), .int (nI nx), .int ec, .int v_46, .int kn, .int v_47, .int nu, .long va]) := ((fset_fr hΦ8 (ne_off (x := x) (i := 0) (j := 5) rfl)).trans h_21)
      refine z_get (ref := "FlowExporterModel") (C := RX12) (T := TX12) (N := 54) (ci := 14) (v := .ref (x + 5)) B (by decide +kernel) rfl 12 (by decide) (by decide +kernel) rfl h_23 rfl dX12_see_150 ?_
      refine z_iload B dX12_see_153 0 rfl ?_
      refine z_iconst (v := 5) B dX12_see_155 rfl ?_
      refine z_iadd B dX12_see_156 ?_
      refine z_top (st1 := [.int (nI (8 * n_10 + 5)), .ref (x + 5)]) (congrArg (fun w9 : Int32 => ([.int w9, .ref (x + 5)] : List Value)) (nI_add (8 * n_10) 5)) ?_
      refine z_lconst (v := 0) B dX12_see_157 rfl ?_
      refine z_last B h_22 (Nat.le_trans hx (Nat.le_add_right x 5)) (vp_in_nI (by omega) (by omega)) dX12_see_158 (fun Φ12 hΦ9 => ?_)
      have h_24 : Φ12 (x + 5) = some (al_ G 96 (vp_updL (vp_updL (vp_updL (vp_updL (vp_updL (vp_updL f_1 (nI (8 * n_10)).toNatClampNeg a.toInt64) (nI (8 * n_10 + 1)).toNatClampNeg b.toInt64) (nI (8 * n_10 + 2)).toNatClampNeg d.toInt64) (nI (8 * n_10 + 3)).toNatClampNeg ((nI g).toInt64)) (nI (8 * n_10 + 4)).toNatClampNeg 0) (nI (8 * n_10 + 5)).toNatClampNeg 0)) := fset_at hΦ9
      have hI12 : Im G x (rd, NN, n_10 + 1, n_11, le, nx, il, qu, kn, ec, nu, va) Φ12 := Im.put (k := 5) hI11 hΦ9 ⟨_, rfl, CC.up r_9 (by rw [nI_clamp (by omega)]; omega)⟩
      have r_10 : CC (vp_updL (vp_updL (vp_updL (vp_updL (vp_updL (vp_updL f_1 (nI (8 * n_10)).toNatClampNeg a.toInt64) (nI (8 * n_10 + 1)).toNatClampNeg b.toInt64) (nI (8 * n_10 + 2)).toNatClampNeg d.toInt64) (nI (8 * n_10 + 3)).toNatClampNeg ((nI g).toInt64)) (nI (8 * n_10 + 4)).toNatClampNeg 0) (nI (8 * n_10 + 5)).toNatClampNeg 0) := CC.up r_9 (by rw [nI_clamp (by omega)]; omega)
      refine z_aload_n B dX12_see_159 rfl 2 rfl ?_
      have h_25 : Φ12 x = some (o_ 14 [.int v_33, .ref (x + 1), .ref (x + 2), .int v_34, .int v_35, .int (nI n_12), .int v_36, .int v_37, .ref (x + 3), .ref (x + 4), .int v_38, .long v_39, .ref (x + 5), .int (nI (n_10 + 1)), .int v_40, .long v_41, .long v_42, .long v_43, .long v_44, .ref (x + 6), .ref (x + 7), .int (nI n_11), .ref (x + 8), .int (nI le), .ref (x + 9), .ref (x + 10), .int (nI qu), .ref (x + 11), .ref (x + 12), .ref (x + 13), .ref (x + 14), .ref (x + 15), .ref (x + 16), .int (nI n_13), .long v_45, .ref (x + 17), .ref (x + 18), .ref (x + 19), .ref (x + 20), .ref (x + 21), .ref (x + 22), .int (nI n_14), .ref (x + 23), .ref (x + 24), .int (nI n_15), .ref (x + 25), .int (nI il), .int (nI nx), .int ec, .int v_46, .int kn, .int v_47, .int nu, .long va]) := ((fset_fr hΦ9 (ne_off (x := x) (i := 0) (j := 5) rfl)).trans h_23)
      refine z_get (ref := "FlowExporterModel") (C := RX12) (T := TX12) (N := 54) (ci := 14) (v := .ref (x + 5)) B (by decide +kernel) rfl 12 (by decide) (by decide +kernel) rfl h_25 rfl dX12_see_160 ?_
      refine z_iload B dX12_see_163 0 rfl ?_
      refine z_bipush (v := 6) B dX12_see_165 rfl ?_
      refine z_iadd B dX12_see_167 ?_
      refine z_top (st1 := [.int (nI (8 * n_10 + 6)), .ref (x + 5)]) (congrArg (fun w9 : Int32 => ([.int w9, .ref (x + 5)] : List Value)) (nI_add (8 * n_10) 6)) ?_
      refine z_aload_n B dX12_see_168 rfl 2 rfl ?_
      refine z_get (ref := "FlowExporterModel") (C := RX12) (T := TX12) (N := 54) (ci := 14) (v := .int v_34) B (by decide +kernel) rfl 3 (by decide) (by decide +kernel) rfl h_25 rfl dX12_see_169 ?_
      refine z_i2l (v := v_34.toInt64) B dX12_see_172 rfl ?_
      refine z_last B h_24 (Nat.le_trans hx (Nat.le_add_right x 5)) (vp_in_nI (by omega) (by omega)) dX12_see_173 (fun Φ13 hΦ10 => ?_)
      have h_26 : Φ13 (x + 5) = some (al_ G 96 (vp_updL (vp_updL (vp_updL (vp_updL (vp_updL (vp_updL (vp_updL f_1 (nI (8 * n_10)).toNatClampNeg a.toInt64) (nI (8 * n_10 + 1)).toNatClampNeg b.toInt64) (nI (8 * n_10 + 2)).toNatClampNeg d.toInt64) (nI (8 * n_10 + 3)).toNatClampNeg ((nI g).toInt64)) (nI (8 * n_10 + 4)).toNatClampNeg 0) (nI (8 * n_10 + 5)).toNatClampNeg 0) (nI (8 * n_10 + 6)).toNatClampNeg v_34.toInt64)) := fset_at hΦ10
      have hI13 : Im G x (rd, NN, n_10 + 1, n_11, le, nx, il, qu, kn, ec, nu, va) Φ13 := Im.put (k := 5) hI12 hΦ10 ⟨_, rfl, CC.up r_10 (by rw [nI_clamp (by omega)]; omega)⟩
      have r_11 : CC (vp_updL (vp_updL (vp_updL (vp_updL (vp_updL (vp_updL (vp_updL f_1 (nI (8 * n_10)).toNatClampNeg a.toInt64) (nI (8 * n_10 + 1)).toNatClampNeg b.toInt64) (nI (8 * n_10 + 2)).toNatClampNeg d.toInt64) (nI (8 * n_10 + 3)).toNatClampNeg ((nI g).toInt64)) (nI (8 * n_10 + 4)).toNatClampNeg 0) (nI (8 * n_10 + 5)).toNatClampNeg 0) (nI (8 * n_10 + 6)).toNatClampNeg v_34.toInt64) := CC.up r_10 (by rw [nI_clamp (by omega)]; omega)
      refine z_aload_n B dX12_see_174 rfl 2 rfl ?_
      have h_27 : Φ13 x = some (o_ 14 [.int v_33, .ref (x + 1), .ref (x + 2), .int v_34, .int v_35, .int (nI n_12), .int v_36, .int v_37, .ref (x + 3), .ref (x + 4), .int v_38, .long v_39, .ref (x + 5), .int (nI (n_10 + 1)), .int v_40, .long v_41, .long v_42, .long v_43, .long v_44, .ref (x + 6), .ref (x + 7), .int (nI n_11), .ref (x + 8), .int (nI le), .ref (x + 9), .ref (x + 10), .int (nI qu), .ref (x + 11), .ref (x + 12), .ref (x + 13), .ref (x + 14), .ref (x + 15), .ref (x + 16), .int (nI n_13), .long v_45, .ref (x + 17), .ref (x + 18), .ref (x + 19), .ref (x + 20), .ref (x + 21), .ref (x + 22), .int (nI n_14), .ref (x + 23), .ref (x + 24), .int (nI n_15), .ref (x + 25), .int (nI il), .int (nI nx), .int ec, .int v_46, .int kn, .int v_47, .int nu, .long va]) := ((fset_fr hΦ10 (ne_off (x := x) (i := 0) (j := 5) rfl)).trans h_25)
      refine z_get (ref := "FlowExporterModel") (C := RX12) (T := TX12) (N := 54) (ci := 14) (v := .ref (x + 5)) B (by decide +kernel) rfl 12 (by decide) (by decide +kernel) rfl h_27 rfl dX12_see_175 ?_
      refine z_bipush (v := 8) B dX12_see_178 rfl ?_
      refine z_iload B dX12_see_180 1 rfl ?_
      refine z_imul B dX12_see_182 ?_
      refine z_top (st1 := [.int (nI (8 * n_10)), .ref (x + 5)]) (congrArg (fun w9 : Int32 => ([.int w9, .ref (x + 5)] : List Value)) (nI_mul 8 n_10)) ?_
      refine z_iconst (v := 4) B dX12_see_183 rfl ?_
      refine z_iadd B dX12_see_184 ?_
      refine z_top (st1 := [.int (nI (8 * n_10 + 4)), .ref (x + 5)]) (congrArg (fun w9 : Int32 => ([.int w9, .ref (x + 5)] : List Value)) (nI_add (8 * n_10) 4)) ?_
      refine z_dup2_11 B dX12_see_185 rfl rfl ?_
      refine z_lald B h_26 (vp_in_nI (by omega) (by omega)) dX12_see_186 ?_
      refine z_fl (fun v_48 => ?_)
      refine z_lconst (v := 1) B dX12_see_187 rfl ?_
      refine z_ladd B dX12_see_188 ?_
      refine z_fl (fun v_49 => ?_)
      refine z_last B h_26 (Nat.le_trans hx (Nat.le_add_right x 5)) (vp_in_nI (by omega) (by omega)) dX12_see_189 (fun Φ14 hΦ11 => ?_)
      have h_28 : Φ14 (x + 5) = some (al_ G 96 (vp_updL (vp_updL (vp_updL (vp_updL (vp_updL (vp_updL (vp_updL (vp_updL f_1 (nI (8 * n_10)).toNatClampNeg a.toInt64) (nI (8 * n_10 + 1)).toNatClampNeg b.toInt64) (nI (8 * n_10 + 2)).toNatClampNeg d.toInt64) (nI (8 * n_10 + 3)).toNatClampNeg ((nI g).toInt64)) (nI (8 * n_10 + 4)).toNatClampNeg 0) (nI (8 * n_10 + 5)).toNatClampNeg 0) (nI (8 * n_10 + 6)).toNatClampNeg v_34.toInt64) (nI (8 * n_10 + 4)).toNatClampNeg v_49)) := fset_at hΦ11
      have hI14 : Im G x (rd, NN, n_10 + 1, n_11, le, nx, il, qu, kn, ec, nu, va) Φ14 := Im.put (k := 5) hI13 hΦ11 ⟨_, rfl, CC.up r_11 (by rw [nI_clamp (by omega)]; omega)⟩
      have r_12 : CC (vp_updL (vp_updL (vp_updL (vp_updL (vp_updL (vp_updL (vp_updL (vp_updL f_1 (nI (8 * n_10)).toNatClampNeg a.toInt64) (nI (8 * n_10 + 1)).toNatClampNeg b.toInt64) (nI (8 * n_10 + 2)).toNatClampNeg d.toInt64) (nI (8 * n_10 + 3)).toNatClampNeg ((nI g).toInt64)) (nI (8 * n_10 + 4)).toNatClampNeg 0) (nI (8 * n_10 + 5)).toNatClampNeg 0) (nI (8 * n_10 + 6)).toNatClampNeg v_34.toInt64) (nI (8 * n_10 + 4)).toNatClampNeg v_49) := CC.up r_11 (by rw [nI_clamp (by omega)]; omega)
      refine z_aload_n B dX12_see_190 rfl 2 rfl ?_
      have h_29 : Φ14 x = some (o_ 14 [.int v_33, .ref (x + 1), .ref (x + 2), .int v_34, .int v_35, .int (nI n_12), .int v_36, .int v_37, .ref (x + 3), .ref (x + 4), .int v_38, .long v_39, .ref (x + 5), .int (nI (n_10 + 1)), .int v_40, .long v_41, .long v_42, .long v_43, .long v_44, .ref (x + 6), .ref (x + 7), .int (nI n_11), .ref (x + 8), .int (nI le), .ref (x + 9), .ref (x + 10), .int (nI qu), .ref (x + 11), .ref (x + 12), .ref (x + 13), .ref (x + 14), .ref (x + 15), .ref (x + 16), .int (nI n_13), .long v_45, .ref (x + 17), .ref (x + 18), .ref (x + 19), .ref (x + 20), .ref (x + 21), .ref (x + 22), .int (nI n_14), .ref (x + 23), .ref (x + 24), .int (nI n_15), .ref (x + 25), .int (nI il), .int (nI nx), .int ec, .int v_46, .int kn, .int v_47, .int nu, .long va]) := ((fset_fr hΦ11 (ne_off (x := x) (i := 0) (j := 5) rfl)).trans h_27)
      refine z_get (ref := "FlowExporterModel") (C := RX12) (T := TX12) (N := 54) (ci := 14) (v := .ref (x + 5)) B (by decide +kernel) rfl 12 (by decide) (by decide +kernel) rfl h_29 rfl dX12_see_191 ?_
      refine z_bipush (v := 8) B dX12_see_194 rfl ?_
      refine z_iload B dX12_see_196 1 rfl ?_
      refine z_imul B dX12_see_198 ?_
      refine z_top (st1 := [.int (nI (8 * n_10)), .ref (x + 5)]) (congrArg (fun w9 : Int32 => ([.int w9, .ref (x + 5)] : List Value)) (nI_mul 8 n_10)) ?_
      refine z_iconst (v := 5) B dX12_see_199 rfl ?_
      refine z_iadd B dX12_see_200 ?_
      refine z_top (st1 := [.int (nI (8 * n_10 + 5)), .ref (x + 5)]) (congrArg (fun w9 : Int32 => ([.int w9, .ref (x + 5)] : List Value)) (nI_add (8 * n_10) 5)) ?_
      refine z_dup2_11 B dX12_see_201 rfl rfl ?_
      refine z_lald B h_28 (vp_in_nI (by omega) (by omega)) dX12_see_202 ?_
      refine z_fl (fun v_50 => ?_)
      refine z_iload B dX12_see_203 7 rfl ?_
      refine z_i2l (v := e.toInt64) B dX12_see_205 rfl ?_
      refine z_ladd B dX12_see_206 ?_
      refine z_fl (fun v_51 => ?_)
      refine z_last B h_28 (Nat.le_trans hx (Nat.le_add_right x 5)) (vp_in_nI (by omega) (by omega)) dX12_see_207 (fun Φ15 hΦ12 => ?_)
      have h_30 : Φ15 (x + 5) = some (al_ G 96 (vp_updL (vp_updL (vp_updL (vp_updL (vp_updL (vp_updL (vp_updL (vp_updL (vp_updL f_1 (nI (8 * n_10)).toNatClampNeg a.toInt64) (nI (8 * n_10 + 1)).toNatClampNeg b.toInt64) (nI (8 * n_10 + 2)).toNatClampNeg d.toInt64) (nI (8 * n_10 + 3)).toNatClampNeg ((nI g).toInt64)) (nI (8 * n_10 + 4)).toNatClampNeg 0) (nI (8 * n_10 + 5)).toNatClampNeg 0) (nI (8 * n_10 + 6)).toNatClampNeg v_34.toInt64) (nI (8 * n_10 + 4)).toNatClampNeg v_49) (nI (8 * n_10 + 5)).toNatClampNeg v_51)) := fset_at hΦ12
      have hI15 : Im G x (rd, NN, n_10 + 1, n_11, le, nx, il, qu, kn, ec, nu, va) Φ15 := Im.put (k := 5) hI14 hΦ12 ⟨_, rfl, CC.up r_12 (by rw [nI_clamp (by omega)]; omega)⟩
      have r_13 : CC (vp_updL (vp_updL (vp_updL (vp_updL (vp_updL (vp_updL (vp_updL (vp_updL (vp_updL f_1 (nI (8 * n_10)).toNatClampNeg a.toInt64) (nI (8 * n_10 + 1)).toNatClampNeg b.toInt64) (nI (8 * n_10 + 2)).toNatClampNeg d.toInt64) (nI (8 * n_10 + 3)).toNatClampNeg ((nI g).toInt64)) (nI (8 * n_10 + 4)).toNatClampNeg 0) (nI (8 * n_10 + 5)).toNatClampNeg 0) (nI (8 * n_10 + 6)).toNatClampNeg v_34.toInt64) (nI (8 * n_10 + 4)).toNatClampNeg v_49) (nI (8 * n_10 + 5)).toNatClampNeg v_51) := CC.up r_12 (by rw [nI_clamp (by omega)]; omega)
      refine z_aload_n B dX12_see_208 rfl 2 rfl ?_
      have h_31 : Φ15 x = some (o_ 14 [.int v_33, .ref (x + 1), .ref (x + 2), .int v_34, .int v_35, .int (nI n_12), .int v_36, .int v_37, .ref (x + 3), .ref (x + 4), .int v_38, .long v_39, .ref (x + 5), .int (nI (n_10 + 1)), .int v_40, .long v_41, .long v_42, .long v_43, .long v_44, .ref (x + 6), .ref (x + 7), .int (nI n_11), .ref (x + 8), .int (nI le), .ref (x + 9), .ref (x + 10), .int (nI qu), .ref (x + 11), .ref (x + 12), .ref (x + 13), .ref (x + 14), .ref (x + 15), .ref (x + 16), .int (nI n_13), .long v_45, .ref (x + 17), .ref (x + 18), .ref (x + 19), .ref (x + 20), .ref (x + 21), .ref (x + 22), .int (nI n_14), .ref (x + 23), .ref (x + 24), .int (nI n_15), .ref (x + 25), .int (nI il), .int (nI nx), .int ec, .int v_46, .int kn, .int v_47, .int nu, .long va]) := ((fset_fr hΦ12 (ne_off (x := x) (i := 0) (j := 5) rfl)).trans h_29)
      refine z_get (ref := "FlowExporterModel") (C := RX12) (T := TX12) (N := 54) (ci := 14) (v := .ref (x + 5)) B (by decide +kernel) rfl 12 (by decide) (by decide +kernel) rfl h_31 rfl dX12_see_209 ?_
      refine z_bipush (v := 8) B dX12_see_212 rfl ?_
      refine z_iload B dX12_see_214 1 rfl ?_
      refine z_imul B dX12_see_216 ?_
      refine z_top (st1 := [.int (nI (8 * n_10)), .ref (x + 5)]) (congrArg (fun w9 : Int32 => ([.int w9, .ref (x + 5)] : List Value)) (nI_mul 8 n_10)) ?_
      refine z_bipush (v := 7) B dX12_see_217 rfl ?_
      refine z_iadd B dX12_see_219 ?_
      refine z_top (st1 := [.int (nI (8 * n_10 + 7)), .ref (x + 5)]) (congrArg (fun w9 : Int32 => ([.int w9, .ref (x + 5)] : List Value)) (nI_add (8 * n_10) 7)) ?_
      refine z_aload_n B dX12_see_220 rfl 2 rfl ?_
      refine z_get (ref := "FlowExporterModel") (C := RX12) (T := TX12) (N := 54) (ci := 14) (v := .int v_34) B (by decide +kernel) rfl 3 (by decide) (by decide +kernel) rfl h_31 rfl dX12_see_221 ?_
      refine z_i2l (v := v_34.toInt64) B dX12_see_224 rfl ?_
      refine z_last B h_30 (Nat.le_trans hx (Nat.le_add_right x 5)) (vp_in_nI (by omega) (by omega)) dX12_see_225 (fun Φ16 hΦ13 => ?_)
      have h_32 : Φ16 (x + 5) = some (al_ G 96 (vp_updL (vp_updL (vp_updL (vp_updL (vp_updL (vp_updL (vp_updL (vp_updL (vp_updL (vp_updL f_1 (nI (8 * n_10)).toNatClampNeg a.toInt64) (nI (8 * n_10 + 1)).toNatClampNeg b.toInt64) (nI (8 * n_10 + 2)).toNatClampNeg d.toInt64) (nI (8 * n_10 + 3)).toNatClampNeg ((nI g).toInt64)) (nI (8 * n_10 + 4)).toNatClampNeg 0) (nI (8 * n_10 + 5)).toNatClampNeg 0) (nI (8 * n_10 + 6)).toNatClampNeg v_34.toInt64) (nI (8 * n_10 + 4)).toNatClampNeg v_49) (nI (8 * n_10 + 5)).toNatClampNeg v_51) (nI (8 * n_10 + 7)).toNatClampNeg v_34.toInt64)) := fset_at hΦ13
      have hI16 : Im G x (rd, NN, n_10 + 1, n_11, le, nx, il, qu, kn, ec, nu, va) Φ16 := Im.put (k := 5) hI15 hΦ13 ⟨_, rfl, CC.up r_13 (by rw [nI_clamp (by omega)]; omega)⟩
      have r_14 : CC (vp_updL (vp_updL (vp_updL (vp_updL (vp_updL (vp_updL (vp_updL (vp_updL (vp_updL (vp_updL f_1 (nI (8 * n_10)).toNatClampNeg a.toInt64) (nI (8 * n_10 + 1)).toNatClampNeg b.toInt64) (nI (8 * n_10 + 2)).toNatClampNeg d.toInt64) (nI (8 * n_10 + 3)).toNatClampNeg ((nI g).toInt64)) (nI (8 * n_10 + 4)).toNatClampNeg 0) (nI (8 * n_10 + 5)).toNatClampNeg 0) (nI (8 * n_10 + 6)).toNatClampNeg v_34.toInt64) (nI (8 * n_10 + 4)).toNatClampNeg v_49) (nI (8 * n_10 + 5)).toNatClampNeg v_51) (nI (8 * n_10 + 7)).toNatClampNeg v_34.toInt64) := CC.up r_13 (by rw [nI_clamp (by omega)]; omega)
      refine z_iconst (v := 1) B dX12_see_226 rfl ?_
      exact z_ret_z B dX12_see_227 (by decide) ⟨⟨_, rfl, by decide⟩, rfl, ⟨n_10 + 1, n_11, (Or.inr ⟨(show n_11 ≤ 1 by omega), fun fC1 h8 => Eq.subst (motive := fun z9 => InC z9 (n_10 + 1) a b d (nI g)) (al_inj (h_32.symm.trans h8)) ⟨n_10, (show n_10 < n_10 + 1 by omega), (rK.up (rK.up (rK.up (rK.up (rK.up (rK.up (rK.new (n := n_10) (by rw [nI_clamp (by omega)]) (by rw [nI_clamp (by omega)]) (by rw [nI_clamp (by omega)]) (by rw [nI_clamp (by omega)])) (Or.inl (by rw [nI_clamp (by omega)]; omega))) (Or.inl (by rw [nI_clamp (by omega)]; omega))) (Or.inl (by rw [nI_clamp (by omega)]; omega))) (Or.inl (by rw [nI_clamp (by omega)]; omega))) (Or.inl (by rw [nI_clamp (by omega)]; omega))) (Or.inl (by rw [nI_clamp (by omega)]; omega)))⟩⟩), hI16⟩, (fun b9 h9 => ((fset_fr hΦ13 (fun h8 => h9 (5) h8 (show 5 = 0 ∨ 5 = 5 ∨ 5 = 6 ∨ 5 = 7 ∨ 5 = 23 ∨ 5 = 24 by omega))).trans ((fset_fr hΦ12 (fun h8 => h9 (5) h8 (show 5 = 0 ∨ 5 = 5 ∨ 5 = 6 ∨ 5 = 7 ∨ 5 = 23 ∨ 5 = 24 by omega))).trans ((fset_fr hΦ11 (fun h8 => h9 (5) h8 (show 5 = 0 ∨ 5 = 5 ∨ 5 = 6 ∨ 5 = 7 ∨ 5 = 23 ∨ 5 = 24 by omega))).trans ((fset_fr hΦ10 (fun h8 => h9 (5) h8 (show 5 = 0 ∨ 5 = 5 ∨ 5 = 6 ∨ 5 = 7 ∨ 5 = 23 ∨ 5 = 24 by omega))).trans ((fset_fr hΦ9 (fun h8 => h9 (5) h8 (show 5 = 0 ∨ 5 = 5 ∨ 5 = 6 ∨ 5 = 7 ∨ 5 = 23 ∨ 5 = 24 by omega))).trans ((fset_fr hΦ8 (fun h8 => h9 (5) h8 (show 5 = 0 ∨ 5 = 5 ∨ 5 = 6 ∨ 5 = 7 ∨ 5 = 23 ∨ 5 = 24 by omega))).trans ((fset_fr hΦ7 (fun h8 => h9 (5) h8 (show 5 = 0 ∨ 5 = 5 ∨ 5 = 6 ∨ 5 = 7 ∨ 5 = 23 ∨ 5 = 24 by omega))).trans ((fset_fr hΦ6 (fun h8 => h9 (5) h8 (show 5 = 0 ∨ 5 = 5 ∨ 5 = 6 ∨ 5 = 7 ∨ 5 = 23 ∨ 5 = 24 by omega))).trans ((fset_fr hΦ5 (fun h8 => h9 (5) h8 (show 5 = 0 ∨ 5 = 5 ∨ 5 = 6 ∨ 5 = 7 ∨ 5 = 23 ∨ 5 = 24 by omega))).trans ((fset_fr hΦ4 (fun h8 => h9 (5) h8 (show 5 = 0 ∨ 5 = 5 ∨ 5 = 6 ∨ 5 = 7 ∨ 5 = 23 ∨ 5 = 24 by omega))).trans ((fset_fr hΦ3 (fun h8 => h9 (0) h8 (show 0 = 0 ∨ 0 = 5 ∨ 0 = 6 ∨ 0 = 7 ∨ 0 = 23 ∨ 0 = 24 by omega))).trans ((hF3 b9 (fun j9 h8 h7 => h9 j9 h8 (show j9 = 0 ∨ j9 = 5 ∨ j9 = 6 ∨ j9 = 7 ∨ j9 = 23 ∨ j9 = 24 by have h6 : j9 = 0 ∨ j9 = 5 ∨ j9 = 6 ∨ j9 = 7 := h7; omega))).trans ((hF2 b9 (fun j9 h8 h7 => (show False from h7).elim)).trans ((fset_fr hΦ2 (fun h8 => h9 (0) h8 (show 0 = 0 ∨ 0 = 5 ∨ 0 = 6 ∨ 0 = 7 ∨ 0 = 23 ∨ 0 = 24 by omega))).trans ((hF1 b9 (fun j9 h8 h7 => h9 j9 h8 (show j9 = 0 ∨ j9 = 5 ∨ j9 = 6 ∨ j9 = 7 ∨ j9 = 23 ∨ j9 = 24 by have h6 : j9 = 0 ∨ j9 = 23 ∨ j9 = 24 := h7; omega))).trans ((fset_fr hΦ1 (fun h8 => h9 (0) h8 (show 0 = 0 ∨ 0 = 5 ∨ 0 = 6 ∨ 0 = 7 ∨ 0 = 23 ∨ 0 = 24 by omega))).trans rfl)))))))))))))))))⟩
    · replace hs2 : st2 = [.int (nI n_9)] := hs2
      subst st2
      replace b_25 : n_9 < fl := b_25
      replace q_1 : rK fC n_9 a b d (nI g) := q_1
      refine z_istore (lv' := [(6, .int (nI n_9)), (0, .ref x), (1, .int a), (2, .int b), (3, .int d), (4, .int (nI g)), (5, .int e)]) B dX12_see_61 (Nat.le_of_ble_eq_true rfl) rfl ?_
      refine z_iload B dX12_see_63 0 rfl ?_
      refine z_iconst (v := (-1)) B dX12_see_65 rfl ?_
      refine z_icmp_ne (tgt := 174) B dX12_see_66 rfl (fun c_3 => ?_) (fun h9 => absurd h9 (nI_nm1 (n := n_9) (by omega)))
      refine z_aload_n B dX12_see_174 rfl 1 rfl ?_
      have h_33 : Φ4 x = some (o_ 14 [.int v_17, .ref (x + 1), .ref (x + 2), .int v_18, .int v_19, .int (nI n_5), .int v_20, .int v_21, .ref (x + 3), .ref (x + 4), .int v_22, .long v_23, .ref (x + 5), .int (nI fl), .int v_24, .long v_25, .long v_32, .long v_27, .long v_28, .ref (x + 6), .ref (x + 7), .int (nI pe), .ref (x + 8), .int (nI le), .ref (x + 9), .ref (x + 10), .int (nI qu), .ref (x + 11), .ref (x + 12), .ref (x + 13), .ref (x + 14), .ref (x + 15), .ref (x + 16), .int (nI n_6), .long v_29, .ref (x + 17), .ref (x + 18), .ref (x + 19), .ref (x + 20), .ref (x + 21), .ref (x + 22), .int (nI n_7), .ref (x + 23), .ref (x + 24), .int (nI n_8), .ref (x + 25), .int (nI il), .int (nI nx), .int ec, .int v_30, .int kn, .int v_31, .int nu, .long va]) := ((hF2 x (fun j9 h8 h7 => (show False from h7).elim)).trans h_6)
      refine z_get (ref := "FlowExporterModel") (C := RX12) (T := TX12) (N := 54) (ci := 14) (v := .ref (x + 5)) B (by decide +kernel) rfl 12 (by decide) (by decide +kernel) rfl h_33 rfl dX12_see_175 ?_
      refine z_bipush (v := 8) B dX12_see_178 rfl ?_
      refine z_iload B dX12_see_180 0 rfl ?_
      refine z_imul B dX12_see_182 ?_
      refine z_top (st1 := [.int (nI (8 * n_9)), .ref (x + 5)]) (congrArg (fun w9 : Int32 => ([.int w9, .ref (x + 5)] : List Value)) (nI_mul 8 n_9)) ?_
      refine z_iconst (v := 4) B dX12_see_183 rfl ?_
      refine z_iadd B dX12_see_184 ?_
      refine z_top (st1 := [.int (nI (8 * n_9 + 4)), .ref (x + 5)]) (congrArg (fun w9 : Int32 => ([.int w9, .ref (x + 5)] : List Value)) (nI_add (8 * n_9) 4)) ?_
      refine z_dup2_11 B dX12_see_185 rfl rfl ?_
      have h_34 : Φ4 (x + 5) = some (al_ G 96 fC) := ((hF2 (x + 5) (fun j9 h8 h7 => (show False from h7).elim)).trans h_7)
      refine z_lald B h_34 (vp_in_nI (by omega) (by omega)) dX12_see_186 ?_
      refine z_fl (fun v_52 => ?_)
      refine z_lconst (v := 1) B dX12_see_187 rfl ?_
      refine z_ladd B dX12_see_188 ?_
      refine z_fl (fun v_53 => ?_)
      refine z_last B h_34 (Nat.le_trans hx (Nat.le_add_right x 5)) (vp_in_nI (by omega) (by omega)) dX12_see_189 (fun Φ17 hΦ14 => ?_)
      have h_35 : Φ17 (x + 5) = some (al_ G 96 (vp_updL fC (nI (8 * n_9 + 4)).toNatClampNeg v_53)) := fset_at hΦ14
      have hI17 : Im G x (rd, NN, fl, pe, le, nx, il, qu, kn, ec, nu, va) Φ17 := Im.put (k := 5) hI4 hΦ14 ⟨_, rfl, CC.up hC (by rw [nI_clamp (by omega)]; omega)⟩
      have r_15 : CC (vp_updL fC (nI (8 * n_9 + 4)).toNatClampNeg v_53) := CC.up hC (by rw [nI_clamp (by omega)]; omega)
      refine z_aload_n B dX12_see_190 rfl 1 rfl ?_
      have h_36 : Φ17 x = some (o_ 14 [.int v_17, .ref (x + 1), .ref (x + 2), .int v_18, .int v_19, .int (nI n_5), .int v_20, .int v_21, .ref (x + 3), .ref (x + 4), .int v_22, .long v_23, .ref (x + 5), .int (nI fl), .int v_24, .long v_25, .long v_32, .long v_27, .long v_28, .ref (x + 6), .ref (x + 7), .int (nI pe), .ref (x + 8), .int (nI le), .ref (x + 9), .ref (x + 10), .int (nI qu), .ref (x + 11), .ref (x + 12), .ref (x + 13), .ref (x + 14), .ref (x + 15), .ref (x + 16), .int (nI n_6), .long v_29, .ref (x + 17), .ref (x + 18), .ref (x + 19), .ref (x + 20), .ref (x + 21), .ref (x + 22), .int (nI n_7), .ref (x + 23), .ref (x + 24), .int (nI n_8), .ref (x + 25), .int (nI il), .int (nI nx), .int ec, .int v_30, .int kn, .int v_31, .int nu, .long va]) := ((fset_fr hΦ14 (ne_off (x := x) (i := 0) (j := 5) rfl)).trans h_33)
      refine z_get (ref := "FlowExporterModel") (C := RX12) (T := TX12) (N := 54) (ci := 14) (v := .ref (x + 5)) B (by decide +kernel) rfl 12 (by decide) (by decide +kernel) rfl h_36 rfl dX12_see_191 ?_
      refine z_bipush (v := 8) B dX12_see_194 rfl ?_
      refine z_iload B dX12_see_196 0 rfl ?_
      refine z_imul B dX12_see_198 ?_
      refine z_top (st1 := [.int (nI (8 * n_9)), .ref (x + 5)]) (congrArg (fun w9 : Int32 => ([.int w9, .ref (x + 5)] : List Value)) (nI_mul 8 n_9)) ?_
      refine z_iconst (v := 5) B dX12_see_199 rfl ?_
      refine z_iadd B dX12_see_200 ?_
      refine z_top (st1 := [.int (nI (8 * n_9 + 5)), .ref (x + 5)]) (congrArg (fun w9 : Int32 => ([.int w9, .ref (x + 5)] : List Value)) (nI_add (8 * n_9) 5)) ?_
      refine z_dup2_11 B dX12_see_201 rfl rfl ?_
      refine z_lald B h_35 (vp_in_nI (by omega) (by omega)) dX12_see_202 ?_
      refine z_fl (fun v_54 => ?_)
      refine z_iload B dX12_see_203 6 rfl ?_
      refine z_i2l (v := e.toInt64) B dX12_see_205 rfl ?_
      refine z_ladd B dX12_see_206 ?_
      refine z_fl (fun v_55 => ?_)
      refine z_last B h_35 (Nat.le_trans hx (Nat.le_add_right x 5)) (vp_in_nI (by omega) (by omega)) dX12_see_207 (fun Φ18 hΦ15 => ?_)
      have h_37 : Φ18 (x + 5) = some (al_ G 96 (vp_updL (vp_updL fC (nI (8 * n_9 + 4)).toNatClampNeg v_53) (nI (8 * n_9 + 5)).toNatClampNeg v_55)) := fset_at hΦ15
      have hI18 : Im G x (rd, NN, fl, pe, le, nx, il, qu, kn, ec, nu, va) Φ18 := Im.put (k := 5) hI17 hΦ15 ⟨_, rfl, CC.up r_15 (by rw [nI_clamp (by omega)]; omega)⟩
      have r_16 : CC (vp_updL (vp_updL fC (nI (8 * n_9 + 4)).toNatClampNeg v_53) (nI (8 * n_9 + 5)).toNatClampNeg v_55) := CC.up r_15 (by rw [nI_clamp (by omega)]; omega)
      refine z_aload_n B dX12_see_208 rfl 1 rfl ?_
      have h_38 : Φ18 x = some (o_ 14 [.int v_17, .ref (x + 1), .ref (x + 2), .int v_18, .int v_19, .int (nI n_5), .int v_20, .int v_21, .ref (x + 3), .ref (x + 4), .int v_22, .long v_23, .ref (x + 5), .int (nI fl), .int v_24, .long v_25, .long v_32, .long v_27, .long v_28, .ref (x + 6), .ref (x + 7), .int (nI pe), .ref (x + 8), .int (nI le), .ref (x + 9), .ref (x + 10), .int (nI qu), .ref (x + 11), .ref (x + 12), .ref (x + 13), .ref (x + 14), .ref (x + 15), .ref (x + 16), .int (nI n_6), .long v_29, .ref (x + 17), .ref (x + 18), .ref (x + 19), .ref (x + 20), .ref (x + 21), .ref (x + 22), .int (nI n_7), .ref (x + 23), .ref (x + 24), .int (nI n_8), .ref (x + 25), .int (nI il), .int (nI nx), .int ec, .int v_30, .int kn, .int v_31, .int nu, .long va]) := ((fset_fr hΦ15 (ne_off (x := x) (i := 0) (j := 5) rfl)).trans h_36)
      refine z_get (ref := "FlowExporterModel") (C := RX12) (T := TX12) (N := 54) (ci := 14) (v := .ref (x + 5)) B (by decide +kernel) rfl 12 (by decide) (by decide +kernel) rfl h_38 rfl dX12_see_209 ?_
      refine z_bipush (v := 8) B dX12_see_212 rfl ?_
      refine z_iload B dX12_see_214 0 rfl ?_
      refine z_imul B dX12_see_216 ?_
      refine z_top (st1 := [.int (nI (8 * n_9)), .ref (x + 5)]) (congrArg (fun w9 : Int32 => ([.int w9, .ref (x + 5)] : List Value)) (nI_mul 8 n_9)) ?_
      refine z_bipush (v := 7) B dX12_see_217 rfl ?_
      refine z_iadd B dX12_see_219 ?_
      refine z_top (st1 := [.int (nI (8 * n_9 + 7)), .ref (x + 5)]) (congrArg (fun w9 : Int32 => ([.int w9, .ref (x + 5)] : List Value)) (nI_add (8 * n_9) 7)) ?_
      refine z_aload_n B dX12_see_220 rfl 1 rfl ?_
      refine z_get (ref := "FlowExporterModel") (C := RX12) (T := TX12) (N := 54) (ci := 14) (v := .int v_18) B (by decide +kernel) rfl 3 (by decide) (by decide +kernel) rfl h_38 rfl dX12_see_221 ?_
      refine z_i2l (v := v_18.toInt64) B dX12_see_224 rfl ?_
      refine z_last B h_37 (Nat.le_trans hx (Nat.le_add_right x 5)) (vp_in_nI (by omega) (by omega)) dX12_see_225 (fun Φ19 hΦ16 => ?_)
      have h_39 : Φ19 (x + 5) = some (al_ G 96 (vp_updL (vp_updL (vp_updL fC (nI (8 * n_9 + 4)).toNatClampNeg v_53) (nI (8 * n_9 + 5)).toNatClampNeg v_55) (nI (8 * n_9 + 7)).toNatClampNeg v_18.toInt64)) := fset_at hΦ16
      have hI19 : Im G x (rd, NN, fl, pe, le, nx, il, qu, kn, ec, nu, va) Φ19 := Im.put (k := 5) hI18 hΦ16 ⟨_, rfl, CC.up r_16 (by rw [nI_clamp (by omega)]; omega)⟩
      have r_17 : CC (vp_updL (vp_updL (vp_updL fC (nI (8 * n_9 + 4)).toNatClampNeg v_53) (nI (8 * n_9 + 5)).toNatClampNeg v_55) (nI (8 * n_9 + 7)).toNatClampNeg v_18.toInt64) := CC.up r_16 (by rw [nI_clamp (by omega)]; omega)
      refine z_iconst (v := 1) B dX12_see_226 rfl ?_
      exact z_ret_z B dX12_see_227 (by decide) ⟨⟨_, rfl, by decide⟩, rfl, ⟨fl, pe, (Or.inr ⟨(show pe ≤ 1 by omega), fun fC1 h8 => Eq.subst (motive := fun z9 => InC z9 fl a b d (nI g)) (al_inj (h_39.symm.trans h8)) ⟨n_9, (show n_9 < fl by omega), (rK.up (rK.up (rK.up q_1 (Or.inl (by rw [nI_clamp (by omega)]; omega))) (Or.inl (by rw [nI_clamp (by omega)]; omega))) (Or.inl (by rw [nI_clamp (by omega)]; omega)))⟩⟩), hI19⟩, (fun b9 h9 => ((fset_fr hΦ16 (fun h8 => h9 (5) h8 (show 5 = 0 ∨ 5 = 5 ∨ 5 = 6 ∨ 5 = 7 ∨ 5 = 23 ∨ 5 = 24 by omega))).trans ((fset_fr hΦ15 (fun h8 => h9 (5) h8 (show 5 = 0 ∨ 5 = 5 ∨ 5 = 6 ∨ 5 = 7 ∨ 5 = 23 ∨ 5 = 24 by omega))).trans ((fset_fr hΦ14 (fun h8 => h9 (5) h8 (show 5 = 0 ∨ 5 = 5 ∨ 5 = 6 ∨ 5 = 7 ∨ 5 = 23 ∨ 5 = 24 by omega))).trans ((hF2 b9 (fun j9 h8 h7 => (show False from h7).elim)).trans ((fset_fr hΦ2 (fun h8 => h9 (0) h8 (show 0 = 0 ∨ 0 = 5 ∨ 0 = 6 ∨ 0 = 7 ∨ 0 = 23 ∨ 0 = 24 by omega))).trans ((hF1 b9 (fun j9 h8 h7 => h9 j9 h8 (show j9 = 0 ∨ j9 = 5 ∨ j9 = 6 ∨ j9 = 7 ∨ j9 = 23 ∨ j9 = 24 by have h6 : j9 = 0 ∨ j9 = 23 ∨ j9 = 24 := h7; omega))).trans ((fset_fr hΦ1 (fun h8 => h9 (0) h8 (show 0 = 0 ∨ 0 = 5 ∨ 0 = 6 ∨ 0 = 7 ∨ 0 = 23 ∨ 0 = 24 by omega))).trans rfl))))))))⟩
  · have e_2 : ¬ (n_5 ≤ 1) := fun h9 => c_1 ((nI_leI (a := n_5) (b := 1) (by omega) (by omega)).mpr h9)
    refine z_aload_n B dX12_see_29 rfl 0 rfl ?_
    refine z_aload_n B dX12_see_30 rfl 0 rfl ?_
    refine z_get (ref := "FlowExporterModel") (C := RX12) (T := TX12) (N := 54) (ci := 14) (v := .int (nI n_5)) B (by decide +kernel) rfl 5 (by decide) (by decide +kernel) rfl h_5 rfl dX12_see_31 ?_
    refine z_callV (As := [.int (nI n_5)]) (rest := []) B (r_draw G l Φ2 sz x rd fl pe le nx il qu kn ec nu va n_5 hx hI2 (show 1 ≤ n_5 by omega) (show n_5 ≤ 1024 by omega)) (cwV 1 B.1.2.2.2.2 gX12_see_X12_draw rfl rfl rfl (by decide +kernel) ⟨Nat.le_of_ble_eq_true rfl, Nat.le_of_ble_eq_true rfl⟩) h_5 rfl rfl rfl rfl (Nat.le_of_ble_eq_true rfl) dX12_see_34 ⟨Nat.le_of_ble_eq_true rfl, Nat.le_of_ble_eq_true rfl⟩ (fun r_18 Φ20 sz4 st4 hp4 hs4 => ?_)
    obtain ⟨⟨v_56, rfl⟩, hq4, hI20, hF4⟩ := hp4
    subst sz4
    replace hs4 : st4 = [.int v_56] := hs4
    subst st4
    replace hI20 : Im G x (rd, NN, fl, pe, le, nx, il, qu, kn, ec, nu, va) Φ20 := hI20
    refine z_if_eq (tgt := 42) B dX12_see_37 rfl (fun c_4 => ?_) (fun c_4 => ?_)
    · refine z_aload_n B dX12_see_42 rfl 0 rfl ?_
      refine z_dup B dX12_see_43 rfl ?_
      obtain ⟨v_57, v_58, v_59, n_16, v_60, v_61, v_62, v_63, v_64, v_65, v_66, v_67, v_68, n_17, v_69, n_18, n_19, v_70, v_71, h_40, b_51, b_40, b_41, b_42, b_43, b_44, b_45, b_46, b_47, b_48, b_49, b_50⟩ := im0 hI20
      replace b_40 : 1 ≤ n_16 := b_40
      replace b_41 : n_16 ≤ 1024 := b_41
      replace b_42 : fl ≤ 12 := b_42
      replace b_43 : pe ≤ 24 := b_43
      replace b_44 : le ≤ 700 := b_44
      replace b_45 : qu ≤ 12 := b_45
      replace b_46 : n_17 ≤ 8 := b_46
      replace b_47 : n_18 ≤ 24 := b_47
      replace b_48 : n_19 ≤ 24 := b_48
      replace b_49 : il ≤ 700 := b_49
      replace b_50 : nx ≤ 701 := b_50
      have h_41 : Φ20 x = some (o_ 14 [.int v_57, .ref (x + 1), .ref (x + 2), .int v_58, .int v_59, .int (nI n_16), .int v_60, .int v_61, .ref (x + 3), .ref (x + 4), .int v_62, .long v_63, .ref (x + 5), .int (nI fl), .int v_64, .long v_65, .long v_66, .long v_67, .long v_68, .ref (x + 6), .ref (x + 7), .int (nI pe), .ref (x + 8), .int (nI le), .ref (x + 9), .ref (x + 10), .int (nI qu), .ref (x + 11), .ref (x + 12), .ref (x + 13), .ref (x + 14), .ref (x + 15), .ref (x + 16), .int (nI n_17), .long v_69, .ref (x + 17), .ref (x + 18), .ref (x + 19), .ref (x + 20), .ref (x + 21), .ref (x + 22), .int (nI n_18), .ref (x + 23), .ref (x + 24), .int (nI n_19), .ref (x + 25), .int (nI il), .int (nI nx), .int ec, .int v_70, .int kn, .int v_71, .int nu, .long va]) := h_40
      refine z_get (ref := "FlowExporterModel") (C := RX12) (T := TX12) (N := 54) (ci := 14) (v := .long v_66) B (by decide +kernel) rfl 16 (by decide) (by decide +kernel) rfl h_41 rfl dX12_see_44 ?_
      refine z_lconst (v := 1) B dX12_see_47 rfl ?_
      refine z_ladd B dX12_see_48 ?_
      refine z_fl (fun v_72 => ?_)
      refine z_put (ref := "FlowExporterModel") (C := RX12) (T := TX12) (N := 54) (ci := 14) (v := .long v_72) B (by decide +kernel) tyX12 tyX12_ok nmX12 rfl 16 (by decide) (by decide +kernel) rfl (Or.inl rfl) h_41 hx rfl rfl (Nat.le_of_ble_eq_true rfl) dX12_see_49 (fun Φ21 hΦ17 => ?_)
      have h_42 : Φ21 x = some (o_ 14 [.int v_57, .ref (x + 1), .ref (x + 2), .int v_58, .int v_59, .int (nI n_16), .int v_60, .int v_61, .ref (x + 3), .ref (x + 4), .int v_62, .long v_63, .ref (x + 5), .int (nI fl), .int v_64, .long v_65, .long v_72, .long v_67, .long v_68, .ref (x + 6), .ref (x + 7), .int (nI pe), .ref (x + 8), .int (nI le), .ref (x + 9), .ref (x + 10), .int (nI qu), .ref (x + 11), .ref (x + 12), .ref (x + 13), .ref (x + 14), .ref (x + 15), .ref (x + 16), .int (nI n_17), .long v_69, .ref (x + 17), .ref (x + 18), .ref (x + 19), .ref (x + 20), .ref (x + 21), .ref (x + 22), .int (nI n_18), .ref (x + 23), .ref (x + 24), .int (nI n_19), .ref (x + 25), .int (nI il), .int (nI nx), .int ec, .int v_70, .int kn, .int v_71, .int nu, .long va]) := fset_at hΦ17
      have hI21 : Im G x (rd, NN, fl, pe, le, nx, il, qu, kn, ec, nu, va) Φ21 := Im.put0 hI20 hΦ17 ⟨v_57, v_58, v_59, n_16, v_60, v_61, v_62, v_63, v_64, v_65, v_72, v_67, v_68, n_17, v_69, n_18, n_19, v_70, v_71, rfl, b_51, (show 1 ≤ n_16 by omega), (show n_16 ≤ 1024 by omega), (show fl ≤ 12 by omega), (show pe ≤ 24 by omega), (show le ≤ 700 by omega), (show qu ≤ 12 by omega), (show n_17 ≤ 8 by omega), (show n_18 ≤ 24 by omega), (show n_19 ≤ 24 by omega), (show il ≤ 700 by omega), (show nx ≤ 701 by omega)⟩
      refine z_aload_n B dX12_see_52 rfl 0 rfl ?_
      refine z_iload_n B dX12_see_53 rfl 1 rfl ?_
      refine z_iload_n B dX12_see_54 rfl 2 rfl ?_
      refine z_iload_n B dX12_see_55 rfl 3 rfl ?_
      refine z_iload B dX12_see_56 4 rfl ?_
      have h_43 : Φ21 (x + 5) = some (al_ G 96 fC) := ((fset_fr hΦ17 (ne_off (x := x) (i := 5) (j := 0) rfl)).trans ((hF4 (x + 5) (fun j9 h8 h7 => by have h6 : j9 = 0 := h7; omega)).trans ((hF1 (x + 5) (fun j9 h8 h7 => by have h6 : j9 = 0 ∨ j9 = 23 ∨ j9 = 24 := h7; omega)).trans ((fset_fr hΦ1 (ne_off (x := x) (i := 5) (j := 0) rfl)).trans hc0))))
      refine z_callV (As := [.int a, .int b, .int d, .int (nI g)]) (rest := []) B (r_flowOf G l Φ21 sz x rd fl pe le nx il qu kn ec nu va fC a b d (nI g) hx hI21 h_43) (cwV 4 B.1.2.2.2.2 gX12_see_X12_flowOf rfl rfl rfl (by decide +kernel) ⟨Nat.le_of_ble_eq_true rfl, Nat.le_of_ble_eq_true rfl⟩) h_42 rfl rfl rfl rfl (Nat.le_of_ble_eq_true rfl) dX12_see_58 ⟨Nat.le_of_ble_eq_true rfl, Nat.le_of_ble_eq_true rfl⟩ (fun r_19 Φ22 sz5 st5 hp5 hs5 => ?_)
      obtain ⟨ha2, hq5, hI22, hF5⟩ := hp5
      subst sz5
      replace hI22 : Im G x (rd, NN, fl, pe, le, nx, il, qu, kn, ec, nu, va) Φ22 := hI22
      rcases ha2 with ⟨rfl, q_2⟩ | ⟨n_20, b_52, q_2, rfl⟩
      · replace hs5 : st5 = [.int (-1)] := hs5
        subst st5
        refine z_istore (lv' := [(6, .int (-1)), (0, .ref x), (1, .int a), (2, .int b), (3, .int d), (4, .int (nI g)), (5, .int e)]) B dX12_see_61 (Nat.le_of_ble_eq_true rfl) rfl ?_
        refine z_iload B dX12_see_63 0 rfl ?_
        refine z_iconst (v := (-1)) B dX12_see_65 rfl ?_
        refine z_icmp_ne (tgt := 174) B dX12_see_66 rfl (fun h9 => absurd (by decide) h9) (fun c_5 => ?_)
        have hk0 : pe = 0 := hk.resolve_right (fun h9 => q_2 h9.2)
        refine z_aload_n B dX12_see_69 rfl 1 rfl ?_
        have h_44 : Φ22 x = some (o_ 14 [.int v_57, .ref (x + 1), .ref (x + 2), .int v_58, .int v_59, .int (nI n_16), .int v_60, .int v_61, .ref (x + 3), .ref (x + 4), .int v_62, .long v_63, .ref (x + 5), .int (nI fl), .int v_64, .long v_65, .long v_72, .long v_67, .long v_68, .ref (x + 6), .ref (x + 7), .int (nI pe), .ref (x + 8), .int (nI le), .ref (x + 9), .ref (x + 10), .int (nI qu), .ref (x + 11), .ref (x + 12), .ref (x + 13), .ref (x + 14), .ref (x + 15), .ref (x + 16), .int (nI n_17), .long v_69, .ref (x + 17), .ref (x + 18), .ref (x + 19), .ref (x + 20), .ref (x + 21), .ref (x + 22), .int (nI n_18), .ref (x + 23), .ref (x + 24), .int (nI n_19), .ref (x + 25), .int (nI il), .int (nI nx), .int ec, .int v_70, .int kn, .int v_71, .int nu, .long va]) := ((hF5 x (fun j9 h8 h7 => (show False from h7).elim)).trans h_42)
        refine z_callV (As := []) (rest := []) B (r_makeRoom G l Φ22 sz x rd fl pe le nx il qu kn ec nu va  hx hI22 (show pe < 24 by omega)) (cwV 0 B.1.2.2.2.2 gX12_see_X12_makeRoom rfl rfl rfl (by decide +kernel) ⟨Nat.le_of_ble_eq_true rfl, Nat.le_of_ble_eq_true rfl⟩) h_44 rfl rfl rfl rfl (Nat.le_of_ble_eq_true rfl) dX12_see_70 ⟨Nat.le_of_ble_eq_true rfl, Nat.le_of_ble_eq_true rfl⟩ (fun r_20 Φ23 sz6 st6 hp6 hs6 => ?_)
        obtain ⟨rfl, hq6, ⟨n_21, n_22, b_53, b_54, hI23⟩, hF6⟩ := hp6
        subst sz6
        replace hs6 : st6 = [] := hs6
        subst st6
        replace hI23 : Im G x (rd, NN, n_21, n_22, le, nx, il, qu, kn, ec, nu, va) Φ23 := hI23
        replace b_53 : n_21 ≤ 11 := b_53
        replace b_54 : n_22 ≤ pe + 1 := b_54
        refine z_aload_n B dX12_see_73 rfl 1 rfl ?_
        obtain ⟨v_73, v_74, v_75, n_23, v_76, v_77, v_78, v_79, v_80, v_81, v_82, v_83, v_84, n_24, v_85, n_25, n_26, v_86, v_87, h_45, b_66, b_55, b_56, b_57, b_58, b_59, b_60, b_61, b_62, b_63, b_64, b_65⟩ := im0 hI23
        replace b_55 : 1 ≤ n_23 := b_55
        replace b_56 : n_23 ≤ 1024 := b_56
        replace b_57 : n_21 ≤ 12 := b_57
        replace b_58 : n_22 ≤ 24 := b_58
        replace b_59 : le ≤ 700 := b_59
        replace b_60 : qu ≤ 12 := b_60
        replace b_61 : n_24 ≤ 8 := b_61
        replace b_62 : n_25 ≤ 24 := b_62
        replace b_63 : n_26 ≤ 24 := b_63
        replace b_64 : il ≤ 700 := b_64
        replace b_65 : nx ≤ 701 := b_65
        have h_46 : Φ23 x = some (o_ 14 [.int v_73, .ref (x + 1), .ref (x + 2), .int v_74, .int v_75, .int (nI n_23), .int v_76, .int v_77, .ref (x + 3), .ref (x + 4), .int v_78, .long v_79, .ref (x + 5), .int (nI n_21), .int v_80, .long v_81, .long v_82, .long v_83, .long v_84, .ref (x + 6), .ref (x + 7), .int (nI n_22), .ref (x + 8), .int (nI le), .ref (x + 9), .ref (x + 10), .int (nI qu), .ref (x + 11), .ref (x + 12), .ref (x + 13), .ref (x + 14), .ref (x + 15), .ref (x + 16), .int (nI n_24), .long v_85, .ref (x + 17), .ref (x + 18), .ref (x + 19), .ref (x + 20), .ref (x + 21), .ref (x + 22), .int (nI n_25), .ref (x + 23), .ref (x + 24), .int (nI n_26), .ref (x + 25), .int (nI il), .int (nI nx), .int ec, .int v_86, .int kn, .int v_87, .int nu, .long va]) := h_45
        refine z_get (ref := "FlowExporterModel") (C := RX12) (T := TX12) (N := 54) (ci := 14) (v := .int (nI n_21)) B (by decide +kernel) rfl 13 (by decide) (by decide +kernel) rfl h_46 rfl dX12_see_74 ?_
        refine z_istore (lv' := [(6, .int (nI n_21)), (0, .ref x), (1, .int a), (2, .int b), (3, .int d), (4, .int (nI g)), (5, .int e)]) B dX12_see_77 (Nat.le_of_ble_eq_true rfl) rfl ?_
        refine z_aload_n B dX12_see_79 rfl 1 rfl ?_
        refine z_dup B dX12_see_80 rfl ?_
        refine z_get (ref := "FlowExporterModel") (C := RX12) (T := TX12) (N := 54) (ci := 14) (v := .int (nI n_21)) B (by decide +kernel) rfl 13 (by decide) (by decide +kernel) rfl h_46 rfl dX12_see_81 ?_
        refine z_iconst (v := 1) B dX12_see_84 rfl ?_
        refine z_iadd B dX12_see_85 ?_
        refine z_top (st1 := [.int (nI (n_21 + 1)), .ref x]) (congrArg (fun w9 : Int32 => ([.int w9, .ref x] : List Value)) (nI_add n_21 1)) ?_
        refine z_put (ref := "FlowExporterModel") (C := RX12) (T := TX12) (N := 54) (ci := 14) (v := .int (nI (n_21 + 1))) B (by decide +kernel) tyX12 tyX12_ok nmX12 rfl 13 (by decide) (by decide +kernel) rfl (Or.inl rfl) h_46 hx rfl rfl (Nat.le_of_ble_eq_true rfl) dX12_see_86 (fun Φ24 hΦ18 => ?_)
        have h_47 : Φ24 x = some (o_ 14 [.int v_73, .ref (x + 1), .ref (x + 2), .int v_74, .int v_75, .int (nI n_23), .int v_76, .int v_77, .ref (x + 3), .ref (x + 4), .int v_78, .long v_79, .ref (x + 5), .int (nI (n_21 + 1)), .int v_80, .long v_81, .long v_82, .long v_83, .long v_84, .ref (x + 6), .ref (x + 7), .int (nI n_22), .ref (x + 8), .int (nI le), .ref (x + 9), .ref (x + 10), .int (nI qu), .ref (x + 11), .ref (x + 12), .ref (x + 13), .ref (x + 14), .ref (x + 15), .ref (x + 16), .int (nI n_24), .long v_85, .ref (x + 17), .ref (x + 18), .ref (x + 19), .ref (x + 20), .ref (x + 21), .ref (x + 22), .int (nI n_25), .ref (x + 23), .ref (x + 24), .int (nI n_26), .ref (x + 25), .int (nI il), .int (nI nx), .int ec, .int v_86, .int kn, .int v_87, .int nu, .long va]) := fset_at hΦ18
        have hI24 : Im G x (rd, NN, n_21 + 1, n_22, le, nx, il, qu, kn, ec, nu, va) Φ24 := Im.put0 hI23 hΦ18 ⟨v_73, v_74, v_75, n_23, v_76, v_77, v_78, v_79, v_80, v_81, v_82, v_83, v_84, n_24, v_85, n_25, n_26, v_86, v_87, rfl, b_66, (show 1 ≤ n_23 by omega), (show n_23 ≤ 1024 by omega), (show (n_21 + 1) ≤ 12 by omega), (show n_22 ≤ 24 by omega), (show le ≤ 700 by omega), (show qu ≤ 12 by omega), (show n_24 ≤ 8 by omega), (show n_25 ≤ 24 by omega), (show n_26 ≤ 24 by omega), (show il ≤ 700 by omega), (show nx ≤ 701 by omega)⟩
        refine z_bipush (v := 8) B dX12_see_89 rfl ?_
        refine z_iload B dX12_see_91 0 rfl ?_
        refine z_imul B dX12_see_93 ?_
        refine z_top (st1 := [.int (nI (8 * n_21))]) (congrArg (fun w9 : Int32 => ([.int w9] : List Value)) (nI_mul 8 n_21)) ?_
        refine z_istore (lv' := [(7, .int (nI (8 * n_21))), (6, .int (nI n_21)), (0, .ref x), (1, .int a), (2, .int b), (3, .int d), (4, .int (nI g)), (5, .int e)]) B dX12_see_94 (Nat.le_of_ble_eq_true rfl) rfl ?_
        refine z_aload_n B dX12_see_96 rfl 2 rfl ?_
        refine z_get (ref := "FlowExporterModel") (C := RX12) (T := TX12) (N := 54) (ci := 14) (v := .ref (x + 5)) B (by decide +kernel) rfl 12 (by decide) (by decide +kernel) rfl h_47 rfl dX12_see_97 ?_
        refine z_iload B dX12_see_100 0 rfl ?_
        refine z_iload_n B dX12_see_102 rfl 3 rfl ?_
        refine z_i2l (v := a.toInt64) B dX12_see_103 rfl ?_
        obtain ⟨f_2, h_48, r_21⟩ := imk (k := 5) hI24
        replace r_21 : CC f_2 := r_21
        have h_49 : Φ24 (x + 5) = some (al_ G 96 f_2) := h_48
        refine z_last B h_49 (Nat.le_trans hx (Nat.le_add_right x 5)) (vp_in_nI (by omega) (by omega)) dX12_see_104 (fun Φ25 hΦ19 => ?_)
        have h_50 : Φ25 (x + 5) = some (al_ G 96 (vp_updL f_2 (nI (8 * n_21)).toNatClampNeg a.toInt64)) := fset_at hΦ19
        have hI25 : Im G x (rd, NN, n_21 + 1, n_22, le, nx, il, qu, kn, ec, nu, va) Φ25 := Im.put (k := 5) hI24 hΦ19 ⟨_, rfl, CC.up r_21 (by rw [nI_clamp (by omega)]; omega)⟩
        have r_22 : CC (vp_updL f_2 (nI (8 * n_21)).toNatClampNeg a.toInt64) := CC.up r_21 (by rw [nI_clamp (by omega)]; omega)
        refine z_aload_n B dX12_see_105 rfl 2 rfl ?_
        have h_51 : Φ25 x = some (o_ 14 [.int v_73, .ref (x + 1), .ref (x + 2), .int v_74, .int v_75, .int (nI n_23), .int v_76, .int v_77, .ref (x + 3), .ref (x + 4), .int v_78, .long v_79, .ref (x + 5), .int (nI (n_21 + 1)), .int v_80, .long v_81, .long v_82, .long v_83, .long v_84, .ref (x + 6), .ref (x + 7), .int (nI n_22), .ref (x + 8), .int (nI le), .ref (x + 9), .ref (x + 10), .int (nI qu), .ref (x + 11), .ref (x + 12), .ref (x + 13), .ref (x + 14), .ref (x + 15), .ref (x + 16), .int (nI n_24), .long v_85, .ref (x + 17), .ref (x + 18), .ref (x + 19), .ref (x + 20), .ref (x + 21), .ref (x + 22), .int (nI n_25), .ref (x + 23), .ref (x + 24), .int (nI n_26), .ref (x + 25), .int (nI il), .int (nI nx), .int ec, .int v_86, .int kn, .int v_87, .int nu, .long va]) := ((fset_fr hΦ19 (ne_off (x := x) (i := 0) (j := 5) rfl)).trans h_47)
        refine z_get (ref := "FlowExporterModel") (C := RX12) (T := TX12) (N := 54) (ci := 14) (v := .ref (x + 5)) B (by decide +kernel) rfl 12 (by decide) (by decide +kernel) rfl h_51 rfl dX12_see_106 ?_
        refine z_iload B dX12_see_109 0 rfl ?_
        refine z_iconst (v := 1) B dX12_see_111 rfl ?_
        refine z_iadd B dX12_see_112 ?_
        refine z_top (st1 := [.int (nI (8 * n_21 + 1)), .ref (x + 5)]) (congrArg (fun w9 : Int32 => ([.int w9, .ref (x + 5)] : List Value)) (nI_add (8 * n_21) 1)) ?_
        refine z_iload_n B dX12_see_113 rfl 4 rfl ?_
        refine z_i2l (v := b.toInt64) B dX12_see_114 rfl ?_
        refine z_last B h_50 (Nat.le_trans hx (Nat.le_add_right x 5)) (vp_in_nI (by omega) (by omega)) dX12_see_115 (fun Φ26 hΦ20 => ?_)
        have h_52 : Φ26 (x + 5) = some (al_ G 96 (vp_updL (vp_updL f_2 (nI (8 * n_21)).toNatClampNeg a.toInt64) (nI (8 * n_21 + 1)).toNatClampNeg b.toInt64)) := fset_at hΦ20
        have hI26 : Im G x (rd, NN, n_21 + 1, n_22, le, nx, il, qu, kn, ec, nu, va) Φ26 := Im.put (k := 5) hI25 hΦ20 ⟨_, rfl, CC.up r_22 (by rw [nI_clamp (by omega)]; omega)⟩
        have r_23 : CC (vp_updL (vp_updL f_2 (nI (8 * n_21)).toNatClampNeg a.toInt64) (nI (8 * n_21 + 1)).toNatClampNeg b.toInt64) := CC.up r_22 (by rw [nI_clamp (by omega)]; omega)
        refine z_aload_n B dX12_see_116 rfl 2 rfl ?_
        have h_53 : Φ26 x = some (o_ 14 [.int v_73, .ref (x + 1), .ref (x + 2), .int v_74, .int v_75, .int (nI n_23), .int v_76, .int v_77, .ref (x + 3), .ref (x + 4), .int v_78, .long v_79, .ref (x + 5), .int (nI (n_21 + 1)), .int v_80, .long v_81, .long v_82, .long v_83, .long v_84, .ref (x + 6), .ref (x + 7), .int (nI n_22), .ref (x + 8), .int (nI le), .ref (x + 9), .ref (x + 10), .int (nI qu), .ref (x + 11), .ref (x + 12), .ref (x + 13), .ref (x + 14), .ref (x + 15), .ref (x + 16), .int (nI n_24), .long v_85, .ref (x + 17), .ref (x + 18), .ref (x + 19), .ref (x + 20), .ref (x + 21), .ref (x + 22), .int (nI n_25), .ref (x + 23), .ref (x + 24), .int (nI n_26), .ref (x + 25), .int (nI il), .int (nI nx), .int ec, .int v_86, .int kn, .int v_87, .int nu, .long va]) := ((fset_fr hΦ20 (ne_off (x := x) (i := 0) (j := 5) rfl)).trans h_51)
        refine z_get (ref := "FlowExporterModel") (C := RX12) (T := TX12) (N := 54) (ci := 14) (v := .ref (x + 5)) B (by decide +kernel) rfl 12 (by decide) (by decide +kernel) rfl h_53 rfl dX12_see_117 ?_
        refine z_iload B dX12_see_120 0 rfl ?_
        refine z_iconst (v := 2) B dX12_see_122 rfl ?_
        refine z_iadd B dX12_see_123 ?_
        refine z_top (st1 := [.int (nI (8 * n_21 + 2)), .ref (x + 5)]) (congrArg (fun w9 : Int32 => ([.int w9, .ref (x + 5)] : List Value)) (nI_add (8 * n_21) 2)) ?_
        refine z_iload_n B dX12_see_124 rfl 5 rfl ?_
        refine z_i2l (v := d.toInt64) B dX12_see_125 rfl ?_
        refine z_last B h_52 (Nat.le_trans hx (Nat.le_add_right x 5)) (vp_in_nI (by omega) (by omega)) dX12_see_126 (fun Φ27 hΦ21 => ?_)
        have h_54 : Φ27 (x + 5) = some (al_ G 96 (vp_updL (vp_updL (vp_updL f_2 (nI (8 * n_21)).toNatClampNeg a.toInt64) (nI (8 * n_21 + 1)).toNatClampNeg b.toInt64) (nI (8 * n_21 + 2)).toNatClampNeg d.toInt64)) := fset_at hΦ21
        have hI27 : Im G x (rd, NN, n_21 + 1, n_22, le, nx, il, qu, kn, ec, nu, va) Φ27 := Im.put (k := 5) hI26 hΦ21 ⟨_, rfl, CC.up r_23 (by rw [nI_clamp (by omega)]; omega)⟩
        have r_24 : CC (vp_updL (vp_updL (vp_updL f_2 (nI (8 * n_21)).toNatClampNeg a.toInt64) (nI (8 * n_21 + 1)).toNatClampNeg b.toInt64) (nI (8 * n_21 + 2)).toNatClampNeg d.toInt64) := CC.up r_23 (by rw [nI_clamp (by omega)]; omega)
        refine z_aload_n B dX12_see_127 rfl 2 rfl ?_
        have h_55 : Φ27 x = some (o_ 14 [.int v_73, .ref (x + 1), .ref (x + 2), .int v_74, .int v_75, .int (nI n_23), .int v_76, .int v_77, .ref (x + 3), .ref (x + 4), .int v_78, .long v_79, .ref (x + 5), .int (nI (n_21 + 1)), .int v_80, .long v_81, .long v_82, .long v_83, .long v_84, .ref (x + 6), .ref (x + 7), .int (nI n_22), .ref (x + 8), .int (nI le), .ref (x + 9), .ref (x + 10), .int (nI qu), .ref (x + 11), .ref (x + 12), .ref (x + 13), .ref (x + 14), .ref (x + 15), .ref (x + 16), .int (nI n_24), .long v_85, .ref (x + 17), .ref (x + 18), .ref (x + 19), .ref (x + 20), .ref (x + 21), .ref (x + 22), .int (nI n_25), .ref (x + 23), .ref (x + 24), .int (nI n_26), .ref (x + 25), .int (nI il), .int (nI nx), .int ec, .int v_86, .int kn, .int v_87, .int nu, .long va]) := ((fset_fr hΦ21 (ne_off (x := x) (i := 0) (j := 5) rfl)).trans h_53)
        refine z_get (ref := "FlowExporterModel") (C := RX12) (T := TX12) (N := 54) (ci := 14) (v := .ref (x + 5)) B (by decide +kernel) rfl 12 (by decide) (by decide +kernel) rfl h_55 rfl dX12_see_128 ?_
        refine z_iload B dX12_see_131 0 rfl ?_
        refine z_iconst (v := 3) B dX12_see_133 rfl ?_
        refine z_iadd B dX12_see_134 ?_
        refine z_top (st1 := [.int (nI (8 * n_21 + 3)), .ref (x + 5)]) (congrArg (fun w9 : Int32 => ([.int w9, .ref (x + 5)] : List Value)) (nI_add (8 * n_21) 3)) ?_
        refine z_iload B dX12_see_135 6 rfl ?_
        refine z_i2l (v := (nI g).toInt64) B dX12_see_137 rfl ?_
        refine z_last B h_54 (Nat.le_trans hx (Nat.le_add_right x 5)) (vp_in_nI (by omega) (by omega)) dX12_see_138 (fun Φ28 hΦ22 => ?_)
        have h_56 : Φ28 (x + 5) = some (al_ G 96 (vp_updL (vp_updL (vp_updL (vp_updL f_2 (nI (8 * n_21)).toNatClampNeg a.toInt64) (nI (8 * n_21 + 1)).toNatClampNeg b.toInt64) (nI (8 * n_21 + 2)).toNatClampNeg d.toInt64) (nI (8 * n_21 + 3)).toNatClampNeg ((nI g).toInt64))) := fset_at hΦ22
        have hI28 : Im G x (rd, NN, n_21 + 1, n_22, le, nx, il, qu, kn, ec, nu, va) Φ28 := Im.put (k := 5) hI27 hΦ22 ⟨_, rfl, CC.up3 (n := g) r_24 (by omega) (toL (by omega))⟩
        have r_25 : CC (vp_updL (vp_updL (vp_updL (vp_updL f_2 (nI (8 * n_21)).toNatClampNeg a.toInt64) (nI (8 * n_21 + 1)).toNatClampNeg b.toInt64) (nI (8 * n_21 + 2)).toNatClampNeg d.toInt64) (nI (8 * n_21 + 3)).toNatClampNeg ((nI g).toInt64)) := CC.up3 (n := g) r_24 (by omega) (toL (by omega))
        refine z_aload_n B dX12_see_139 rfl 2 rfl ?_
        have h_57 : Φ28 x = some (o_ 14 [.int v_73, .ref (x + 1), .ref (x + 2), .int v_74, .int v_75, .int (nI n_23), .int v_76, .int v_77, .ref (x + 3), .ref (x + 4), .int v_78, .long v_79, .ref (x + 5), .int (nI (n_21 + 1)), .int v_80, .long v_81, .long v_82, .long v_83, .long v_84, .ref (x + 6), .ref (x + 7), .int (nI n_22), .ref (x + 8), .int (nI le), .ref (x + 9), .ref (x + 10), .int (nI qu), .ref (x + 11), .ref (x + 12), .ref (x + 13), .ref (x + 14), .ref (x + 15), .ref (x + 16), .int (nI n_24), .long v_85, .ref (x + 17), .ref (x + 18), .ref (x + 19), .ref (x + 20), .ref (x + 21), .ref (x + 22), .int (nI n_25), .ref (x + 23), .ref (x + 24), .int (nI n_26), .ref (x + 25), .int (nI il), .int (nI nx), .int ec, .int v_86, .int kn, .int v_87, .int nu, .long va]) := ((fset_fr hΦ22 (ne_off (x := x) (i := 0) (j := 5) rfl)).trans h_55)
        refine z_get (ref := "FlowExporterModel") (C := RX12) (T := TX12) (N := 54) (ci := 14) (v := .ref (x + 5)) B (by decide +kernel) rfl 12 (by decide) (by decide +kernel) rfl h_57 rfl dX12_see_140 ?_
        refine z_iload B dX12_see_143 0 rfl ?_
        refine z_iconst (v := 4) B dX12_see_145 rfl ?_
        refine z_iadd B dX12_see_146 ?_
        refine z_top (st1 := [.int (nI (8 * n_21 + 4)), .ref (x + 5)]) (congrArg (fun w9 : Int32 => ([.int w9, .ref (x + 5)] : List Value)) (nI_add (8 * n_21) 4)) ?_
        refine z_lconst (v := 0) B dX12_see_147 rfl ?_
        refine z_last B h_56 (Nat.le_trans hx (Nat.le_add_right x 5)) (vp_in_nI (by omega) (by omega)) dX12_see_148 (fun Φ29 hΦ23 => ?_)
        have h_58 : Φ29 (x + 5) = some (al_ G 96 (vp_updL (vp_updL (vp_updL (vp_updL (vp_updL f_2 (nI (8 * n_21)).toNatClampNeg a.toInt64) (nI (8 * n_21 + 1)).toNatClampNeg b.toInt64) (nI (8 * n_21 + 2)).toNatClampNeg d.toInt64) (nI (8 * n_21 + 3)).toNatClampNeg ((nI g).toInt64)) (nI (8 * n_21 + 4)).toNatClampNeg 0)) := fset_at hΦ23
        have hI29 : Im G x (rd, NN, n_21 + 1, n_22, le, nx, il, qu, kn, ec, nu, va) Φ29 := Im.put (k := 5) hI28 hΦ23 ⟨_, rfl, CC.up r_25 (by rw [nI_clamp (by omega)]; omega)⟩
        have r_26 : CC (vp_updL (vp_updL (vp_updL (vp_updL (vp_updL f_2 (nI (8 * n_21)).toNatClampNeg a.toInt64) (nI (8 * n_21 + 1)).toNatClampNeg b.toInt64) (nI (8 * n_21 + 2)).toNatClampNeg d.toInt64) (nI (8 * n_21 + 3)).toNatClampNeg ((nI g).toInt64)) (nI (8 * n_21 + 4)).toNatClampNeg 0) := CC.up r_25 (by rw [nI_clamp (by omega)]; omega)
        refine z_aload_n B dX12_see_149 rfl 2 rfl ?_
        have h_59 : Φ29 x = some (o_ 14 [.int v_73, .ref (x + 1), .ref (x + 2), .int v_74, .int v_75, .int (nI n_23), .int v_76, .int v_77, .ref (x + 3), .ref (x + 4), .int v_78, .long v_79, .ref (x + 5), .int (nI (n_21 + 1)), .int v_80, .long v_81, .long v_82, .long v_83, .long v_84, .ref (x + 6), .ref (x + 7), .int (nI n_22), .ref (x + 8), .int (nI le), .ref (x + 9), .ref (x + 10), .int (nI qu), .ref (x + 11), .ref (x + 12), .ref (x + 13), .ref (x + 14), .ref (x + 15), .ref (x + 16), .int (nI n_24), .long v_85, .ref (x + 17), .ref (x + 18), .ref (x + 19), .ref (x + 20), .ref (x + 21), .ref (x + 22), .int (nI n_25), .ref (x + 23), .ref (x + 24), .int (nI n_26), .ref (x + 25), .int (nI il), .int (nI nx), .int ec, .int v_86, .int kn, .int v_87, .int nu, .long va]) := ((fset_fr hΦ23 (ne_off (x := x) (i := 0) (j := 5) rfl)).trans h_57)
        refine z_get (ref := "FlowExporterModel") (C := RX12) (T := TX12) (N := 54) (ci := 14) (v := .ref (x + 5)) B (by decide +kernel) rfl 12 (by decide) (by decide +kernel) rfl h_59 rfl dX12_see_150 ?_
        refine z_iload B dX12_see_153 0 rfl ?_
        refine z_iconst (v := 5) B dX12_see_155 rfl ?_
        refine z_iadd B dX12_see_156 ?_
        refine z_top (st1 := [.int (nI (8 * n_21 + 5)), .ref (x + 5)]) (congrArg (fun w9 : Int32 => ([.int w9, .ref (x + 5)] : List Value)) (nI_add (8 * n_21) 5)) ?_
        refine z_lconst (v := 0) B dX12_see_157 rfl ?_
        refine z_last B h_58 (Nat.le_trans hx (Nat.le_add_right x 5)) (vp_in_nI (by omega) (by omega)) dX12_see_158 (fun Φ30 hΦ24 => ?_)
        have h_60 : Φ30 (x + 5) = some (al_ G 96 (vp_updL (vp_updL (vp_updL (vp_updL (vp_updL (vp_updL f_2 (nI (8 * n_21)).toNatClampNeg a.toInt64) (nI (8 * n_21 + 1)).toNatClampNeg b.toInt64) (nI (8 * n_21 + 2)).toNatClampNeg d.toInt64) (nI (8 * n_21 + 3)).toNatClampNeg ((nI g).toInt64)) (nI (8 * n_21 + 4)).toNatClampNeg 0) (nI (8 * n_21 + 5)).toNatClampNeg 0)) := fset_at hΦ24
        have hI30 : Im G x (rd, NN, n_21 + 1, n_22, le, nx, il, qu, kn, ec, nu, va) Φ30 := Im.put (k := 5) hI29 hΦ24 ⟨_, rfl, CC.up r_26 (by rw [nI_clamp (by omega)]; omega)⟩
        have r_27 : CC (vp_updL (vp_updL (vp_updL (vp_updL (vp_updL (vp_updL f_2 (nI (8 * n_21)).toNatClampNeg a.toInt64) (nI (8 * n_21 + 1)).toNatClampNeg b.toInt64) (nI (8 * n_21 + 2)).toNatClampNeg d.toInt64) (nI (8 * n_21 + 3)).toNatClampNeg ((nI g).toInt64)) (nI (8 * n_21 + 4)).toNatClampNeg 0) (nI (8 * n_21 + 5)).toNatClampNeg 0) := CC.up r_26 (by rw [nI_clamp (by omega)]; omega)
        refine z_aload_n B dX12_see_159 rfl 2 rfl ?_
        have h_61 : Φ30 x = some (o_ 14 [.int v_73, .ref (x + 1), .ref (x + 2), .int v_74, .int v_75, .int (nI n_23), .int v_76, .int v_77, .ref (x + 3), .ref (x + 4), .int v_78, .long v_79, .ref (x + 5), .int (nI (n_21 + 1)), .int v_80, .long v_81, .long v_82, .long v_83, .long v_84, .ref (x + 6), .ref (x + 7), .int (nI n_22), .ref (x + 8), .int (nI le), .ref (x + 9), .ref (x + 10), .int (nI qu), .ref (x + 11), .ref (x + 12), .ref (x + 13), .ref (x + 14), .ref (x + 15), .ref (x + 16), .int (nI n_24), .long v_85, .ref (x + 17), .ref (x + 18), .ref (x + 19), .ref (x + 20), .ref (x + 21), .ref (x + 22), .int (nI n_25), .ref (x + 23), .ref (x + 24), .int (nI n_26), .ref (x + 25), .int (nI il), .int (nI nx), .int ec, .int v_86, .int kn, .int v_87, .int nu, .long va]) := ((fset_fr hΦ24 (ne_off (x := x) (i := 0) (j := 5) rfl)).trans h_59)
        refine z_get (ref := "FlowExporterModel") (C := RX12) (T := TX12) (N := 54) (ci := 14) (v := .ref (x + 5)) B (by decide +kernel) rfl 12 (by decide) (by decide +kernel) rfl h_61 rfl dX12_see_160 ?_
        refine z_iload B dX12_see_163 0 rfl ?_
        refine z_bipush (v := 6) B dX12_see_165 rfl ?_
        refine z_iadd B dX12_see_167 ?_
        refine z_top (st1 := [.int (nI (8 * n_21 + 6)), .ref (x + 5)]) (congrArg (fun w9 : Int32 => ([.int w9, .ref (x + 5)] : List Value)) (nI_add (8 * n_21) 6)) ?_
        refine z_aload_n B dX12_see_168 rfl 2 rfl ?_
        refine z_get (ref := "FlowExporterModel") (C := RX12) (T := TX12) (N := 54) (ci := 14) (v := .int v_74) B (by decide +kernel) rfl 3 (by decide) (by decide +kernel) rfl h_61 rfl dX12_see_169 ?_
        refine z_i2l (v := v_74.toInt64) B dX12_see_172 rfl ?_
        refine z_last B h_60 (Nat.le_trans hx (Nat.le_add_right x 5)) (vp_in_nI (by omega) (by omega)) dX12_see_173 (fun Φ31 hΦ25 => ?_)
        have h_62 : Φ31 (x + 5) = some (al_ G 96 (vp_updL (vp_updL (vp_updL (vp_updL (vp_updL (vp_updL (vp_updL f_2 (nI (8 * n_21)).toNatClampNeg a.toInt64) (nI (8 * n_21 + 1)).toNatClampNeg b.toInt64) (nI (8 * n_21 + 2)).toNatClampNeg d.toInt64) (nI (8 * n_21 + 3)).toNatClampNeg ((nI g).toInt64)) (nI (8 * n_21 + 4)).toNatClampNeg 0) (nI (8 * n_21 + 5)).toNatClampNeg 0) (nI (8 * n_21 + 6)).toNatClampNeg v_74.toInt64)) := fset_at hΦ25
        have hI31 : Im G x (rd, NN, n_21 + 1, n_22, le, nx, il, qu, kn, ec, nu, va) Φ31 := Im.put (k := 5) hI30 hΦ25 ⟨_, rfl, CC.up r_27 (by rw [nI_clamp (by omega)]; omega)⟩
        have r_28 : CC (vp_updL (vp_updL (vp_updL (vp_updL (vp_updL (vp_updL (vp_updL f_2 (nI (8 * n_21)).toNatClampNeg a.toInt64) (nI (8 * n_21 + 1)).toNatClampNeg b.toInt64) (nI (8 * n_21 + 2)).toNatClampNeg d.toInt64) (nI (8 * n_21 + 3)).toNatClampNeg ((nI g).toInt64)) (nI (8 * n_21 + 4)).toNatClampNeg 0) (nI (8 * n_21 + 5)).toNatClampNeg 0) (nI (8 * n_21 + 6)).toNatClampNeg v_74.toInt64) := CC.up r_27 (by rw [nI_clamp (by omega)]; omega)
        refine z_aload_n B dX12_see_174 rfl 2 rfl ?_
        have h_63 : Φ31 x = some (o_ 14 [.int v_73, .ref (x + 1), .ref (x + 2), .int v_74, .int v_75, .int (nI n_23), .int v_76, .int v_77, .ref (x + 3), .ref (x + 4), .int v_78, .long v_79, .ref (x + 5), .int (nI (n_21 + 1)), .int v_80, .long v_81, .long v_82, .long v_83, .long v_84, .ref (x + 6), .ref (x + 7), .int (nI n_22), .ref (x + 8), .int (nI le), .ref (x + 9), .ref (x + 10), .int (nI qu), .ref (x + 11), .ref (x + 12), .ref (x + 13), .ref (x + 14), .ref (x + 15), .ref (x + 16), .int (nI n_24), .long v_85, .ref (x + 17), .ref (x + 18), .ref (x + 19), .ref (x + 20), .ref (x + 21), .ref (x + 22), .int (nI n_25), .ref (x + 23), .ref (x + 24), .int (nI n_26), .ref (x + 25), .int (nI il), .int (nI nx), .int ec, .int v_86, .int kn, .int v_87, .int nu, .long va]) := ((fset_fr hΦ25 (ne_off (x := x) (i := 0) (j := 5) rfl)).trans h_61)
        refine z_get (ref := "FlowExporterModel") (C := RX12) (T := TX12) (N := 54) (ci := 14) (v := .ref (x + 5)) B (by decide +kernel) rfl 12 (by decide) (by decide +kernel) rfl h_63 rfl dX12_see_175 ?_
        refine z_bipush (v := 8) B dX12_see_178 rfl ?_
        refine z_iload B dX12_see_180 1 rfl ?_
        refine z_imul B dX12_see_182 ?_
        refine z_top (st1 := [.int (nI (8 * n_21)), .ref (x + 5)]) (congrArg (fun w9 : Int32 => ([.int w9, .ref (x + 5)] : List Value)) (nI_mul 8 n_21)) ?_
        refine z_iconst (v := 4) B dX12_see_183 rfl ?_
        refine z_iadd B dX12_see_184 ?_
        refine z_top (st1 := [.int (nI (8 * n_21 + 4)), .ref (x + 5)]) (congrArg (fun w9 : Int32 => ([.int w9, .ref (x + 5)] : List Value)) (nI_add (8 * n_21) 4)) ?_
        refine z_dup2_11 B dX12_see_185 rfl rfl ?_
        refine z_lald B h_62 (vp_in_nI (by omega) (by omega)) dX12_see_186 ?_
        refine z_fl (fun v_88 => ?_)
        refine z_lconst (v := 1) B dX12_see_187 rfl ?_
        refine z_ladd B dX12_see_188 ?_
        refine z_fl (fun v_89 => ?_)
        refine z_last B h_62 (Nat.le_trans hx (Nat.le_add_right x 5)) (vp_in_nI (by omega) (by omega)) dX12_see_189 (fun Φ32 hΦ26 => ?_)
        have h_64 : Φ32 (x + 5) = some (al_ G 96 (vp_updL (vp_updL (vp_updL (vp_updL (vp_updL (vp_updL (vp_updL (vp_updL f_2 (nI (8 * n_21)).toNatClampNeg a.toInt64) (nI (8 * n_21 + 1)).toNatClampNeg b.toInt64) (nI (8 * n_21 + 2)).toNatClampNeg d.toInt64) (nI (8 * n_21 + 3)).toNatClampNeg ((nI g).toInt64)) (nI (8 * n_21 + 4)).toNatClampNeg 0) (nI (8 * n_21 + 5)).toNatClampNeg 0) (nI (8 * n_21 + 6)).toNatClampNeg v_74.toInt64) (nI (8 * n_21 + 4)).toNatClampNeg v_89)) := fset_at hΦ26
        have hI32 : Im G x (rd, NN, n_21 + 1, n_22, le, nx, il, qu, kn, ec, nu, va) Φ32 := Im.put (k := 5) hI31 hΦ26 ⟨_, rfl, CC.up r_28 (by rw [nI_clamp (by omega)]; omega)⟩
        have r_29 : CC (vp_updL (vp_updL (vp_updL (vp_updL (vp_updL (vp_updL (vp_updL (vp_updL f_2 (nI (8 * n_21)).toNatClampNeg a.toInt64) (nI (8 * n_21 + 1)).toNatClampNeg b.toInt64) (nI (8 * n_21 + 2)).toNatClampNeg d.toInt64) (nI (8 * n_21 + 3)).toNatClampNeg ((nI g).toInt64)) (nI (8 * n_21 + 4)).toNatClampNeg 0) (nI (8 * n_21 + 5)).toNatClampNeg 0) (nI (8 * n_21 + 6)).toNatClampNeg v_74.toInt64) (nI (8 * n_21 + 4)).toNatClampNeg v_89) := CC.up r_28 (by rw [nI_clamp (by omega)]; omega)
        refine z_aload_n B dX12_see_190 rfl 2 rfl ?_
        have h_65 : Φ32 x = some (o_ 14 [.int v_73, .ref (x + 1), .ref (x + 2), .int v_74, .int v_75, .int (nI n_23), .int v_76, .int v_77, .ref (x + 3), .ref (x + 4), .int v_78, .long v_79, .ref (x + 5), .int (nI (n_21 + 1)), .int v_80, .long v_81, .long v_82, .long v_83, .long v_84, .ref (x + 6), .ref (x + 7), .int (nI n_22), .ref (x + 8), .int (nI le), .ref (x + 9), .ref (x + 10), .int (nI qu), .ref (x + 11), .ref (x + 12), .ref (x + 13), .ref (x + 14), .ref (x + 15), .ref (x + 16), .int (nI n_24), .long v_85, .ref (x + 17), .ref (x + 18), .ref (x + 19), .ref (x + 20), .ref (x + 21), .ref (x + 22), .int (nI n_25), .ref (x + 23), .ref (x + 24), .int (nI n_26), .ref (x + 25), .int (nI il), .int (nI nx), .int ec, .int v_86, .int kn, .int v_87, .int nu, .long va]) := ((fset_fr hΦ26 (ne_off (x := x) (i := 0) (j := 5) rfl)).trans h_63)
        refine z_get (ref := "FlowExporterModel") (C := RX12) (T := TX12) (N := 54) (ci := 14) (v := .ref (x + 5)) B (by decide +kernel) rfl 12 (by decide) (by decide +kernel) rfl h_65 rfl dX12_see_191 ?_
        refine z_bipush (v := 8) B dX12_see_194 rfl ?_
        refine z_iload B dX12_see_196 1 rfl ?_
        refine z_imul B dX12_see_198 ?_
        refine z_top (st1 := [.int (nI (8 * n_21)), .ref (x + 5)]) (congrArg (fun w9 : Int32 => ([.int w9, .ref (x + 5)] : List Value)) (nI_mul 8 n_21)) ?_
        refine z_iconst (v := 5) B dX12_see_199 rfl ?_
        refine z_iadd B dX12_see_200 ?_
        refine z_top (st1 := [.int (nI (8 * n_21 + 5)), .ref (x + 5)]) (congrArg (fun w9 : Int32 => ([.int w9, .ref (x + 5)] : List Value)) (nI_add (8 * n_21) 5)) ?_
        refine z_dup2_11 B dX12_see_201 rfl rfl ?_
        refine z_lald B h_64 (vp_in_nI (by omega) (by omega)) dX12_see_202 ?_
        refine z_fl (fun v_90 => ?_)
        refine z_iload B dX12_see_203 7 rfl ?_
        refine z_i2l (v := e.toInt64) B dX12_see_205 rfl ?_
        refine z_ladd B dX12_see_206 ?_
        refine z_fl (fun v_91 => ?_)
        refine z_last B h_64 (Nat.le_trans hx (Nat.le_add_right x 5)) (vp_in_nI (by omega) (by omega)) dX12_see_207 (fun Φ33 hΦ27 => ?_)
        have h_66 : Φ33 (x + 5) = some (al_ G 96 (vp_updL (vp_updL (vp_updL (vp_updL (vp_updL (vp_updL (vp_updL (vp_updL (vp_updL f_2 (nI (8 * n_21)).toNatClampNeg a.toInt64) (nI (8 * n_21 + 1)).toNatClampNeg b.toInt64) (nI (8 * n_21 + 2)).toNatClampNeg d.toInt64) (nI (8 * n_21 + 3)).toNatClampNeg ((nI g).toInt64)) (nI (8 * n_21 + 4)).toNatClampNeg 0) (nI (8 * n_21 + 5)).toNatClampNeg 0) (nI (8 * n_21 + 6)).toNatClampNeg v_74.toInt64) (nI (8 * n_21 + 4)).toNatClampNeg v_89) (nI (8 * n_21 + 5)).toNatClampNeg v_91)) := fset_at hΦ27
        have hI33 : Im G x (rd, NN, n_21 + 1, n_22, le, nx, il, qu, kn, ec, nu, va) Φ33 := Im.put (k := 5) hI32 hΦ27 ⟨_, rfl, CC.up r_29 (by rw [nI_clamp (by omega)]; omega)⟩
        have r_30 : CC (vp_updL (vp_updL (vp_updL (vp_updL (vp_updL (vp_updL (vp_updL (vp_updL (vp_updL f_2 (nI (8 * n_21)).toNatClampNeg a.toInt64) (nI (8 * n_21 + 1)).toNatClampNeg b.toInt64) (nI (8 * n_21 + 2)).toNatClampNeg d.toInt64) (nI (8 * n_21 + 3)).toNatClampNeg ((nI g).toInt64)) (nI (8 * n_21 + 4)).toNatClampNeg 0) (nI (8 * n_21 + 5)).toNatClampNeg 0) (nI (8 * n_21 + 6)).toNatClampNeg v_74.toInt64) (nI (8 * n_21 + 4)).toNatClampNeg v_89) (nI (8 * n_21 + 5)).toNatClampNeg v_91) := CC.up r_29 (by rw [nI_clamp (by omega)]; omega)
        refine z_aload_n B dX12_see_208 rfl 2 rfl ?_
        have h_67 : Φ33 x = some (o_ 14 [.int v_73, .ref (x + 1), .ref (x + 2), .int v_74, .int v_75, .int (nI n_23), .int v_76, .int v_77, .ref (x + 3), .ref (x + 4), .int v_78, .long v_79, .ref (x + 5), .int (nI (n_21 + 1)), .int v_80, .long v_81, .long v_82, .long v_83, .long v_84, .ref (x + 6), .ref (x + 7), .int (nI n_22), .ref (x + 8), .int (nI le), .ref (x + 9), .ref (x + 10), .int (nI qu), .ref (x + 11), .ref (x + 12), .ref (x + 13), .ref (x + 14), .ref (x + 15), .ref (x + 16), .int (nI n_24), .long v_85, .ref (x + 17), .ref (x + 18), .ref (x + 19), .ref (x + 20), .ref (x + 21), .ref (x + 22), .int (nI n_25), .ref (x + 23), .ref (x + 24), .int (nI n_26), .ref (x + 25), .int (nI il), .int (nI nx), .int ec, .int v_86, .int kn, .int v_87, .int nu, .long va]) := ((fset_fr hΦ27 (ne_off (x := x) (i := 0) (j := 5) rfl)).trans h_65)
        refine z_get (ref := "FlowExporterModel") (C := RX12) (T := TX12) (N := 54) (ci := 14) (v := .ref (x + 5)) B (by decide +kernel) rfl 12 (by decide) (by decide +kernel) rfl h_67 rfl dX12_see_209 ?_
        refine z_bipush (v := 8) B dX12_see_212 rfl ?_
        refine z_iload B dX12_see_214 1 rfl ?_
        refine z_imul B dX12_see_216 ?_
        refine z_top (st1 := [.int (nI (8 * n_21)), .ref (x + 5)]) (congrArg (fun w9 : Int32 => ([.int w9, .ref (x + 5)] : List Value)) (nI_mul 8 n_21)) ?_
        refine z_bipush (v := 7) B dX12_see_217 rfl ?_
        refine z_iadd B dX12_see_219 ?_
        refine z_top (st1 := [.int (nI (8 * n_21 + 7)), .ref (x + 5)]) (congrArg (fun w9 : Int32 => ([.int w9, .ref (x + 5)] : List Value)) (nI_add (8 * n_21) 7)) ?_
        refine z_aload_n B dX12_see_220 rfl 2 rfl ?_
        refine z_get (ref := "FlowExporterModel") (C := RX12) (T := TX12) (N := 54) (ci := 14) (v := .int v_74) B (by decide +kernel) rfl 3 (by decide) (by decide +kernel) rfl h_67 rfl dX12_see_221 ?_
        refine z_i2l (v := v_74.toInt64) B dX12_see_224 rfl ?_
        refine z_last B h_66 (Nat.le_trans hx (Nat.le_add_right x 5)) (vp_in_nI (by omega) (by omega)) dX12_see_225 (fun Φ34 hΦ28 => ?_)
        have h_68 : Φ34 (x + 5) = some (al_ G 96 (vp_updL (vp_updL (vp_updL (vp_updL (vp_updL (vp_updL (vp_updL (vp_updL (vp_updL (vp_updL f_2 (nI (8 * n_21)).toNatClampNeg a.toInt64) (nI (8 * n_21 + 1)).toNatClampNeg b.toInt64) (nI (8 * n_21 + 2)).toNatClampNeg d.toInt64) (nI (8 * n_21 + 3)).toNatClampNeg ((nI g).toInt64)) (nI (8 * n_21 + 4)).toNatClampNeg 0) (nI (8 * n_21 + 5)).toNatClampNeg 0) (nI (8 * n_21 + 6)).toNatClampNeg v_74.toInt64) (nI (8 * n_21 + 4)).toNatClampNeg v_89) (nI (8 * n_21 + 5)).toNatClampNeg v_91) (nI (8 * n_21 + 7)).toNatClampNeg v_74.toInt64)) := fset_at hΦ28
        have hI34 : Im G x (rd, NN, n_21 + 1, n_22, le, nx, il, qu, kn, ec, nu, va) Φ34 := Im.put (k := 5) hI33 hΦ28 ⟨_, rfl, CC.up r_30 (by rw [nI_clamp (by omega)]; omega)⟩
        have r_31 : CC (vp_updL (vp_updL (vp_updL (vp_updL (vp_updL (vp_updL (vp_updL (vp_updL (vp_updL (vp_updL f_2 (nI (8 * n_21)).toNatClampNeg a.toInt64) (nI (8 * n_21 + 1)).toNatClampNeg b.toInt64) (nI (8 * n_21 + 2)).toNatClampNeg d.toInt64) (nI (8 * n_21 + 3)).toNatClampNeg ((nI g).toInt64)) (nI (8 * n_21 + 4)).toNatClampNeg 0) (nI (8 * n_21 + 5)).toNatClampNeg 0) (nI (8 * n_21 + 6)).toNatClampNeg v_74.toInt64) (nI (8 * n_21 + 4)).toNatClampNeg v_89) (nI (8 * n_21 + 5)).toNatClampNeg v_91) (nI (8 * n_21 + 7)).toNatClampNeg v_74.toInt64) := CC.up r_30 (by rw [nI_clamp (by omega)]; omega)
        refine z_iconst (v := 1) B dX12_see_226 rfl ?_
        exact z_ret_z B dX12_see_227 (by decide) ⟨⟨_, rfl, by decide⟩, rfl, ⟨n_21 + 1, n_22, (Or.inr ⟨(show n_22 ≤ 1 by omega), fun fC1 h8 => Eq.subst (motive := fun z9 => InC z9 (n_21 + 1) a b d (nI g)) (al_inj (h_68.symm.trans h8)) ⟨n_21, (show n_21 < n_21 + 1 by omega), (rK.up (rK.up (rK.up (rK.up (rK.up (rK.up (rK.new (n := n_21) (by rw [nI_clamp (by omega)]) (by rw [nI_clamp (by omega)]) (by rw [nI_clamp (by omega)]) (by rw [nI_clamp (by omega)])) (Or.inl (by rw [nI_clamp (by omega)]; omega))) (Or.inl (by rw [nI_clamp (by omega)]; omega))) (Or.inl (by rw [nI_clamp (by omega)]; omega))) (Or.inl (by rw [nI_clamp (by omega)]; omega))) (Or.inl (by rw [nI_clamp (by omega)]; omega))) (Or.inl (by rw [nI_clamp (by omega)]; omega)))⟩⟩), hI34⟩, (fun b9 h9 => ((fset_fr hΦ28 (fun h8 => h9 (5) h8 (show 5 = 0 ∨ 5 = 5 ∨ 5 = 6 ∨ 5 = 7 ∨ 5 = 23 ∨ 5 = 24 by omega))).trans ((fset_fr hΦ27 (fun h8 => h9 (5) h8 (show 5 = 0 ∨ 5 = 5 ∨ 5 = 6 ∨ 5 = 7 ∨ 5 = 23 ∨ 5 = 24 by omega))).trans ((fset_fr hΦ26 (fun h8 => h9 (5) h8 (show 5 = 0 ∨ 5 = 5 ∨ 5 = 6 ∨ 5 = 7 ∨ 5 = 23 ∨ 5 = 24 by omega))).trans ((fset_fr hΦ25 (fun h8 => h9 (5) h8 (show 5 = 0 ∨ 5 = 5 ∨ 5 = 6 ∨ 5 = 7 ∨ 5 = 23 ∨ 5 = 24 by omega))).trans ((fset_fr hΦ24 (fun h8 => h9 (5) h8 (show 5 = 0 ∨ 5 = 5 ∨ 5 = 6 ∨ 5 = 7 ∨ 5 = 23 ∨ 5 = 24 by omega))).trans ((fset_fr hΦ23 (fun h8 => h9 (5) h8 (show 5 = 0 ∨ 5 = 5 ∨ 5 = 6 ∨ 5 = 7 ∨ 5 = 23 ∨ 5 = 24 by omega))).trans ((fset_fr hΦ22 (fun h8 => h9 (5) h8 (show 5 = 0 ∨ 5 = 5 ∨ 5 = 6 ∨ 5 = 7 ∨ 5 = 23 ∨ 5 = 24 by omega))).trans ((fset_fr hΦ21 (fun h8 => h9 (5) h8 (show 5 = 0 ∨ 5 = 5 ∨ 5 = 6 ∨ 5 = 7 ∨ 5 = 23 ∨ 5 = 24 by omega))).trans ((fset_fr hΦ20 (fun h8 => h9 (5) h8 (show 5 = 0 ∨ 5 = 5 ∨ 5 = 6 ∨ 5 = 7 ∨ 5 = 23 ∨ 5 = 24 by omega))).trans ((fset_fr hΦ19 (fun h8 => h9 (5) h8 (show 5 = 0 ∨ 5 = 5 ∨ 5 = 6 ∨ 5 = 7 ∨ 5 = 23 ∨ 5 = 24 by omega))).trans ((fset_fr hΦ18 (fun h8 => h9 (0) h8 (show 0 = 0 ∨ 0 = 5 ∨ 0 = 6 ∨ 0 = 7 ∨ 0 = 23 ∨ 0 = 24 by omega))).trans ((hF6 b9 (fun j9 h8 h7 => h9 j9 h8 (show j9 = 0 ∨ j9 = 5 ∨ j9 = 6 ∨ j9 = 7 ∨ j9 = 23 ∨ j9 = 24 by have h6 : j9 = 0 ∨ j9 = 5 ∨ j9 = 6 ∨ j9 = 7 := h7; omega))).trans ((hF5 b9 (fun j9 h8 h7 => (show False from h7).elim)).trans ((fset_fr hΦ17 (fun h8 => h9 (0) h8 (show 0 = 0 ∨ 0 = 5 ∨ 0 = 6 ∨ 0 = 7 ∨ 0 = 23 ∨ 0 = 24 by omega))).trans ((hF4 b9 (fun j9 h8 h7 => h9 j9 h8 (show j9 = 0 ∨ j9 = 5 ∨ j9 = 6 ∨ j9 = 7 ∨ j9 = 23 ∨ j9 = 24 by have h6 : j9 = 0 := h7; omega))).trans ((hF1 b9 (fun j9 h8 h7 => h9 j9 h8 (show j9 = 0 ∨ j9 = 5 ∨ j9 = 6 ∨ j9 = 7 ∨ j9 = 23 ∨ j9 = 24 by have h6 : j9 = 0 ∨ j9 = 23 ∨ j9 = 24 := h7; omega))).trans ((fset_fr hΦ1 (fun h8 => h9 (0) h8 (show 0 = 0 ∨ 0 = 5 ∨ 0 = 6 ∨ 0 = 7 ∨ 0 = 23 ∨ 0 = 24 by omega))).trans rfl))))))))))))))))))⟩
      · replace hs5 : st5 = [.int (nI n_20)] := hs5
        subst st5
        replace b_52 : n_20 < fl := b_52
        replace q_2 : rK fC n_20 a b d (nI g) := q_2
        refine z_istore (lv' := [(6, .int (nI n_20)), (0, .ref x), (1, .int a), (2, .int b), (3, .int d), (4, .int (nI g)), (5, .int e)]) B dX12_see_61 (Nat.le_of_ble_eq_true rfl) rfl ?_
        refine z_iload B dX12_see_63 0 rfl ?_
        refine z_iconst (v := (-1)) B dX12_see_65 rfl ?_
        refine z_icmp_ne (tgt := 174) B dX12_see_66 rfl (fun c_6 => ?_) (fun h9 => absurd h9 (nI_nm1 (n := n_20) (by omega)))
        refine z_aload_n B dX12_see_174 rfl 1 rfl ?_
        have h_69 : Φ22 x = some (o_ 14 [.int v_57, .ref (x + 1), .ref (x + 2), .int v_58, .int v_59, .int (nI n_16), .int v_60, .int v_61, .ref (x + 3), .ref (x + 4), .int v_62, .long v_63, .ref (x + 5), .int (nI fl), .int v_64, .long v_65, .long v_72, .long v_67, .long v_68, .ref (x + 6), .ref (x + 7), .int (nI pe), .ref (x + 8), .int (nI le), .ref (x + 9), .ref (x + 10), .int (nI qu), .ref (x + 11), .ref (x + 12), .ref (x + 13), .ref (x + 14), .ref (x + 15), .ref (x + 16), .int (nI n_17), .long v_69, .ref (x + 17), .ref (x + 18), .ref (x + 19), .ref (x + 20), .ref (x + 21), .ref (x + 22), .int (nI n_18), .ref (x + 23), .ref (x + 24), .int (nI n_19), .ref (x + 25), .int (nI il), .int (nI nx), .int ec, .int v_70, .int kn, .int v_71, .int nu, .long va]) := ((hF5 x (fun j9 h8 h7 => (show False from h7).elim)).trans h_42)
        refine z_get (ref := "FlowExporterModel") (C := RX12) (T := TX12) (N := 54) (ci := 14) (v := .ref (x + 5)) B (by decide +kernel) rfl 12 (by decide) (by decide +kernel) rfl h_69 rfl dX12_see_175 ?_
        refine z_bipush (v := 8) B dX12_see_178 rfl ?_
        refine z_iload B dX12_see_180 0 rfl ?_
        refine z_imul B dX12_see_182 ?_
        refine z_top (st1 := [.int (nI (8 * n_20)), .ref (x + 5)]) (congrArg (fun w9 : Int32 => ([.int w9, .ref (x + 5)] : List Value)) (nI_mul 8 n_20)) ?_
        refine z_iconst (v := 4) B dX12_see_183 rfl ?_
        refine z_iadd B dX12_see_184 ?_
        refine z_top (st1 := [.int (nI (8 * n_20 + 4)), .ref (x + 5)]) (congrArg (fun w9 : Int32 => ([.int w9, .ref (x + 5)] : List Value)) (nI_add (8 * n_20) 4)) ?_
        refine z_dup2_11 B dX12_see_185 rfl rfl ?_
        have h_70 : Φ22 (x + 5) = some (al_ G 96 fC) := ((hF5 (x + 5) (fun j9 h8 h7 => (show False from h7).elim)).trans h_43)
        refine z_lald B h_70 (vp_in_nI (by omega) (by omega)) dX12_see_186 ?_
        refine z_fl (fun v_92 => ?_)
        refine z_lconst (v := 1) B dX12_see_187 rfl ?_
        refine z_ladd B dX12_see_188 ?_
        refine z_fl (fun v_93 => ?_)
        refine z_last B h_70 (Nat.le_trans hx (Nat.le_add_right x 5)) (vp_in_nI (by omega) (by omega)) dX12_see_189 (fun Φ35 hΦ29 => ?_)
        have h_71 : Φ35 (x + 5) = some (al_ G 96 (vp_updL fC (nI (8 * n_20 + 4)).toNatClampNeg v_93)) := fset_at hΦ29
        have hI35 : Im G x (rd, NN, fl, pe, le, nx, il, qu, kn, ec, nu, va) Φ35 := Im.put (k := 5) hI22 hΦ29 ⟨_, rfl, CC.up hC (by rw [nI_clamp (by omega)]; omega)⟩
        have r_32 : CC (vp_updL fC (nI (8 * n_20 + 4)).toNatClampNeg v_93) := CC.up hC (by rw [nI_clamp (by omega)]; omega)
        refine z_aload_n B dX12_see_190 rfl 1 rfl ?_
        have h_72 : Φ35 x = some (o_ 14 [.int v_57, .ref (x + 1), .ref (x + 2), .int v_58, .int v_59, .int (nI n_16), .int v_60, .int v_61, .ref (x + 3), .ref (x + 4), .int v_62, .long v_63, .ref (x + 5), .int (nI fl), .int v_64, .long v_65, .long v_72, .long v_67, .long v_68, .ref (x + 6), .ref (x + 7), .int (nI pe), .ref (x + 8), .int (nI le), .ref (x + 9), .ref (x + 10), .int (nI qu), .ref (x + 11), .ref (x + 12), .ref (x + 13), .ref (x + 14), .ref (x + 15), .ref (x + 16), .int (nI n_17), .long v_69, .ref (x + 17), .ref (x + 18), .ref (x + 19), .ref (x + 20), .ref (x + 21), .ref (x + 22), .int (nI n_18), .ref (x + 23), .ref (x + 24), .int (nI n_19), .ref (x + 25), .int (nI il), .int (nI nx), .int ec, .int v_70, .int kn, .int v_71, .int nu, .long va]) := ((fset_fr hΦ29 (ne_off (x := x) (i := 0) (j := 5) rfl)).trans h_69)
        refine z_get (ref := "FlowExporterModel") (C := RX12) (T := TX12) (N := 54) (ci := 14) (v := .ref (x + 5)) B (by decide +kernel) rfl 12 (by decide) (by decide +kernel) rfl h_72 rfl dX12_see_191 ?_
        refine z_bipush (v := 8) B dX12_see_194 rfl ?_
        refine z_iload B dX12_see_196 0 rfl ?_
        refine z_imul B dX12_see_198 ?_
        refine z_top (st1 := [.int (nI (8 * n_20)), .ref (x + 5)]) (congrArg (fun w9 : Int32 => ([.int w9, .ref (x + 5)] : List Value)) (nI_mul 8 n_20)) ?_
        refine z_iconst (v := 5) B dX12_see_199 rfl ?_
        refine z_iadd B dX12_see_200 ?_
        refine z_top (st1 := [.int (nI (8 * n_20 + 5)), .ref (x + 5)]) (congrArg (fun w9 : Int32 => ([.int w9, .ref (x + 5)] : List Value)) (nI_add (8 * n_20) 5)) ?_
        refine z_dup2_11 B dX12_see_201 rfl rfl ?_
        refine z_lald B h_71 (vp_in_nI (by omega) (by omega)) dX12_see_202 ?_
        refine z_fl (fun v_94 => ?_)
        refine z_iload B dX12_see_203 6 rfl ?_
        refine z_i2l (v := e.toInt64) B dX12_see_205 rfl ?_
        refine z_ladd B dX12_see_206 ?_
        refine z_fl (fun v_95 => ?_)
        refine z_last B h_71 (Nat.le_trans hx (Nat.le_add_right x 5)) (vp_in_nI (by omega) (by omega)) dX12_see_207 (fun Φ36 hΦ30 => ?_)
        have h_73 : Φ36 (x + 5) = some (al_ G 96 (vp_updL (vp_updL fC (nI (8 * n_20 + 4)).toNatClampNeg v_93) (nI (8 * n_20 + 5)).toNatClampNeg v_95)) := fset_at hΦ30
        have hI36 : Im G x (rd, NN, fl, pe, le, nx, il, qu, kn, ec, nu, va) Φ36 := Im.put (k := 5) hI35 hΦ30 ⟨_, rfl, CC.up r_32 (by rw [nI_clamp (by omega)]; omega)⟩
        have r_33 : CC (vp_updL (vp_updL fC (nI (8 * n_20 + 4)).toNatClampNeg v_93) (nI (8 * n_20 + 5)).toNatClampNeg v_95) := CC.up r_32 (by rw [nI_clamp (by omega)]; omega)
        refine z_aload_n B dX12_see_208 rfl 1 rfl ?_
        have h_74 : Φ36 x = some (o_ 14 [.int v_57, .ref (x + 1), .ref (x + 2), .int v_58, .int v_59, .int (nI n_16), .int v_60, .int v_61, .ref (x + 3), .ref (x + 4), .int v_62, .long v_63, .ref (x + 5), .int (nI fl), .int v_64, .long v_65, .long v_72, .long v_67, .long v_68, .ref (x + 6), .ref (x + 7), .int (nI pe), .ref (x + 8), .int (nI le), .ref (x + 9), .ref (x + 10), .int (nI qu), .ref (x + 11), .ref (x + 12), .ref (x + 13), .ref (x + 14), .ref (x + 15), .ref (x + 16), .int (nI n_17), .long v_69, .ref (x + 17), .ref (x + 18), .ref (x + 19), .ref (x + 20), .ref (x + 21), .ref (x + 22), .int (nI n_18), .ref (x + 23), .ref (x + 24), .int (nI n_19), .ref (x + 25), .int (nI il), .int (nI nx), .int ec, .int v_70, .int kn, .int v_71, .int nu, .long va]) := ((fset_fr hΦ30 (ne_off (x := x) (i := 0) (j := 5) rfl)).trans h_72)
        refine z_get (ref := "FlowExporterModel") (C := RX12) (T := TX12) (N := 54) (ci := 14) (v := .ref (x + 5)) B (by decide +kernel) rfl 12 (by decide) (by decide +kernel) rfl h_74 rfl dX12_see_209 ?_
        refine z_bipush (v := 8) B dX12_see_212 rfl ?_
        refine z_iload B dX12_see_214 0 rfl ?_
        refine z_imul B dX12_see_216 ?_
        refine z_top (st1 := [.int (nI (8 * n_20)), .ref (x + 5)]) (congrArg (fun w9 : Int32 => ([.int w9, .ref (x + 5)] : List Value)) (nI_mul 8 n_20)) ?_
        refine z_bipush (v := 7) B dX12_see_217 rfl ?_
        refine z_iadd B dX12_see_219 ?_
        refine z_top (st1 := [.int (nI (8 * n_20 + 7)), .ref (x + 5)]) (congrArg (fun w9 : Int32 => ([.int w9, .ref (x + 5)] : List Value)) (nI_add (8 * n_20) 7)) ?_
        refine z_aload_n B dX12_see_220 rfl 1 rfl ?_
        refine z_get (ref := "FlowExporterModel") (C := RX12) (T := TX12) (N := 54) (ci := 14) (v := .int v_58) B (by decide +kernel) rfl 3 (by decide) (by decide +kernel) rfl h_74 rfl dX12_see_221 ?_
        refine z_i2l (v := v_58.toInt64) B dX12_see_224 rfl ?_
        refine z_last B h_73 (Nat.le_trans hx (Nat.le_add_right x 5)) (vp_in_nI (by omega) (by omega)) dX12_see_225 (fun Φ37 hΦ31 => ?_)
        have h_75 : Φ37 (x + 5) = some (al_ G 96 (vp_updL (vp_updL (vp_updL fC (nI (8 * n_20 + 4)).toNatClampNeg v_93) (nI (8 * n_20 + 5)).toNatClampNeg v_95) (nI (8 * n_20 + 7)).toNatClampNeg v_58.toInt64)) := fset_at hΦ31
        have hI37 : Im G x (rd, NN, fl, pe, le, nx, il, qu, kn, ec, nu, va) Φ37 := Im.put (k := 5) hI36 hΦ31 ⟨_, rfl, CC.up r_33 (by rw [nI_clamp (by omega)]; omega)⟩
        have r_34 : CC (vp_updL (vp_updL (vp_updL fC (nI (8 * n_20 + 4)).toNatClampNeg v_93) (nI (8 * n_20 + 5)).toNatClampNeg v_95) (nI (8 * n_20 + 7)).toNatClampNeg v_58.toInt64) := CC.up r_33 (by rw [nI_clamp (by omega)]; omega)
        refine z_iconst (v := 1) B dX12_see_226 rfl ?_
        exact z_ret_z B dX12_see_227 (by decide) ⟨⟨_, rfl, by decide⟩, rfl, ⟨fl, pe, (Or.inr ⟨(show pe ≤ 1 by omega), fun fC1 h8 => Eq.subst (motive := fun z9 => InC z9 fl a b d (nI g)) (al_inj (h_75.symm.trans h8)) ⟨n_20, (show n_20 < fl by omega), (rK.up (rK.up (rK.up q_2 (Or.inl (by rw [nI_clamp (by omega)]; omega))) (Or.inl (by rw [nI_clamp (by omega)]; omega))) (Or.inl (by rw [nI_clamp (by omega)]; omega)))⟩⟩), hI37⟩, (fun b9 h9 => ((fset_fr hΦ31 (fun h8 => h9 (5) h8 (show 5 = 0 ∨ 5 = 5 ∨ 5 = 6 ∨ 5 = 7 ∨ 5 = 23 ∨ 5 = 24 by omega))).trans ((fset_fr hΦ30 (fun h8 => h9 (5) h8 (show 5 = 0 ∨ 5 = 5 ∨ 5 = 6 ∨ 5 = 7 ∨ 5 = 23 ∨ 5 = 24 by omega))).trans ((fset_fr hΦ29 (fun h8 => h9 (5) h8 (show 5 = 0 ∨ 5 = 5 ∨ 5 = 6 ∨ 5 = 7 ∨ 5 = 23 ∨ 5 = 24 by omega))).trans ((hF5 b9 (fun j9 h8 h7 => (show False from h7).elim)).trans ((fset_fr hΦ17 (fun h8 => h9 (0) h8 (show 0 = 0 ∨ 0 = 5 ∨ 0 = 6 ∨ 0 = 7 ∨ 0 = 23 ∨ 0 = 24 by omega))).trans ((hF4 b9 (fun j9 h8 h7 => h9 j9 h8 (show j9 = 0 ∨ j9 = 5 ∨ j9 = 6 ∨ j9 = 7 ∨ j9 = 23 ∨ j9 = 24 by have h6 : j9 = 0 := h7; omega))).trans ((hF1 b9 (fun j9 h8 h7 => h9 j9 h8 (show j9 = 0 ∨ j9 = 5 ∨ j9 = 6 ∨ j9 = 7 ∨ j9 = 23 ∨ j9 = 24 by have h6 : j9 = 0 ∨ j9 = 23 ∨ j9 = 24 := h7; omega))).trans ((fset_fr hΦ1 (fun h8 => h9 (0) h8 (show 0 = 0 ∨ 0 = 5 ∨ 0 = 6 ∨ 0 = 7 ∨ 0 = 23 ∨ 0 = 24 by omega))).trans rfl)))))))))⟩
    · refine z_iconst (v := 0) B dX12_see_40 rfl ?_
      have h_76 : Φ20 (x + 5) = some (al_ G 96 fC) := ((hF4 (x + 5) (fun j9 h8 h7 => by have h6 : j9 = 0 := h7; omega)).trans ((hF1 (x + 5) (fun j9 h8 h7 => by have h6 : j9 = 0 ∨ j9 = 23 ∨ j9 = 24 := h7; omega)).trans ((fset_fr hΦ1 (ne_off (x := x) (i := 5) (j := 0) rfl)).trans hc0)))
      exact z_ret_z B dX12_see_41 (by decide) ⟨⟨_, rfl, by decide⟩, rfl, ⟨fl, pe, (Or.imp id (fun h9 => ⟨h9.1, fun fC1 h8 => Eq.subst (motive := fun z9 => InC z9 fl a b d (nI g)) (al_inj (h_76.symm.trans h8)) h9.2⟩) hk), hI20⟩, (fun b9 h9 => ((hF4 b9 (fun j9 h8 h7 => h9 j9 h8 (show j9 = 0 ∨ j9 = 5 ∨ j9 = 6 ∨ j9 = 7 ∨ j9 = 23 ∨ j9 = 24 by have h6 : j9 = 0 := h7; omega))).trans ((hF1 b9 (fun j9 h8 h7 => h9 j9 h8 (show j9 = 0 ∨ j9 = 5 ∨ j9 = 6 ∨ j9 = 7 ∨ j9 = 23 ∨ j9 = 24 by have h6 : j9 = 0 ∨ j9 = 23 ∨ j9 = 24 := h7; omega))).trans ((fset_fr hΦ1 (fun h8 => h9 (0) h8 (show 0 = 0 ∨ 0 = 5 ∨ 0 = 6 ∨ 0 = 7 ∨ 0 = 23 ∨ 0 = 24 by omega))).trans rfl))))⟩

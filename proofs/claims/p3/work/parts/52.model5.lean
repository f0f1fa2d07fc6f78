set_option maxHeartbeats 4000000 in
set_option maxRecDepth 100000 in
theorem r_isSame_23 (G : EnvG) (l : Launch) (Φ : Hm) (sz x : Nat) (rd : (Nat → Int32) → Prop) (fl : Nat) (pe : Nat) (le : Nat) (nx : Nat) (il : Nat) (qu : Nat) (kn : Int32) (ec : Int32) (nu : Int32) (va : Int64) (i : Nat) (a : Int64) (b : Int64) (d : Int64) (f : Int64) (hx : G.2.2.2 ≤ x) (hI : Im G x (rd, NN, fl, pe, le, nx, il, qu, kn, ec, nu, va) Φ) (hi : i < 24) : Ct G l yX12_isSame wsX12_isSame ({ frames := 0, cells := 0, slots := 0, locals := 0 }) 0 0 [.ref (x + 23), .int (nI i), .long a, .long b, .long d, .long f] Φ sz (fun v Φ1 sz1 => (∃ r9 : Int32, v = some (.int r9) ∧ (r9 = 0 ∨ r9 = 1)) ∧ sz1 = sz ∧ (Im G x (rd, NN, fl, pe, le, nx, il, qu, kn, ec, nu, va) Φ1) ∧ Fr x (fun j9 => False) Φ Φ1) := by
  refine Ct.of (cc := cX12_isSame) (maxL := 10) (ret := (some .boolean)) (by decide) rfl (Nat.le_of_ble_eq_true rfl) ?_
  intro p9 e9 s9 m9 w9 t9 k9 B
  show Z p9 l e9 _ s9 m9 _ w9 t9 k9 _ G 10 0 [(0, .ref (x + 23)), (1, .int (nI i)), (2, .long a), (4, .long b), (6, .long d), (8, .long f)] [] Φ sz 0 0
  refine z_aload_n B dX12_isSame_0 rfl 0 rfl ?_
  refine z_iconst (v := 4) B dX12_isSame_1 rfl ?_
  refine z_iload_n B dX12_isSame_2 rfl 1 rfl ?_
  refine z_imul B dX12_isSame_3 ?_
  refine z_top (st1 := [.int (nI (4 * i)), .ref (x + 23)]) (congrArg (fun w9 : Int32 => ([.int w9, .ref (x + 23)] : List Value)) (nI_mul 4 i)) ?_
  obtain ⟨f_1, h_1⟩ := imk (k := 23) hI
  have h_2 : Φ (x + 23) = some (ai_ G 96 f_1) := h_1
  refine z_iald B h_2 (vp_in_nI (by omega) (by omega)) dX12_isSame_4 ?_
  refine z_fi (fun v_1 => ?_)
  refine z_i2l (v := v_1.toInt64) B dX12_isSame_5 rfl ?_
  refine z_lload_n B dX12_isSame_6 rfl 2 rfl ?_
  refine z_lcmp B dX12_isSame_7 ?_
  refine z_fi (fun v_2 => ?_)
  refine z_if_ne (tgt := 57) B dX12_isSame_8 rfl (fun c_1 => ?_) (fun c_1 => ?_)
  · refine z_iconst (v := 0) B dX12_isSame_57 rfl ?_
    exact z_ret_z B dX12_isSame_58 (by decide) ⟨⟨_, rfl, by decide⟩, rfl, hI, (fun b9 h9 => rfl)⟩
  · refine z_aload_n B dX12_isSame_11 rfl 0 rfl ?_
    refine z_iconst (v := 4) B dX12_isSame_12 rfl ?_
    refine z_iload_n B dX12_isSame_13 rfl 1 rfl ?_
    refine z_imul B dX12_isSame_14 ?_
    refine z_top (st1 := [.int (nI (4 * i)), .ref (x + 23)]) (congrArg (fun w9 : Int32 => ([.int w9, .ref (x + 23)] : List Value)) (nI_mul 4 i)) ?_
    refine z_iconst (v := 1) B dX12_isSame_15 rfl ?_
    refine z_iadd B dX12_isSame_16 ?_
    refine z_top (st1 := [.int (nI (4 * i + 1)), .ref (x + 23)]) (congrArg (fun w9 : Int32 => ([.int w9, .ref (x + 23)] : List Value)) (nI_add (4 * i) 1)) ?_
    refine z_iald B h_2 (vp_in_nI (by omega) (by omega)) dX12_isSame_17 ?_
    refine z_fi (fun v_3 => ?_)
    refine z_i2l (v := v_3.toInt64) B dX12_isSame_18 rfl ?_
    refine z_lload B dX12_isSame_19 3 rfl ?_
    refine z_lcmp B dX12_isSame_21 ?_
    refine z_fi (fun v_4 => ?_)
    refine z_if_ne (tgt := 57) B dX12_isSame_22 rfl (fun c_2 => ?_) (fun c_2 => ?_)
    · refine z_iconst (v := 0) B dX12_isSame_57 rfl ?_
      exact z_ret_z B dX12_isSame_58 (by decide) ⟨⟨_, rfl, by decide⟩, rfl, hI, (fun b9 h9 => rfl)⟩
    · refine z_aload_n B dX12_isSame_25 rfl 0 rfl ?_
      refine z_iconst (v := 4) B dX12_isSame_26 rfl ?_
      refine z_iload_n B dX12_isSame_27 rfl 1 rfl ?_
      refine z_imul B dX12_isSame_28 ?_
      refine z_top (st1 := [.int (nI (4 * i)), .ref (x + 23)]) (congrArg (fun w9 : Int32 => ([.int w9, .ref (x + 23)] : List Value)) (nI_mul 4 i)) ?_
      refine z_iconst (v := 2) B dX12_isSame_29 rfl ?_
      refine z_iadd B dX12_isSame_30 ?_
      refine z_top (st1 := [.int (nI (4 * i + 2)), .ref (x + 23)]) (congrArg (fun w9 : Int32 => ([.int w9, .ref (x + 23)] : List Value)) (nI_add (4 * i) 2)) ?_
      refine z_iald B h_2 (vp_in_nI (by omega) (by omega)) dX12_isSame_31 ?_
      refine z_fi (fun v_5 => ?_)
      refine z_i2l (v := v_5.toInt64) B dX12_isSame_32 rfl ?_
      refine z_lload B dX12_isSame_33 4 rfl ?_
      refine z_lcmp B dX12_isSame_35 ?_
      refine z_fi (fun v_6 => ?_)
      refine z_if_ne (tgt := 57) B dX12_isSame_36 rfl (fun c_3 => ?_) (fun c_3 => ?_)
      · refine z_iconst (v := 0) B dX12_isSame_57 rfl ?_
        exact z_ret_z B dX12_isSame_58 (by decide) ⟨⟨_, rfl, by decide⟩, rfl, hI, (fun b9 h9 => rfl)⟩
      · refine z_aload_n B dX12_isSame_39 rfl 0 rfl ?_
        refine z_iconst (v := 4) B dX12_isSame_40 rfl ?_
        refine z_iload_n B dX12_isSame_41 rfl 1 rfl ?_
        refine z_imul B dX12_isSame_42 ?_
        refine z_top (st1 := [.int (nI (4 * i)), .ref (x + 23)]) (congrArg (fun w9 : Int32 => ([.int w9, .ref (x + 23)] : List Value)) (nI_mul 4 i)) ?_
        refine z_iconst (v := 3) B dX12_isSame_43 rfl ?_
        refine z_iadd B dX12_isSame_44 ?_
        refine z_top (st1 := [.int (nI (4 * i + 3)), .ref (x + 23)]) (congrArg (fun w9 : Int32 => ([.int w9, .ref (x + 23)] : List Value)) (nI_add (4 * i) 3)) ?_
        refine z_iald B h_2 (vp_in_nI (by omega) (by omega)) dX12_isSame_45 ?_
        refine z_fi (fun v_7 => ?_)
        refine z_i2l (v := v_7.toInt64) B dX12_isSame_46 rfl ?_
        refine z_lload B dX12_isSame_47 5 rfl ?_
        refine z_lcmp B dX12_isSame_49 ?_
        refine z_fi (fun v_8 => ?_)
        refine z_if_ne (tgt := 57) B dX12_isSame_50 rfl (fun c_4 => ?_) (fun c_4 => ?_)
        · refine z_iconst (v := 0) B dX12_isSame_57 rfl ?_
          exact z_ret_z B dX12_isSame_58 (by decide) ⟨⟨_, rfl, by decide⟩, rfl, hI, (fun b9 h9 => rfl)⟩
        · refine z_iconst (v := 1) B dX12_isSame_53 rfl ?_
          refine z_goto (tgt := 58) B dX12_isSame_54 rfl ?_
          exact z_ret_z B dX12_isSame_58 (by decide) ⟨⟨_, rfl, by decide⟩, rfl, hI, (fun b9 h9 => rfl)⟩

set_option maxHeartbeats 4000000 in
set_option maxRecDepth 100000 in
theorem r_trueKeyOf (G : EnvG) (l : Launch) (Φ : Hm) (sz x : Nat) (rd : (Nat → Int32) → Prop) (fl : Nat) (pe : Nat) (le : Nat) (nx : Nat) (il : Nat) (qu : Nat) (kn : Int32) (ec : Int32) (nu : Int32) (va : Int64) (a : Int32) (b : Int32) (d : Int32) (f : Int32) (hx : G.2.2.2 ≤ x) (hI : Im G x (rd, NN, fl, pe, le, nx, il, qu, kn, ec, nu, va) Φ)  : Ct G l yX12_trueKeyOf wsX12_trueKeyOf ({ frames := 1, cells := 0, slots := 0, locals := 29 }) 0 0 [.ref x, .int a, .int b, .int d, .int f] Φ sz (fun v Φ1 sz1 => (v = some (.int (-1)) ∨ ∃ n9 : Nat, n9 < 24 ∧ v = some (.int (nI n9))) ∧ sz1 = sz ∧ (Im G x (rd, NN, fl, pe, le, nx, il, qu, kn, ec, nu, va) Φ1) ∧ Fr x (fun j9 => False) Φ Φ1) := by
  refine Ct.of (cc := cX12_trueKeyOf) (maxL := 6) (ret := (some .int)) (by decide) rfl (Nat.le_of_ble_eq_true rfl) ?_
  intro p9 e9 s9 m9 w9 t9 k9 B
  show Z p9 l e9 _ s9 m9 _ w9 t9 k9 _ G 6 0 [(0, .ref x), (1, .int a), (2, .int b), (3, .int d), (4, .int f)] [] Φ sz 0 0
  refine z_iconst (v := 0) B dX12_trueKeyOf_0 rfl ?_
  refine z_istore (lv' := [(5, .int 0), (0, .ref x), (1, .int a), (2, .int b), (3, .int d), (4, .int f)]) B dX12_trueKeyOf_1 (Nat.le_of_ble_eq_true rfl) rfl ?_
  refine z_lv [0, 1, 2, 3, 4, 5] rfl ?_
  refine z_loop (α := Nat) (fun (a9 : Nat) Φi => Im G x (rd, NN, fl, pe, le, nx, il, qu, kn, ec, nu, va) Φi ∧ Fr x (fun j9 => False) Φ Φi ∧ (a9 ≤ 24) ∧ True) (fun a9 => [(5, .int (nI a9)), (0, .ref x), (1, .int a), (2, .int b), (3, .int d), (4, .int f)]) (fun a9 => 24 - a9) ?_ (0) ⟨hI, fun _ _ => rfl, (show 0 ≤ 24 by omega), trivial⟩
  rintro i_1 Φl1 ⟨hI1, hF1, b_1, -⟩ ih1
  replace hI1 : Im G x (rd, NN, fl, pe, le, nx, il, qu, kn, ec, nu, va) Φl1 := hI1
  replace b_1 : i_1 ≤ 24 := b_1
  show Z p9 l e9 _ s9 m9 _ w9 t9 k9 _ G 6 3 [(5, .int (nI i_1)), (0, .ref x), (1, .int a), (2, .int b), (3, .int d), (4, .int f)] [] Φl1 _ _ _
  refine z_iload B dX12_trueKeyOf_3 0 rfl ?_
  refine z_aload_n B dX12_trueKeyOf_5 rfl 1 rfl ?_
  obtain ⟨v_1, v_2, v_3, n_1, v_4, v_5, v_6, v_7, v_8, v_9, v_10, v_11, v_12, n_2, v_13, n_3, n_4, v_14, v_15, h_1, b_13, b_2, b_3, b_4, b_5, b_6, b_7, b_8, b_9, b_10, b_11, b_12⟩ := im0 hI1
  replace b_2 : 1 ≤ n_1 := b_2
  replace b_3 : n_1 ≤ 1024 := b_3
  replace b_4 : fl ≤ 12 := b_4
  replace b_5 : pe ≤ 24 := b_5
  replace b_6 : le ≤ 700 := b_6
  replace b_7 : qu ≤ 12 := b_7
  replace b_8 : n_2 ≤ 8 := b_8
  replace b_9 : n_3 ≤ 24 := b_9
  replace b_10 : n_4 ≤ 24 := b_10
  replace b_11 : il ≤ 700 := b_11
  replace b_12 : nx ≤ 701 := b_12
  have h_2 : Φl1 x = some (o_ 14 [.int v_1, .ref (x + 1), .ref (x + 2), .int v_2, .int v_3, .int (nI n_1), .int v_4, .int v_5, .ref (x + 3), .ref (x + 4), .int v_6, .long v_7, .ref (x + 5), .int (nI fl), .int v_8, .long v_9, .long v_10, .long v_11, .long v_12, .ref (x + 6), .ref (x + 7), .int (nI pe), .ref (x + 8), .int (nI le), .ref (x + 9), .ref (x + 10), .int (nI qu), .ref (x + 11), .ref (x + 12), .ref (x + 13), .ref (x + 14), .ref (x + 15), .ref (x + 16), .int (nI n_2), .long v_13, .ref (x + 17), .ref (x + 18), .ref (x + 19), .ref (x + 20), .ref (x + 21), .ref (x + 22), .int (nI n_3), .ref (x + 23), .ref (x + 24), .int (nI n_4), .ref (x + 25), .int (nI il), .int (nI nx), .int ec, .int v_14, .int kn, .int v_15, .int nu, .long va]) := h_1
  refine z_get (ref := "FlowExporterModel") (C := RX12) (T := TX12) (N := 54) (ci := 14) (v := .int (nI n_4)) B (by decide +kernel) rfl 44 (by decide) (by decide +kernel) rfl h_2 rfl dX12_trueKeyOf_6 ?_
  refine z_icmp_ge (tgt := 42) B dX12_trueKeyOf_9 rfl (fun c_1 => ?_) (fun c_1 => ?_)
  · have e_1 : n_4 ≤ i_1 := (nI_leI (a := n_4) (b := i_1) (by omega) (by omega)).mp c_1
    refine z_iconst (v := (-1)) B dX12_trueKeyOf_42 rfl ?_
    exact z_ret_i B dX12_trueKeyOf_43 ⟨(Or.inl rfl), rfl, hI1, (fun b9 h9 => ((hF1 b9 (fun j9 h8 h7 => (show False from h7).elim)).trans rfl))⟩
  · have e_2 : ¬ (n_4 ≤ i_1) := fun h9 => c_1 ((nI_leI (a := n_4) (b := i_1) (by omega) (by omega)).mpr h9)
    refine z_aload_n B dX12_trueKeyOf_12 rfl 1 rfl ?_
    refine z_get (ref := "FlowExporterModel") (C := RX12) (T := TX12) (N := 54) (ci := 14) (v := .ref (x + 23)) B (by decide +kernel) rfl 42 (by decide) (by decide +kernel) rfl h_2 rfl dX12_trueKeyOf_13 ?_
    refine z_iload B dX12_trueKeyOf_16 0 rfl ?_
    refine z_iload_n B dX12_trueKeyOf_18 rfl 2 rfl ?_
    refine z_i2l (v := a.toInt64) B dX12_trueKeyOf_19 rfl ?_
    refine z_iload_n B dX12_trueKeyOf_20 rfl 3 rfl ?_
    refine z_i2l (v := b.toInt64) B dX12_trueKeyOf_21 rfl ?_
    refine z_iload_n B dX12_trueKeyOf_22 rfl 4 rfl ?_
    refine z_i2l (v := d.toInt64) B dX12_trueKeyOf_23 rfl ?_
    refine z_iload B dX12_trueKeyOf_24 5 rfl ?_
    refine z_i2l (v := f.toInt64) B dX12_trueKeyOf_26 rfl ?_
    refine z_callS (As := [.ref (x + 23), .int (nI i_1), .long a.toInt64, .long b.toInt64, .long d.toInt64, .long f.toInt64]) (rest := []) B (r_isSame_23 G l Φl1 sz x rd fl pe le nx il qu kn ec nu va i_1 a.toInt64 b.toInt64 d.toInt64 f.toInt64 hx hI1 (show i_1 < 24 by omega)) (va_cwS 6 B.1.2.2.2.2 gX12_trueKeyOf_X12_isSame rfl rfl rfl (by decide +kernel) ⟨Nat.le_of_ble_eq_true rfl, Nat.le_of_ble_eq_true rfl⟩) rfl rfl (Nat.le_of_ble_eq_true rfl) dX12_trueKeyOf_27 ⟨Nat.le_of_ble_eq_true rfl, Nat.le_of_ble_eq_true rfl⟩ (fun r_1 Φ1 sz1 st1 hp1 hs1 => ?_)
    obtain ⟨⟨v_16, rfl, b_14⟩, hq1, hI2, hF2⟩ := hp1
    subst sz1
    replace hs1 : st1 = [.int v_16] := hs1
    subst st1
    replace hI2 : Im G x (rd, NN, fl, pe, le, nx, il, qu, kn, ec, nu, va) Φ1 := hI2
    refine z_if_eq (tgt := 36) B dX12_trueKeyOf_30 rfl (fun c_2 => ?_) (fun c_2 => ?_)
    · refine z_iinc (k := 0) (v := nI (i_1 + 1)) (lv' := [(5, .int (nI (i_1 + 1))), (0, .ref x), (1, .int a), (2, .int b), (3, .int d), (4, .int f)]) B dX12_trueKeyOf_36 rfl (nI_add i_1 1) (Nat.le_of_ble_eq_true rfl) rfl ?_
      refine z_goto (tgt := 3) B dX12_trueKeyOf_39 rfl ?_
      refine z_lv [0, 1, 2, 3, 4, 5] rfl ?_
      exact ih1 (i_1 + 1) Φ1 (show 24 - (i_1 + 1) < 24 - i_1 by omega) ⟨hI2, (fun b9 h9 => ((hF2 b9 (fun j9 h8 h7 => (show False from h7).elim)).trans ((hF1 b9 (fun j9 h8 h7 => (show False from h7).elim)).trans rfl))), (show (i_1 + 1) ≤ 24 by omega), trivial⟩
    · refine z_iload B dX12_trueKeyOf_33 0 rfl ?_
      exact z_ret_i B dX12_trueKeyOf_35 ⟨(Or.inr ⟨i_1, (show i_1 < 24 by omega), rfl⟩), rfl, hI2, (fun b9 h9 => ((hF2 b9 (fun j9 h8 h7 => (show False from h7).elim)).trans ((hF1 b9 (fun j9 h8 h7 => (show False from h7).elim)).trans rfl)))⟩

set_option maxHeartbeats 4000000 in
set_option maxRecDepth 100000 in
theorem r_keyOf (G : EnvG) (l : Launch) (Φ : Hm) (sz x : Nat) (rd : (Nat → Int32) → Prop) (fl : Nat) (pe : Nat) (le : Nat) (nx : Nat) (il : Nat) (qu : Nat) (kn : Int32) (ec : Int32) (nu : Int32) (va : Int64) (a : Int64) (b : Int64) (d : Int64) (f : Int64) (hx : G.2.2.2 ≤ x) (hI : Im G x (rd, NN, fl, pe, le, nx, il, qu, kn, ec, nu, va) Φ)  : Ct G l yX12_keyOf wsX12_keyOf ({ frames := 1, cells := 0, slots := 0, locals := 29 }) 0 0 [.ref x, .long a, .long b, .long d, .long f] Φ sz (fun v Φ1 sz1 => (v = some (.int (-1)) ∨ ∃ n9 : Nat, n9 < 24 ∧ v = some (.int (nI n9))) ∧ sz1 = sz ∧ (Im G x (rd, NN, fl, pe, le, nx, il, qu, kn, ec, nu, va) Φ1) ∧ Fr x (fun j9 => False) Φ Φ1) := by
  refine Ct.of (cc := cX12_keyOf) (maxL := 10) (ret := (some .int)) (by decide) rfl (Nat.le_of_ble_eq_true rfl) ?_
  intro p9 e9 s9 m9 w9 t9 k9 B
  show Z p9 l e9 _ s9 m9 _ w9 t9 k9 _ G 10 0 [(0, .ref x), (1, .long a), (3, .long b), (5, .long d), (7, .long f)] [] Φ sz 0 0
  refine z_iconst (v := 0) B dX12_keyOf_0 rfl ?_
  refine z_istore (lv' := [(9, .int 0), (0, .ref x), (1, .long a), (3, .long b), (5, .long d), (7, .long f)]) B dX12_keyOf_1 (Nat.le_of_ble_eq_true rfl) rfl ?_
  refine z_lv [0, 1, 2, 3, 4, 5] rfl ?_
  refine z_loop (α := Nat) (fun (a9 : Nat) Φi => Im G x (rd, NN, fl, pe, le, nx, il, qu, kn, ec, nu, va) Φi ∧ Fr x (fun j9 => False) Φ Φi ∧ (a9 ≤ 24) ∧ True) (fun a9 => [(9, .int (nI a9)), (0, .ref x), (1, .long a), (3, .long b), (5, .long d), (7, .long f)]) (fun a9 => 24 - a9) ?_ (0) ⟨hI, fun _ _ => rfl, (show 0 ≤ 24 by omega), trivial⟩
  rintro i_1 Φl1 ⟨hI1, hF1, b_1, -⟩ ih1
  replace hI1 : Im G x (rd, NN, fl, pe, le, nx, il, qu, kn, ec, nu, va) Φl1 := hI1
  replace b_1 : i_1 ≤ 24 := b_1
  show Z p9 l e9 _ s9 m9 _ w9 t9 k9 _ G 10 3 [(9, .int (nI i_1)), (0, .ref x), (1, .long a), (3, .long b), (5, .long d), (7, .long f)] [] Φl1 _ _ _
  refine z_iload B dX12_keyOf_3 0 rfl ?_
  refine z_aload_n B dX12_keyOf_5 rfl 1 rfl ?_
  obtain ⟨v_1, v_2, v_3, n_1, v_4, v_5, v_6, v_7, v_8, v_9, v_10, v_11, v_12, n_2, v_13, n_3, n_4, v_14, v_15, h_1, b_13, b_2, b_3, b_4, b_5, b_6, b_7, b_8, b_9, b_10, b_11, b_12⟩ := im0 hI1
  replace b_2 : 1 ≤ n_1 := b_2
  replace b_3 : n_1 ≤ 1024 := b_3
  replace b_4 : fl ≤ 12 := b_4
  replace b_5 : pe ≤ 24 := b_5
  replace b_6 : le ≤ 700 := b_6
  replace b_7 : qu ≤ 12 := b_7
  replace b_8 : n_2 ≤ 8 := b_8
  replace b_9 : n_3 ≤ 24 := b_9
  replace b_10 : n_4 ≤ 24 := b_10
  replace b_11 : il ≤ 700 := b_11
  replace b_12 : nx ≤ 701 := b_12
  have h_2 : Φl1 x = some (o_ 14 [.int v_1, .ref (x + 1), .ref (x + 2), .int v_2, .int v_3, .int (nI n_1), .int v_4, .int v_5, .ref (x + 3), .ref (x + 4), .int v_6, .long v_7, .ref (x + 5), .int (nI fl), .int v_8, .long v_9, .long v_10, .long v_11, .long v_12, .ref (x + 6), .ref (x + 7), .int (nI pe), .ref (x + 8), .int (nI le), .ref (x + 9), .ref (x + 10), .int (nI qu), .ref (x + 11), .ref (x + 12), .ref (x + 13), .ref (x + 14), .ref (x + 15), .ref (x + 16), .int (nI n_2), .long v_13, .ref (x + 17), .ref (x + 18), .ref (x + 19), .ref (x + 20), .ref (x + 21), .ref (x + 22), .int (nI n_3), .ref (x + 23), .ref (x + 24), .int (nI n_4), .ref (x + 25), .int (nI il), .int (nI nx), .int ec, .int v_14, .int kn, .int v_15, .int nu, .long va]) := h_1
  refine z_get (ref := "FlowExporterModel") (C := RX12) (T := TX12) (N := 54) (ci := 14) (v := .int (nI n_3)) B (by decide +kernel) rfl 41 (by decide) (by decide +kernel) rfl h_2 rfl dX12_keyOf_6 ?_
  refine z_icmp_ge (tgt := 39) B dX12_keyOf_9 rfl (fun c_1 => ?_) (fun c_1 => ?_)
  · have e_1 : n_3 ≤ i_1 := (nI_leI (a := n_3) (b := i_1) (by omega) (by omega)).mp c_1
    refine z_iconst (v := (-1)) B dX12_keyOf_39 rfl ?_
    exact z_ret_i B dX12_keyOf_40 ⟨(Or.inl rfl), rfl, hI1, (fun b9 h9 => ((hF1 b9 (fun j9 h8 h7 => (show False from h7).elim)).trans rfl))⟩
  · have e_2 : ¬ (n_3 ≤ i_1) := fun h9 => c_1 ((nI_leI (a := n_3) (b := i_1) (by omega) (by omega)).mpr h9)
    refine z_aload_n B dX12_keyOf_12 rfl 1 rfl ?_
    refine z_get (ref := "FlowExporterModel") (C := RX12) (T := TX12) (N := 54) (ci := 14) (v := .ref (x + 19)) B (by decide +kernel) rfl 37 (by decide) (by decide +kernel) rfl h_2 rfl dX12_keyOf_13 ?_
    refine z_iload B dX12_keyOf_16 0 rfl ?_
    refine z_lload_n B dX12_keyOf_18 rfl 2 rfl ?_
    refine z_lload_n B dX12_keyOf_19 rfl 3 rfl ?_
    refine z_lload B dX12_keyOf_20 4 rfl ?_
    refine z_lload B dX12_keyOf_22 5 rfl ?_
    refine z_callS (As := [.ref (x + 19), .int (nI i_1), .long a, .long b, .long d, .long f]) (rest := []) B (r_isSame_19 G l Φl1 sz x rd fl pe le nx il qu kn ec nu va i_1 a b d f hx hI1 (show i_1 < 24 by omega)) (va_cwS 6 B.1.2.2.2.2 gX12_keyOf_X12_isSame rfl rfl rfl (by decide +kernel) ⟨Nat.le_of_ble_eq_true rfl, Nat.le_of_ble_eq_true rfl⟩) rfl rfl (Nat.le_of_ble_eq_true rfl) dX12_keyOf_24 ⟨Nat.le_of_ble_eq_true rfl, Nat.le_of_ble_eq_true rfl⟩ (fun r_1 Φ1 sz1 st1 hp1 hs1 => ?_)
    obtain ⟨⟨v_16, rfl, b_14⟩, hq1, hI2, hF2⟩ := hp1
    subst sz1
    replace hs1 : st1 = [.int v_16] := hs1
    subst st1
    replace hI2 : Im G x (rd, NN, fl, pe, le, nx, il, qu, kn, ec, nu, va) Φ1 := hI2
    refine z_if_eq (tgt := 33) B dX12_keyOf_27 rfl (fun c_2 => ?_) (fun c_2 => ?_)
    · refine z_iinc (k := 0) (v := nI (i_1 + 1)) (lv' := [(9, .int (nI (i_1 + 1))), (0, .ref x), (1, .long a), (3, .long b), (5, .long d), (7, .long f)]) B dX12_keyOf_33 rfl (nI_add i_1 1) (Nat.le_of_ble_eq_true rfl) rfl ?_
      refine z_goto (tgt := 3) B dX12_keyOf_36 rfl ?_
      refine z_lv [0, 1, 2, 3, 4, 5] rfl ?_
      exact ih1 (i_1 + 1) Φ1 (show 24 - (i_1 + 1) < 24 - i_1 by omega) ⟨hI2, (fun b9 h9 => ((hF2 b9 (fun j9 h8 h7 => (show False from h7).elim)).trans ((hF1 b9 (fun j9 h8 h7 => (show False from h7).elim)).trans rfl))), (show (i_1 + 1) ≤ 24 by omega), trivial⟩
    · refine z_iload B dX12_keyOf_30 0 rfl ?_
      exact z_ret_i B dX12_keyOf_32 ⟨(Or.inr ⟨i_1, (show i_1 < 24 by omega), rfl⟩), rfl, hI2, (fun b9 h9 => ((hF2 b9 (fun j9 h8 h7 => (show False from h7).elim)).trans ((hF1 b9 (fun j9 h8 h7 => (show False from h7).elim)).trans rfl)))⟩

set_option maxHeartbeats 4000000 in
set_option maxRecDepth 100000 in
theorem r_remember (G : EnvG) (l : Launch) (Φ : Hm) (sz x : Nat) (rd : (Nat → Int32) → Prop) (fl : Nat) (pe : Nat) (le : Nat) (nx : Nat) (il : Nat) (qu : Nat) (kn : Int32) (ec : Int32) (nu : Int32) (va : Int64) (a : Int32) (b : Int32) (d : Int32) (f : Int32) (g : Int32) (hx : G.2.2.2 ≤ x) (hI : Im G x (rd, NN, fl, pe, le, nx, il, qu, kn, ec, nu, va) Φ)  : Ct G l yX12_remember wsX12_remember ({ frames := 2, cells := 0, slots := 0, locals := 54 }) 0 0 [.ref x, .int a, .int b, .int d, .int f, .int g] Φ sz (fun v Φ1 sz1 => (v = none) ∧ sz1 = sz ∧ (Im G x (rd, NN, fl, pe, le, nx, il, qu, kn, ec, nu, va) Φ1) ∧ Fr x (fun j9 => j9 = 0 ∨ j9 = 23 ∨ j9 = 24) Φ Φ1) := by
  refine Ct.of (cc := cX12_remember) (maxL := 7) (ret := none) (by decide) rfl (Nat.le_of_ble_eq_true rfl) ?_
  intro p9 e9 s9 m9 w9 t9 k9 B
  show Z p9 l e9 _ s9 m9 _ w9 t9 k9 _ G 7 0 [(0, .ref x), (1, .int a), (2, .int b), (3, .int d), (4, .int f), (5, .int g)] [] Φ sz 0 0
  refine z_aload_n B dX12_remember_0 rfl 0 rfl ?_
  refine z_iload_n B dX12_remember_1 rfl 1 rfl ?_
  refine z_iload_n B dX12_remember_2 rfl 2 rfl ?_
  refine z_iload_n B dX12_remember_3 rfl 3 rfl ?_
  refine z_iload B dX12_remember_4 4 rfl ?_
  obtain ⟨v_1, v_2, v_3, n_1, v_4, v_5, v_6, v_7, v_8, v_9, v_10, v_11, v_12, n_2, v_13, n_3, n_4, v_14, v_15, h_1, b_12, b_1, b_2, b_3, b_4, b_5, b_6, b_7, b_8, b_9, b_10, b_11⟩ := im0 hI
  replace b_1 : 1 ≤ n_1 := b_1
  replace b_2 : n_1 ≤ 1024 := b_2
  replace b_3 : fl ≤ 12 := b_3
  replace b_4 : pe ≤ 24 := b_4
  replace b_5 : le ≤ 700 := b_5
  replace b_6 : qu ≤ 12 := b_6
  replace b_7 : n_2 ≤ 8 := b_7
  replace b_8 : n_3 ≤ 24 := b_8
  replace b_9 : n_4 ≤ 24 := b_9
  replace b_10 : il ≤ 700 := b_10
  replace b_11 : nx ≤ 701 := b_11
  have h_2 : Φ x = some (o_ 14 [.int v_1, .ref (x + 1), .ref (x + 2), .int v_2, .int v_3, .int (nI n_1), .int v_4, .int v_5, .ref (x + 3), .ref (x + 4), .int v_6, .long v_7, .ref (x + 5), .int (nI fl), .int v_8, .long v_9, .long v_10, .long v_11, .long v_12, .ref (x + 6), .ref (x + 7), .int (nI pe), .ref (x + 8), .int (nI le), .ref (x + 9), .ref (x + 10), .int (nI qu), .ref (x + 11), .ref (x + 12), .ref (x + 13), .ref (x + 14), .ref (x + 15), .ref (x + 16), .int (nI n_2), .long v_13, .ref (x + 17), .ref (x + 18), .ref (x + 19), .ref (x + 20), .ref (x + 21), .ref (x + 22), .int (nI n_3), .ref (x + 23), .ref (x + 24), .int (nI n_4), .ref (x + 25), .int (nI il), .int (nI nx), .int ec, .int v_14, .int kn, .int v_15, .int nu, .long va]) := h_1
  refine z_callV (As := [.int a, .int b, .int d, .int f]) (rest := []) B (r_trueKeyOf G l Φ sz x rd fl pe le nx il qu kn ec nu va a b d f hx hI ) (cwV 4 B.1.2.2.2.2 gX12_remember_X12_trueKeyOf rfl rfl rfl (by decide +kernel) ⟨Nat.le_of_ble_eq_true rfl, Nat.le_of_ble_eq_true rfl⟩) h_2 rfl rfl rfl rfl (Nat.le_of_ble_eq_true rfl) dX12_remember_6 ⟨Nat.le_of_ble_eq_true rfl, Nat.le_of_ble_eq_true rfl⟩ (fun r_1 Φ1 sz1 st1 hp1 hs1 => ?_)
  obtain ⟨ha1, hq1, hI1, hF1⟩ := hp1
  subst sz1
  replace hI1 : Im G x (rd, NN, fl, pe, le, nx, il, qu, kn, ec, nu, va) Φ1 := hI1
  rcases ha1 with rfl | ⟨n_5, b_13, rfl⟩
  · replace hs1 : st1 = [.int (-1)] := hs1
    subst st1
    refine z_istore (lv' := [(6, .int (-1)), (0, .ref x), (1, .int a), (2, .int b), (3, .int d), (4, .int f), (5, .int g)]) B dX12_remember_9 (Nat.le_of_ble_eq_true rfl) rfl ?_
    refine z_iload B dX12_remember_11 0 rfl ?_
    refine z_iconst (v := (-1)) B dX12_remember_13 rfl ?_
    refine z_icmp_ne (tgt := 27) B dX12_remember_14 rfl (fun h9 => absurd (by decide) h9) (fun c_1 => ?_)
    refine z_aload_n B dX12_remember_17 rfl 1 rfl ?_
    have h_3 : Φ1 x = some (o_ 14 [.int v_1, .ref (x + 1), .ref (x + 2), .int v_2, .int v_3, .int (nI n_1), .int v_4, .int v_5, .ref (x + 3), .ref (x + 4), .int v_6, .long v_7, .ref (x + 5), .int (nI fl), .int v_8, .long v_9, .long v_10, .long v_11, .long v_12, .ref (x + 6), .ref (x + 7), .int (nI pe), .ref (x + 8), .int (nI le), .ref (x + 9), .ref (x + 10), .int (nI qu), .ref (x + 11), .ref (x + 12), .ref (x + 13), .ref (x + 14), .ref (x + 15), .ref (x + 16), .int (nI n_2), .long v_13, .ref (x + 17), .ref (x + 18), .ref (x + 19), .ref (x + 20), .ref (x + 21), .ref (x + 22), .int (nI n_3), .ref (x + 23), .ref (x + 24), .int (nI n_4), .ref (x + 25), .int (nI il), .int (nI nx), .int ec, .int v_14, .int kn, .int v_15, .int nu, .long va]) := ((hF1 x (fun j9 h8 h7 => (show False from h7).elim)).trans h_2)
    refine z_get (ref := "FlowExporterModel") (C := RX12) (T := TX12) (N := 54) (ci := 14) (v := .int (nI n_4)) B (by decide +kernel) rfl 44 (by decide) (by decide +kernel) rfl h_3 rfl dX12_remember_18 ?_
    refine z_bipush (v := 24) B dX12_remember_21 rfl ?_
    refine z_icmp_ne (tgt := 27) B dX12_remember_23 rfl (fun c_2 => ?_) (fun c_2 => ?_)
    · have e_1 : ¬ (n_4 = 24) := fun h9 => c_2 ((nI_eq (a := n_4) (b := 24) (by omega) (by omega)).mpr h9)
      refine z_iload B dX12_remember_27 0 rfl ?_
      refine z_iconst (v := (-1)) B dX12_remember_29 rfl ?_
      refine z_icmp_ne (tgt := 118) B dX12_remember_30 rfl (fun h9 => absurd (by decide) h9) (fun c_3 => ?_)
      refine z_aload_n B dX12_remember_33 rfl 1 rfl ?_
      refine z_get (ref := "FlowExporterModel") (C := RX12) (T := TX12) (N := 54) (ci := 14) (v := .int (nI n_4)) B (by decide +kernel) rfl 44 (by decide) (by decide +kernel) rfl h_3 rfl dX12_remember_34 ?_
      refine z_istore (lv' := [(6, .int (nI n_4)), (0, .ref x), (1, .int a), (2, .int b), (3, .int d), (4, .int f), (5, .int g)]) B dX12_remember_37 (Nat.le_of_ble_eq_true rfl) rfl ?_
      refine z_aload_n B dX12_remember_39 rfl 1 rfl ?_
      refine z_dup B dX12_remember_40 rfl ?_
      refine z_get (ref := "FlowExporterModel") (C := RX12) (T := TX12) (N := 54) (ci := 14) (v := .int (nI n_4)) B (by decide +kernel) rfl 44 (by decide) (by decide +kernel) rfl h_3 rfl dX12_remember_41 ?_
      refine z_iconst (v := 1) B dX12_remember_44 rfl ?_
      refine z_iadd B dX12_remember_45 ?_
      refine z_top (st1 := [.int (nI (n_4 + 1)), .ref x]) (congrArg (fun w9 : Int32 => ([.int w9, .ref x] : List Value)) (nI_add n_4 1)) ?_
      refine z_put (ref := "FlowExporterModel") (C := RX12) (T := TX12) (N := 54) (ci := 14) (v := .int (nI (n_4 + 1))) B (by decide +kernel) tyX12 tyX12_ok nmX12 rfl 44 (by decide) (by decide +kernel) rfl (Or.inl rfl) h_3 hx rfl rfl (Nat.le_of_ble_eq_true rfl) dX12_remember_46 (fun Φ2 hΦ1 => ?_)
      have h_4 : Φ2 x = some (o_ 14 [.int v_1, .ref (x + 1), .ref (x + 2), .int v_2, .int v_3, .int (nI n_1), .int v_4, .int v_5, .ref (x + 3), .ref (x + 4), .int v_6, .long v_7, .ref (x + 5), .int (nI fl), .int v_8, .long v_9, .long v_10, .long v_11, .long v_12, .ref (x + 6), .ref (x + 7), .int (nI pe), .ref (x + 8), .int (nI le), .ref (x + 9), .ref (x + 10), .int (nI qu), .ref (x + 11), .ref (x + 12), .ref (x + 13), .ref (x + 14), .ref (x + 15), .ref (x + 16), .int (nI n_2), .long v_13, .ref (x + 17), .ref (x + 18), .ref (x + 19), .ref (x + 20), .ref (x + 21), .ref (x + 22), .int (nI n_3), .ref (x + 23), .ref (x + 24), .int (nI (n_4 + 1)), .ref (x + 25), .int (nI il), .int (nI nx), .int ec, .int v_14, .int kn, .int v_15, .int nu, .long va]) := fset_at hΦ1
      have hI2 : Im G x (rd, NN, fl, pe, le, nx, il, qu, kn, ec, nu, va) Φ2 := Im.put0 hI1 hΦ1 ⟨v_1, v_2, v_3, n_1, v_4, v_5, v_6, v_7, v_8, v_9, v_10, v_11, v_12, n_2, v_13, n_3, n_4 + 1, v_14, v_15, rfl, b_12, (show 1 ≤ n_1 by omega), (show n_1 ≤ 1024 by omega), (show fl ≤ 12 by omega), (show pe ≤ 24 by omega), (show le ≤ 700 by omega), (show qu ≤ 12 by omega), (show n_2 ≤ 8 by omega), (show n_3 ≤ 24 by omega), (show (n_4 + 1) ≤ 24 by omega), (show il ≤ 700 by omega), (show nx ≤ 701 by omega)⟩
      refine z_aload_n B dX12_remember_49 rfl 1 rfl ?_
      refine z_get (ref := "FlowExporterModel") (C := RX12) (T := TX12) (N := 54) (ci := 14) (v := .ref (x + 23)) B (by decide +kernel) rfl 42 (by decide) (by decide +kernel) rfl h_4 rfl dX12_remember_50 ?_
      refine z_iconst (v := 4) B dX12_remember_53 rfl ?_
      refine z_iload B dX12_remember_54 0 rfl ?_
      refine z_imul B dX12_remember_56 ?_
      refine z_top (st1 := [.int (nI (4 * n_4)), .ref (x + 23)]) (congrArg (fun w9 : Int32 => ([.int w9, .ref (x + 23)] : List Value)) (nI_mul 4 n_4)) ?_
      refine z_iload_n B dX12_remember_57 rfl 2 rfl ?_
      obtain ⟨f_1, h_5⟩ := imk (k := 23) hI2
      have h_6 : Φ2 (x + 23) = some (ai_ G 96 f_1) := h_5
      refine z_iast B h_6 (Nat.le_trans hx (Nat.le_add_right x 23)) (vp_in_nI (by omega) (by omega)) dX12_remember_58 (fun Φ3 hΦ2 => ?_)
      have h_7 : Φ3 (x + 23) = some (ai_ G 96 (upd f_1 (nI (4 * n_4)).toNatClampNeg a)) := fset_at hΦ2
      have hI3 : Im G x (rd, NN, fl, pe, le, nx, il, qu, kn, ec, nu, va) Φ3 := Im.put (k := 23) hI2 hΦ2 ⟨_, rfl⟩
      refine z_aload_n B dX12_remember_59 rfl 1 rfl ?_
      have h_8 : Φ3 x = some (o_ 14 [.int v_1, .ref (x + 1), .ref (x + 2), .int v_2, .int v_3, .int (nI n_1), .int v_4, .int v_5, .ref (x + 3), .ref (x + 4), .int v_6, .long v_7, .ref (x + 5), .int (nI fl), .int v_8, .long v_9, .long v_10, .long v_11, .long v_12, .ref (x + 6), .ref (x + 7), .int (nI pe), .ref (x + 8), .int (nI le), .ref (x + 9), .ref (x + 10), .int (nI qu), .ref (x + 11), .ref (x + 12), .ref (x + 13), .ref (x + 14), .ref (x + 15), .ref (x + 16), .int (nI n_2), .long v_13, .ref (x + 17), .ref (x + 18), .ref (x + 19), .ref (x + 20), .ref (x + 21), .ref (x + 22), .int (nI n_3), .ref (x + 23), .ref (x + 24), .int (nI (n_4 + 1)), .ref (x + 25), .int (nI il), .int (nI nx), .int ec, .int v_14, .int kn, .int v_15, .int nu, .long va]) := ((fset_fr hΦ2 (ne_off (x := x) (i := 0) (j := 23) rfl)).trans h_4)
      refine z_get (ref := "FlowExporterModel") (C := RX12) (T := TX12) (N := 54) (ci := 14) (v := .ref (x + 23)) B (by decide +kernel) rfl 42 (by decide) (by decide +kernel) rfl h_8 rfl dX12_remember_60 ?_
      refine z_iconst (v := 4) B dX12_remember_63 rfl ?_
      refine z_iload B dX12_remember_64 0 rfl ?_
      refine z_imul B dX12_remember_66 ?_
      refine z_top (st1 := [.int (nI (4 * n_4)), .ref (x + 23)]) (congrArg (fun w9 : Int32 => ([.int w9, .ref (x + 23)] : List Value)) (nI_mul 4 n_4)) ?_
      refine z_iconst (v := 1) B dX12_remember_67 rfl ?_
      refine z_iadd B dX12_remember_68 ?_
      refine z_top (st1 := [.int (nI (4 * n_4 + 1)), .ref (x + 23)]) (congrArg (fun w9 : Int32 => ([.int w9, .ref (x + 23)] : List Value)) (nI_add (4 * n_4) 1)) ?_
      refine z_iload_n B dX12_remember_69 rfl 3 rfl ?_
      obtain ⟨f_2, h_9⟩ := imk (k := 23) hI3
      have h_10 : Φ3 (x + 23) = some (ai_ G 96 f_2) := h_9
      refine z_iast B h_10 (Nat.le_trans hx (Nat.le_add_right x 23)) (vp_in_nI (by omega) (by omega)) dX12_remember_70 (fun Φ4 hΦ3 => ?_)
      have h_11 : Φ4 (x + 23) = some (ai_ G 96 (upd f_2 (nI (4 * n_4 + 1)).toNatClampNeg b)) := fset_at hΦ3
      have hI4 : Im G x (rd, NN, fl, pe, le, nx, il, qu, kn, ec, nu, va) Φ4 := Im.put (k := 23) hI3 hΦ3 ⟨_, rfl⟩
      refine z_aload_n B dX12_remember_71 rfl 1 rfl ?_
      have h_12 : Φ4 x = some (o_ 14 [.int v_1, .ref (x + 1), .ref (x + 2), .int v_2, .int v_3, .int (nI n_1), .int v_4, .int v_5, .ref (x + 3), .ref (x + 4), .int v_6, .long v_7, .ref (x + 5), .int (nI fl), .int v_8, .long v_9, .long v_10, .long v_11, .long v_12, .ref (x + 6), .ref (x + 7), .int (nI pe), .ref (x + 8), .int (nI le), .ref (x + 9), .ref (x + 10), .int (nI qu), .ref (x + 11), .ref (x + 12), .ref (x + 13), .ref (x + 14), .ref (x + 15), .ref (x + 16), .int (nI n_2), .long v_13, .ref (x + 17), .ref (x + 18), .ref (x + 19), .ref (x + 20), .ref (x + 21), .ref (x + 22), .int (nI n_3), .ref (x + 23), .ref (x + 24), .int (nI (n_4 + 1)), .ref (x + 25), .int (nI il), .int (nI nx), .int ec, .int v_14, .int kn, .int v_15, .int nu, .long va]) := ((fset_fr hΦ3 (ne_off (x := x) (i := 0) (j := 23) rfl)).trans h_8)
      refine z_get (ref := "FlowExporterModel") (C := RX12) (T := TX12) (N := 54) (ci := 14) (v := .ref (x + 23)) B (by decide +kernel) rfl 42 (by decide) (by decide +kernel) rfl h_12 rfl dX12_remember_72 ?_
      refine z_iconst (v := 4) B dX12_remember_75 rfl ?_
      refine z_iload B dX12_remember_76 0 rfl ?_
      refine z_imul B dX12_remember_78 ?_
      refine z_top (st1 := [.int (nI (4 * n_4)), .ref (x + 23)]) (congrArg (fun w9 : Int32 => ([.int w9, .ref (x + 23)] : List Value)) (nI_mul 4 n_4)) ?_
      refine z_iconst (v := 2) B dX12_remember_79 rfl ?_
      refine z_iadd B dX12_remember_80 ?_
      refine z_top (st1 := [.int (nI (4 * n_4 + 2)), .ref (x + 23)]) (congrArg (fun w9 : Int32 => ([.int w9, .ref (x + 23)] : List Value)) (nI_add (4 * n_4) 2)) ?_
      refine z_iload_n B dX12_remember_81 rfl 4 rfl ?_
      obtain ⟨f_3, h_13⟩ := imk (k := 23) hI4
      have h_14 : Φ4 (x + 23) = some (ai_ G 96 f_3) := h_13
      refine z_iast B h_14 (Nat.le_trans hx (Nat.le_add_right x 23)) (vp_in_nI (by omega) (by omega)) dX12_remember_82 (fun Φ5 hΦ4 => ?_)
      have h_15 : Φ5 (x + 23) = some (ai_ G 96 (upd f_3 (nI (4 * n_4 + 2)).toNatClampNeg d)) := fset_at hΦ4
      have hI5 : Im G x (rd, NN, fl, pe, le, nx, il, qu, kn, ec, nu, va) Φ5 := Im.put (k := 23) hI4 hΦ4 ⟨_, rfl⟩
      refine z_aload_n B dX12_remember_83 rfl 1 rfl ?_
      have h_16 : Φ5 x = some (o_ 14 [.int v_1, .ref (x + 1), .ref (x + 2), .int v_2, .int v_3, .int (nI n_1), .int v_4, .int v_5, .ref (x + 3), .ref (x + 4), .int v_6, .long v_7, .ref (x + 5), .int (nI fl), .int v_8, .long v_9, .long v_10, .long v_11, .long v_12, .ref (x + 6), .ref (x + 7), .int (nI pe), .ref (x + 8), .int (nI le), .ref (x + 9), .ref (x + 10), .int (nI qu), .ref (x + 11), .ref (x + 12), .ref (x + 13), .ref (x + 14), .ref (x + 15), .ref (x + 16), .int (nI n_2), .long v_13, .ref (x + 17), .ref (x + 18), .ref (x + 19), .ref (x + 20), .ref (x + 21), .ref (x + 22), .int (nI n_3), .ref (x + 23), .ref (x + 24), .int (nI (n_4 + 1)), .ref (x + 25), .int (nI il), .int (nI nx), .int ec, .int v_14, .int kn, .int v_15, .int nu, .long va]) := ((fset_fr hΦ4 (ne_off (x := x) (i := 0) (j := 23) rfl)).trans h_12)
      refine z_get (ref := "FlowExporterModel") (C := RX12) (T := TX12) (N := 54) (ci := 14) (v := .ref (x + 23)) B (by decide +kernel) rfl 42 (by decide) (by decide +kernel) rfl h_16 rfl dX12_remember_84 ?_
      refine z_iconst (v := 4) B dX12_remember_87 rfl ?_
      refine z_iload B dX12_remember_88 0 rfl ?_
      refine z_imul B dX12_remember_90 ?_
      refine z_top (st1 := [.int (nI (4 * n_4)), .ref (x + 23)]) (congrArg (fun w9 : Int32 => ([.int w9, .ref (x + 23)] : List Value)) (nI_mul 4 n_4)) ?_
      refine z_iconst (v := 3) B dX12_remember_91 rfl ?_
      refine z_iadd B dX12_remember_92 ?_
      refine z_top (st1 := [.int (nI (4 * n_4 + 3)), .ref (x + 23)]) (congrArg (fun w9 : Int32 => ([.int w9, .ref (x + 23)] : List Value)) (nI_add (4 * n_4) 3)) ?_
      refine z_iload B dX12_remember_93 5 rfl ?_
      obtain ⟨f_4, h_17⟩ := imk (k := 23) hI5
      have h_18 : Φ5 (x + 23) = some (ai_ G 96 f_4) := h_17
      refine z_iast B h_18 (Nat.le_trans hx (Nat.le_add_right x 23)) (vp_in_nI (by omega) (by omega)) dX12_remember_95 (fun Φ6 hΦ5 => ?_)
      have h_19 : Φ6 (x + 23) = some (ai_ G 96 (upd f_4 (nI (4 * n_4 + 3)).toNatClampNeg f)) := fset_at hΦ5
      have hI6 : Im G x (rd, NN, fl, pe, le, nx, il, qu, kn, ec, nu, va) Φ6 := Im.put (k := 23) hI5 hΦ5 ⟨_, rfl⟩
      refine z_aload_n B dX12_remember_96 rfl 1 rfl ?_
      have h_20 : Φ6 x = some (o_ 14 [.int v_1, .ref (x + 1), .ref (x + 2), .int v_2, .int v_3, .int (nI n_1), .int v_4, .int v_5, .ref (x + 3), .ref (x + 4), .int v_6, .long v_7, .ref (x + 5), .int (nI fl), .int v_8, .long v_9, .long v_10, .long v_11, .long v_12, .ref (x + 6), .ref (x + 7), .int (nI pe), .ref (x + 8), .int (nI le), .ref (x + 9), .ref (x + 10), .int (nI qu), .ref (x + 11), .ref (x + 12), .ref (x + 13), .ref (x + 14), .ref (x + 15), .ref (x + 16), .int (nI n_2), .long v_13, .ref (x + 17), .ref (x + 18), .ref (x + 19), .ref (x + 20), .ref (x + 21), .ref (x + 22), .int (nI n_3), .ref (x + 23), .ref (x + 24), .int (nI (n_4 + 1)), .ref (x + 25), .int (nI il), .int (nI nx), .int ec, .int v_14, .int kn, .int v_15, .int nu, .long va]) := ((fset_fr hΦ5 (ne_off (x := x) (i := 0) (j := 23) rfl)).trans h_16)
      refine z_get (ref := "FlowExporterModel") (C := RX12) (T := TX12) (N := 54) (ci := 14) (v := .ref (x + 24)) B (by decide +kernel) rfl 43 (by decide) (by decide +kernel) rfl h_20 rfl dX12_remember_97 ?_
      refine z_iconst (v := 2) B dX12_remember_100 rfl ?_
      refine z_iload B dX12_remember_101 0 rfl ?_
      refine z_imul B dX12_remember_103 ?_
      refine z_top (st1 := [.int (nI (2 * n_4)), .ref (x + 24)]) (congrArg (fun w9 : Int32 => ([.int w9, .ref (x + 24)] : List Value)) (nI_mul 2 n_4)) ?_
      refine z_lconst (v := 0) B dX12_remember_104 rfl ?_
      obtain ⟨f_5, h_21⟩ := imk (k := 24) hI6
      have h_22 : Φ6 (x + 24) = some (al_ G 48 f_5) := h_21
      refine z_last B h_22 (Nat.le_trans hx (Nat.le_add_right x 24)) (vp_in_nI (by omega) (by omega)) dX12_remember_105 (fun Φ7 hΦ6 => ?_)
      have h_23 : Φ7 (x + 24) = some (al_ G 48 (vp_updL f_5 (nI (2 * n_4)).toNatClampNeg 0)) := fset_at hΦ6
      have hI7 : Im G x (rd, NN, fl, pe, le, nx, il, qu, kn, ec, nu, va) Φ7 := Im.put (k := 24) hI6 hΦ6 ⟨_, rfl⟩
      refine z_aload_n B dX12_remember_106 rfl 1 rfl ?_
      have h_24 : Φ7 x = some (o_ 14 [.int v_1, .ref (x + 1), .ref (x + 2), .int v_2, .int v_3, .int (nI n_1), .int v_4, .int v_5, .ref (x + 3), .ref (x + 4), .int v_6, .long v_7, .ref (x + 5), .int (nI fl), .int v_8, .long v_9, .long v_10, .long v_11, .long v_12, .ref (x + 6), .ref (x + 7), .int (nI pe), .ref (x + 8), .int (nI le), .ref (x + 9), .ref (x + 10), .int (nI qu), .ref (x + 11), .ref (x + 12), .ref (x + 13), .ref (x + 14), .ref (x + 15), .ref (x + 16), .int (nI n_2), .long v_13, .ref (x + 17), .ref (x + 18), .ref (x + 19), .ref (x + 20), .ref (x + 21), .ref (x + 22), .int (nI n_3), .ref (x + 23), .ref (x + 24), .int (nI (n_4 + 1)), .ref (x + 25), .int (nI il), .int (nI nx), .int ec, .int v_14, .int kn, .int v_15, .int nu, .long va]) := ((fset_fr hΦ6 (ne_off (x := x) (i := 0) (j := 24) rfl)).trans h_20)
      refine z_get (ref := "FlowExporterModel") (C := RX12) (T := TX12) (N := 54) (ci := 14) (v := .ref (x + 24)) B (by decide +kernel) rfl 43 (by decide) (by decide +kernel) rfl h_24 rfl dX12_remember_107 ?_
      refine z_iconst (v := 2) B dX12_remember_110 rfl ?_
      refine z_iload B dX12_remember_111 0 rfl ?_
      refine z_imul B dX12_remember_113 ?_
      refine z_top (st1 := [.int (nI (2 * n_4)), .ref (x + 24)]) (congrArg (fun w9 : Int32 => ([.int w9, .ref (x + 24)] : List Value)) (nI_mul 2 n_4)) ?_
      refine z_iconst (v := 1) B dX12_remember_114 rfl ?_
      refine z_iadd B dX12_remember_115 ?_
      refine z_top (st1 := [.int (nI (2 * n_4 + 1)), .ref (x + 24)]) (congrArg (fun w9 : Int32 => ([.int w9, .ref (x + 24)] : List Value)) (nI_add (2 * n_4) 1)) ?_
      refine z_lconst (v := 0) B dX12_remember_116 rfl ?_
      obtain ⟨f_6, h_25⟩ := imk (k := 24) hI7
      have h_26 : Φ7 (x + 24) = some (al_ G 48 f_6) := h_25
      refine z_last B h_26 (Nat.le_trans hx (Nat.le_add_right x 24)) (vp_in_nI (by omega) (by omega)) dX12_remember_117 (fun Φ8 hΦ7 => ?_)
      have h_27 : Φ8 (x + 24) = some (al_ G 48 (vp_updL f_6 (nI (2 * n_4 + 1)).toNatClampNeg 0)) := fset_at hΦ7
      have hI8 : Im G x (rd, NN, fl, pe, le, nx, il, qu, kn, ec, nu, va) Φ8 := Im.put (k := 24) hI7 hΦ7 ⟨_, rfl⟩
      refine z_aload_n B dX12_remember_118 rfl 1 rfl ?_
      have h_28 : Φ8 x = some (o_ 14 [.int v_1, .ref (x + 1), .ref (x + 2), .int v_2, .int v_3, .int (nI n_1), .int v_4, .int v_5, .ref (x + 3), .ref (x + 4), .int v_6, .long v_7, .ref (x + 5), .int (nI fl), .int v_8, .long v_9, .long v_10, .long v_11, .long v_12, .ref (x + 6), .ref (x + 7), .int (nI pe), .ref (x + 8), .int (nI le), .ref (x + 9), .ref (x + 10), .int (nI qu), .ref (x + 11), .ref (x + 12), .ref (x + 13), .ref (x + 14), .ref (x + 15), .ref (x + 16), .int (nI n_2), .long v_13, .ref (x + 17), .ref (x + 18), .ref (x + 19), .ref (x + 20), .ref (x + 21), .ref (x + 22), .int (nI n_3), .ref (x + 23), .ref (x + 24), .int (nI (n_4 + 1)), .ref (x + 25), .int (nI il), .int (nI nx), .int ec, .int v_14, .int kn, .int v_15, .int nu, .long va]) := ((fset_fr hΦ7 (ne_off (x := x) (i := 0) (j := 24) rfl)).trans h_24)
      refine z_get (ref := "FlowExporterModel") (C := RX12) (T := TX12) (N := 54) (ci := 14) (v := .ref (x + 24)) B (by decide +kernel) rfl 43 (by decide) (by decide +kernel) rfl h_28 rfl dX12_remember_119 ?_
      refine z_iconst (v := 2) B dX12_remember_122 rfl ?_
      refine z_iload B dX12_remember_123 0 rfl ?_
      refine z_imul B dX12_remember_125 ?_
      refine z_top (st1 := [.int (nI (2 * n_4)), .ref (x + 24)]) (congrArg (fun w9 : Int32 => ([.int w9, .ref (x + 24)] : List Value)) (nI_mul 2 n_4)) ?_
      refine z_dup2_11 B dX12_remember_126 rfl rfl ?_
      obtain ⟨f_7, h_29⟩ := imk (k := 24) hI8
      have h_30 : Φ8 (x + 24) = some (al_ G 48 f_7) := h_29
      refine z_lald B h_30 (vp_in_nI (by omega) (by omega)) dX12_remember_127 ?_
      refine z_fl (fun v_16 => ?_)
      refine z_lconst (v := 1) B dX12_remember_128 rfl ?_
      refine z_ladd B dX12_remember_129 ?_
      refine z_fl (fun v_17 => ?_)
      refine z_last B h_30 (Nat.le_trans hx (Nat.le_add_right x 24)) (vp_in_nI (by omega) (by omega)) dX12_remember_130 (fun Φ9 hΦ8 => ?_)
      have h_31 : Φ9 (x + 24) = some (al_ G 48 (vp_updL f_7 (nI (2 * n_4)).toNatClampNeg v_17)) := fset_at hΦ8
      have hI9 : Im G x (rd, NN, fl, pe, le, nx, il, qu, kn, ec, nu, va) Φ9 := Im.put (k := 24) hI8 hΦ8 ⟨_, rfl⟩
      refine z_aload_n B dX12_remember_131 rfl 1 rfl ?_
      have h_32 : Φ9 x = some (o_ 14 [.int v_1, .ref (x + 1), .ref (x + 2), .int v_2, .int v_3, .int (nI n_1), .int v_4, .int v_5, .ref (x + 3), .ref (x + 4), .int v_6, .long v_7, .ref (x + 5), .int (nI fl), .int v_8, .long v_9, .long v_10, .long v_11, .long v_12, .ref (x + 6), .ref (x + 7), .int (nI pe), .ref (x + 8), .int (nI le), .ref (x + 9), .ref (x + 10), .int (nI qu), .ref (x + 11), .ref (x + 12), .ref (x + 13), .ref (x + 14), .ref (x + 15), .ref (x + 16), .int (nI n_2), .long v_13, .ref (x + 17), .ref (x + 18), .ref (x + 19), .ref (x + 20), .ref (x + 21), .ref (x + 22), .int (nI n_3), .ref (x + 23), .ref (x + 24), .int (nI (n_4 + 1)), .ref (x + 25), .int (nI il), .int (nI nx), .int ec, .int v_14, .int kn, .int v_15, .int nu, .long va]) := ((fset_fr hΦ8 (ne_off (x := x) (i := 0) (j := 24) rfl)).trans h_28)
      refine z_get (ref := "FlowExporterModel") (C := RX12) (T := TX12) (N := 54) (ci := 14) (v := .ref (x + 24)) B (by decide +kernel) rfl 43 (by decide) (by decide +kernel) rfl h_32 rfl dX12_remember_132 ?_
      refine z_iconst (v := 2) B dX12_remember_135 rfl ?_
      refine z_iload B dX12_remember_136 0 rfl ?_
      refine z_imul B dX12_remember_138 ?_
      refine z_top (st1 := [.int (nI (2 * n_4)), .ref (x + 24)]) (congrArg (fun w9 : Int32 => ([.int w9, .ref (x + 24)] : List Value)) (nI_mul 2 n_4)) ?_
      refine z_iconst (v := 1) B dX12_remember_139 rfl ?_
      refine z_iadd B dX12_remember_140 ?_
      refine z_top (st1 := [.int (nI (2 * n_4 + 1)), .ref (x + 24)]) (congrArg (fun w9 : Int32 => ([.int w9, .ref (x + 24)] : List Value)) (nI_add (2 * n_4) 1)) ?_
      refine z_dup2_11 B dX12_remember_141 rfl rfl ?_
      obtain ⟨f_8, h_33⟩ := imk (k := 24) hI9
      have h_34 : Φ9 (x + 24) = some (al_ G 48 f_8) := h_33
      refine z_lald B h_34 (vp_in_nI (by omega) (by omega)) dX12_remember_142 ?_
      refine z_fl (fun v_18 => ?_)
      refine z_iload B dX12_remember_143 6 rfl ?_
      refine z_i2l (v := g.toInt64) B dX12_remember_145 rfl ?_
      refine z_ladd B dX12_remember_146 ?_
      refine z_fl (fun v_19 => ?_)
      refine z_last B h_34 (Nat.le_trans hx (Nat.le_add_right x 24)) (vp_in_nI (by omega) (by omega)) dX12_remember_147 (fun Φ10 hΦ9 => ?_)
      have h_35 : Φ10 (x + 24) = some (al_ G 48 (vp_updL f_8 (nI (2 * n_4 + 1)).toNatClampNeg v_19)) := fset_at hΦ9
      have hI10 : Im G x (rd, NN, fl, pe, le, nx, il, qu, kn, ec, nu, va) Φ10 := Im.put (k := 24) hI9 hΦ9 ⟨_, rfl⟩
      exact z_ret_v B dX12_remember_148 ⟨rfl, rfl, hI10, (fun b9 h9 => ((fset_fr hΦ9 (fun h8 => h9 (24) h8 (show 24 = 0 ∨ 24 = 23 ∨ 24 = 24 by omega))).trans ((fset_fr hΦ8 (fun h8 => h9 (24) h8 (show 24 = 0 ∨ 24 = 23 ∨ 24 = 24 by omega))).trans ((fset_fr hΦ7 (fun h8 => h9 (24) h8 (show 24 = 0 ∨ 24 = 23 ∨ 24 = 24 by omega))).trans ((fset_fr hΦ6 (fun h8 => h9 (24) h8 (show 24 = 0 ∨ 24 = 23 ∨ 24 = 24 by omega))).trans ((fset_fr hΦ5 (fun h8 => h9 (23) h8 (show 23 = 0 ∨ 23 = 23 ∨ 23 = 24 by omega))).trans ((fset_fr hΦ4 (fun h8 => h9 (23) h8 (show 23 = 0 ∨ 23 = 23 ∨ 23 = 24 by omega))).trans ((fset_fr hΦ3 (fun h8 => h9 (23) h8 (show 23 = 0 ∨ 23 = 23 ∨ 23 = 24 by omega))).trans ((fset_fr hΦ2 (fun h8 => h9 (23) h8 (show 23 = 0 ∨ 23 = 23 ∨ 23 = 24 by omega))).trans ((fset_fr hΦ1 (fun h8 => h9 (0) h8 (show 0 = 0 ∨ 0 = 23 ∨ 0 = 24 by omega))).trans ((hF1 b9 (fun j9 h8 h7 => (show False from h7).elim)).trans rfl)))))))))))⟩
    · have e_2 : n_4 = 24 := (nI_eq (a := n_4) (b := 24) (by omega) (by omega)).mp c_2
      exact z_ret_v B dX12_remember_26 ⟨rfl, rfl, hI1, (fun b9 h9 => ((hF1 b9 (fun j9 h8 h7 => (show False from h7).elim)).trans rfl))⟩
  · replace hs1 : st1 = [.int (nI n_5)] := hs1
    subst st1
    replace b_13 : n_5 < 24 := b_13
    refine z_istore (lv' := [(6, .int (nI n_5)), (0, .ref x), (1, .int a), (2, .int b), (3, .int d), (4, .int f), (5, .int g)]) B dX12_remember_9 (Nat.le_of_ble_eq_true rfl) rfl ?_
    refine z_iload B dX12_remember_11 0 rfl ?_
    refine z_iconst (v := (-1)) B dX12_remember_13 rfl ?_
    refine z_icmp_ne (tgt := 27) B dX12_remember_14 rfl (fun c_4 => ?_) (fun h9 => absurd h9 (nI_nm1 (n := n_5) (by omega)))
    refine z_iload B dX12_remember_27 0 rfl ?_
    refine z_iconst (v := (-1)) B dX12_remember_29 rfl ?_
    refine z_icmp_ne (tgt := 118) B dX12_remember_30 rfl (fun c_5 => ?_) (fun h9 => absurd h9 (nI_nm1 (n := n_5) (by omega)))
    refine z_aload_n B dX12_remember_118 rfl 1 rfl ?_
    have h_36 : Φ1 x = some (o_ 14 [.int v_1, .ref (x + 1), .ref (x + 2), .int v_2, .int v_3, .int (nI n_1), .int v_4, .int v_5, .ref (x + 3), .ref (x + 4), .int v_6, .long v_7, .ref (x + 5), .int (nI fl), .int v_8, .long v_9, .long v_10, .long v_11, .long v_12, .ref (x + 6), .ref (x + 7), .int (nI pe), .ref (x + 8), .int (nI le), .ref (x + 9), .ref (x + 10), .int (nI qu), .ref (x + 11), .ref (x + 12), .ref (x + 13), .ref (x + 14), .ref (x + 15), .ref (x + 16), .int (nI n_2), .long v_13, .ref (x + 17), .ref (x + 18), .ref (x + 19), .ref (x + 20), .ref (x + 21), .ref (x + 22), .int (nI n_3), .ref (x + 23), .ref (x + 24), .int (nI n_4), .ref (x + 25), .int (nI il), .int (nI nx), .int ec, .int v_14, .int kn, .int v_15, .int nu, .long va]) := ((hF1 x (fun j9 h8 h7 => (show False from h7).elim)).trans h_2)
    refine z_get (ref := "FlowExporterModel") (C := RX12) (T := TX12) (N := 54) (ci := 14) (v := .ref (x + 24)) B (by decide +kernel) rfl 43 (by decide) (by decide +kernel) rfl h_36 rfl dX12_remember_119 ?_
    refine z_iconst (v := 2) B dX12_remember_122 rfl ?_
    refine z_iload B dX12_remember_123 0 rfl ?_
    refine z_imul B dX12_remember_125 ?_
    refine z_top (st1 := [.int (nI (2 * n_5)), .ref (x + 24)]) (congrArg (fun w9 : Int32 => ([.int w9, .ref (x + 24)] : List Value)) (nI_mul 2 n_5)) ?_
    refine z_dup2_11 B dX12_remember_126 rfl rfl ?_
    obtain ⟨f_9, h_37⟩ := imk (k := 24) hI1
    have h_38 : Φ1 (x + 24) = some (al_ G 48 f_9) := h_37
    refine z_lald B h_38 (vp_in_nI (by omega) (by omega)) dX12_remember_127 ?_
    refine z_fl (fun v_20 => ?_)
    refine z_lconst (v := 1) B dX12_remember_128 rfl ?_
    refine z_ladd B dX12_remember_129 ?_
    refine z_fl (fun v_21 => ?_)
    refine z_last B h_38 (Nat.le_trans hx (Nat.le_add_right x 24)) (vp_in_nI (by omega) (by omega)) dX12_remember_130 (fun Φ11 hΦ10 => ?_)
    have h_39 : Φ11 (x + 24) = some (al_ G 48 (vp_updL f_9 (nI (2 * n_5)).toNatClampNeg v_21)) := fset_at hΦ10
    have hI11 : Im G x (rd, NN, fl, pe, le, nx, il, qu, kn, ec, nu, va) Φ11 := Im.put (k := 24) hI1 hΦ10 ⟨_, rfl⟩
    refine z_aload_n B dX12_remember_131 rfl 1 rfl ?_
    have h_40 : Φ11 x = some (o_ 14 [.int v_1, .ref (x + 1), .ref (x + 2), .int v_2, .int v_3, .int (nI n_1), .int v_4, .int v_5, .ref (x + 3), .ref (x + 4), .int v_6, .long v_7, .ref (x + 5), .int (nI fl), .int v_8, .long v_9, .long v_10, .long v_11, .long v_12, .ref (x + 6), .ref (x + 7), .int (nI pe), .ref (x + 8), .int (nI le), .ref (x + 9), .ref (x + 10), .int (nI qu), .ref (x + 11), .ref (x + 12), .ref (x + 13), .ref (x + 14), .ref (x + 15), .ref (x + 16), .int (nI n_2), .long v_13, .ref (x + 17), .ref (x + 18), .ref (x + 19), .ref (x + 20), .ref (x + 21), .ref (x + 22), .int (nI n_3), .ref (x + 23), .ref (x + 24), .int (nI n_4), .ref (x + 25), .int (nI il), .int (nI nx), .int ec, .int v_14, .int kn, .int v_15, .int nu, .long va]) := ((fset_fr hΦ10 (ne_off (x := x) (i := 0) (j := 24) rfl)).trans h_36)
    refine z_get (ref := "FlowExporterModel") (C := RX12) (T := TX12) (N := 54) (ci := 14) (v := .ref (x + 24)) B (by decide +kernel) rfl 43 (by decide) (by decide +kernel) rfl h_40 rfl dX12_remember_132 ?_
    refine z_iconst (v := 2) B dX12_remember_135 rfl ?_
    refine z_iload B dX12_remember_136 0 rfl ?_
    refine z_imul B dX12_remember_138 ?_
    refine z_top (st1 := [.int (nI (2 * n_5)), .ref (x + 24)]) (congrArg (fun w9 : Int32 => ([.int w9, .ref (x + 24)] : List Value)) (nI_mul 2 n_5)) ?_
    refine z_iconst (v := 1) B dX12_remember_139 rfl ?_
    refine z_iadd B dX12_remember_140 ?_
    refine z_top (st1 := [.int (nI (2 * n_5 + 1)), .ref (x + 24)]) (congrArg (fun w9 : Int32 => ([.int w9, .ref (x + 24)] : List Value)) (nI_add (2 * n_5) 1)) ?_
    refine z_dup2_11 B dX12_remember_141 rfl rfl ?_
    obtain ⟨f_10, h_41⟩ := imk (k := 24) hI11
    have h_42 : Φ11 (x + 24) = some (al_ G 48 f_10) := h_41
    refine z_lald B h_42 (vp_in_nI (by omega) (by omega)) dX12_remember_142 ?_
    refine z_fl (fun v_22 => ?_)
    refine z_iload B dX12_remember_143 6 rfl ?_
    refine z_i2l (v := g.toInt64) B dX12_remember_145 rfl ?_
    refine z_ladd B dX12_remember_146 ?_
    refine z_fl (fun v_23 => ?_)
    refine z_last B h_42 (Nat.le_trans hx (Nat.le_add_right x 24)) (vp_in_nI (by omega) (by omega)) dX12_remember_147 (fun Φ12 hΦ11 => ?_)
    have h_43 : Φ12 (x + 24) = some (al_ G 48 (vp_updL f_10 (nI (2 * n_5 + 1)).toNatClampNeg v_23)) := fset_at hΦ11
    have hI12 : Im G x (rd, NN, fl, pe, le, nx, il, qu, kn, ec, nu, va) Φ12 := Im.put (k := 24) hI11 hΦ11 ⟨_, rfl⟩
    exact z_ret_v B dX12_remember_148 ⟨rfl, rfl, hI12, (fun b9 h9 => ((fset_fr hΦ11 (fun h8 => h9 (24) h8 (show 24 = 0 ∨ 24 = 23 ∨ 24 = 24 by omega))).trans ((fset_fr hΦ10 (fun h8 => h9 (24) h8 (show 24 = 0 ∨ 24 = 23 ∨ 24 = 24 by omega))).trans ((hF1 b9 (fun j9 h8 h7 => (show False from h7).elim)).trans rfl))))⟩

set_option maxHeartbeats 4000000 in
set_option maxRecDepth 100000 in
theorem r_flowOf (G : EnvG) (l : Launch) (Φ : Hm) (sz x : Nat) (rd : (Nat → Int32) → Prop) (fl : Nat) (pe : Nat) (le : Nat) (nx : Nat) (il : Nat) (qu : Nat) (kn : Int32) (ec : Int32) (nu : Int32) (va : Int64) (fC : Nat → Int64) (a : Int32) (b : Int32) (d : Int32) (f : Int32) (hx : G.2.2.2 ≤ x) (hI : Im G x (rd, NN, fl, pe, le, nx, il, qu, kn, ec, nu, va) Φ) (hc0 : Φ (x + 5) = some (al_ G 96 fC)) : Ct G l yX12_flowOf wsX12_flowOf ({ frames := 0, cells := 0, slots := 0, locals := 0 }) 0 0 [.ref x, .int a, .int b, .int d, .int f] Φ sz (fun v Φ1 sz1 => ((v = some (.int (-1)) ∧ ¬ InC fC fl a b d f) ∨ ∃ n9 : Nat, n9 < fl ∧ rK fC n9 a b d f ∧ v = some (.int (nI n9))) ∧ sz1 = sz ∧ (Im G x (rd, NN, fl, pe, le, nx, il, qu, kn, ec, nu, va) Φ1) ∧ Fr x (fun j9 => False) Φ Φ1) := by
  refine Ct.of (cc := cX12_flowOf) (maxL := 6) (ret := (some .int)) (by decide) rfl (Nat.le_of_ble_eq_true rfl) ?_
  intro p9 e9 s9 m9 w9 t9 k9 B
  show Z p9 l e9 _ s9 m9 _ w9 t9 k9 _ G 6 0 [(0, .ref x), (1, .int a), (2, .int b), (3, .int d), (4, .int f)] [] Φ sz 0 0
  refine z_iconst (v := 0) B dX12_flowOf_0 rfl ?_
  refine z_istore (lv' := [(5, .int 0), (0, .ref x), (1, .int a), (2, .int b), (3, .int d), (4, .int f)]) B dX12_flowOf_1 (Nat.le_of_ble_eq_true rfl) rfl ?_
  refine z_lv [0, 1, 2, 3, 4, 5] rfl ?_
  refine z_loop (α := Nat) (fun (a9 : Nat) Φi => Im G x (rd, NN, fl, pe, le, nx, il, qu, kn, ec, nu, va) Φi ∧ Fr x (fun j9 => False) Φ Φi ∧ (a9 ≤ 12) ∧ (∀ j9, j9 < a9 → ¬ rK fC j9 a b d f) ∧ True) (fun a9 => [(5, .int (nI a9)), (0, .ref x), (1, .int a), (2, .int b), (3, .int d), (4, .int f)]) (fun a9 => 12 - a9) ?_ (0) ⟨hI, fun _ _ => rfl, (show 0 ≤ 12 by omega), (fun j9 h9 => absurd h9 (Nat.not_lt_zero _)), trivial⟩
  rintro i_1 Φl1 ⟨hI1, hF1, b_1, b_2, -⟩ ih1
  replace hI1 : Im G x (rd, NN, fl, pe, le, nx, il, qu, kn, ec, nu, va) Φl1 := hI1
  replace b_1 : i_1 ≤ 12 := b_1
  replace b_2 : ∀ j9, j9 < i_1 → ¬ rK fC j9 a b d f := b_2
  show Z p9 l e9 _ s9 m9 _ w9 t9 k9 _ G 6 3 [(5, .int (nI i_1)), (0, .ref x), (1, .int a), (2, .int b), (3, .int d), (4, .int f)] [] Φl1 _ _ _
  refine z_iload B dX12_flowOf_3 0 rfl ?_
  refine z_aload_n B dX12_flowOf_5 rfl 1 rfl ?_
  obtain ⟨v_1, v_2, v_3, n_1, v_4, v_5, v_6, v_7, v_8, v_9, v_10, v_11, v_12, n_2, v_13, n_3, n_4, v_14, v_15, h_1, b_14, b_3, b_4, b_5, b_6, b_7, b_8, b_9, b_10, b_11, b_12, b_13⟩ := im0 hI1
  replace b_3 : 1 ≤ n_1 := b_3
  replace b_4 : n_1 ≤ 1024 := b_4
  replace b_5 : fl ≤ 12 := b_5
  replace b_6 : pe ≤ 24 := b_6
  replace b_7 : le ≤ 700 := b_7
  replace b_8 : qu ≤ 12 := b_8
  replace b_9 : n_2 ≤ 8 := b_9
  replace b_10 : n_3 ≤ 24 := b_10
  replace b_11 : n_4 ≤ 24 := b_11
  replace b_12 : il ≤ 700 := b_12
  replace b_13 : nx ≤ 701 := b_13
  have h_2 : Φl1 x = some (o_ 14 [.int v_1, .ref (x + 1), .ref (x + 2), .int v_2, .int v_3, .int (nI n_1), .int v_4, .int v_5, .ref (x + 3), .ref (x + 4), .int v_6, .long v_7, .ref (x + 5), .int (nI fl), .int v_8, .long v_9, .long v_10, .long v_11, .long v_12, .ref (x + 6), .ref (x + 7), .int (nI pe), .ref (x + 8), .int (nI le), .ref (x + 9), .ref (x + 10), .int (nI qu), .ref (x + 11), .ref (x + 12), .ref (x + 13), .ref (x + 14), .ref (x + 15), .ref (x + 16), .int (nI n_2), .long v_13, .ref (x + 17), .ref (x + 18), .ref (x + 19), .ref (x + 20), .ref (x + 21), .ref (x + 22), .int (nI n_3), .ref (x + 23), .ref (x + 24), .int (nI n_4), .ref (x + 25), .int (nI il), .int (nI nx), .int ec, .int v_14, .int kn, .int v_15, .int nu, .long va]) := h_1
  refine z_get (ref := "FlowExporterModel") (C := RX12) (T := TX12) (N := 54) (ci := 14) (v := .int (nI fl)) B (by decide +kernel) rfl 13 (by decide) (by decide +kernel) rfl h_2 rfl dX12_flowOf_6 ?_
  refine z_icmp_ge (tgt := 92) B dX12_flowOf_9 rfl (fun c_1 => ?_) (fun c_1 => ?_)
  · have e_1 : fl ≤ i_1 := (nI_leI (a := fl) (b := i_1) (by omega) (by omega)).mp c_1
    refine z_iconst (v := (-1)) B dX12_flowOf_92 rfl ?_
    exact z_ret_i B dX12_flowOf_93 ⟨(Or.inl ⟨rfl, fun ⟨n9, q1, q2⟩ => b_2 n9 (by omega) q2⟩), rfl, hI1, (fun b9 h9 => ((hF1 b9 (fun j9 h8 h7 => (show False from h7).elim)).trans rfl))⟩
  · have e_2 : ¬ (fl ≤ i_1) := fun h9 => c_1 ((nI_leI (a := fl) (b := i_1) (by omega) (by omega)).mpr h9)
    refine z_aload_n B dX12_flowOf_12 rfl 1 rfl ?_
    refine z_get (ref := "FlowExporterModel") (C := RX12) (T := TX12) (N := 54) (ci := 14) (v := .ref (x + 5)) B (by decide +kernel) rfl 12 (by decide) (by decide +kernel) rfl h_2 rfl dX12_flowOf_13 ?_
    refine z_bipush (v := 8) B dX12_flowOf_16 rfl ?_
    refine z_iload B dX12_flowOf_18 0 rfl ?_
    refine z_imul B dX12_flowOf_20 ?_
    refine z_top (st1 := [.int (nI (8 * i_1)), .ref (x + 5)]) (congrArg (fun w9 : Int32 => ([.int w9, .ref (x + 5)] : List Value)) (nI_mul 8 i_1)) ?_
    have h_3 : Φl1 (x + 5) = some (al_ G 96 fC) := ((hF1 (x + 5) (fun j9 h8 h7 => (show False from h7).elim)).trans hc0)
    refine z_lald B h_3 (vp_in_nI (by omega) (by omega)) dX12_flowOf_21 ?_
    refine z_iload_n B dX12_flowOf_22 rfl 2 rfl ?_
    refine z_i2l (v := a.toInt64) B dX12_flowOf_23 rfl ?_
    refine z_lcmp B dX12_flowOf_24 ?_
    refine z_if_ne (tgt := 86) B dX12_flowOf_25 rfl (fun c_2 => ?_) (fun c_2 => ?_)
    · refine z_iinc (k := 0) (v := nI (i_1 + 1)) (lv' := [(5, .int (nI (i_1 + 1))), (0, .ref x), (1, .int a), (2, .int b), (3, .int d), (4, .int f)]) B dX12_flowOf_86 rfl (nI_add i_1 1) (Nat.le_of_ble_eq_true rfl) rfl ?_
      refine z_goto (tgt := 3) B dX12_flowOf_89 rfl ?_
      refine z_lv [0, 1, 2, 3, 4, 5] rfl ?_
      exact ih1 (i_1 + 1) Φl1 (show 12 - (i_1 + 1) < 12 - i_1 by omega) ⟨hI1, (fun b9 h9 => ((hF1 b9 (fun j9 h8 h7 => (show False from h7).elim)).trans rfl)), (show (i_1 + 1) ≤ 12 by omega), (no_s b_2 (fun q9 => c_2 ((lg_cmp_eq _ _).mpr ((congrArg fC (nI_clamp (by omega))).trans q9.1)))), trivial⟩
    · refine z_aload_n B dX12_flowOf_28 rfl 1 rfl ?_
      refine z_get (ref := "FlowExporterModel") (C := RX12) (T := TX12) (N := 54) (ci := 14) (v := .ref (x + 5)) B (by decide +kernel) rfl 12 (by decide) (by decide +kernel) rfl h_2 rfl dX12_flowOf_29 ?_
      refine z_bipush (v := 8) B dX12_flowOf_32 rfl ?_
      refine z_iload B dX12_flowOf_34 0 rfl ?_
      refine z_imul B dX12_flowOf_36 ?_
      refine z_top (st1 := [.int (nI (8 * i_1)), .ref (x + 5)]) (congrArg (fun w9 : Int32 => ([.int w9, .ref (x + 5)] : List Value)) (nI_mul 8 i_1)) ?_
      refine z_iconst (v := 1) B dX12_flowOf_37 rfl ?_
      refine z_iadd B dX12_flowOf_38 ?_
      refine z_top (st1 := [.int (nI (8 * i_1 + 1)), .ref (x + 5)]) (congrArg (fun w9 : Int32 => ([.int w9, .ref (x + 5)] : List Value)) (nI_add (8 * i_1) 1)) ?_
      refine z_lald B h_3 (vp_in_nI (by omega) (by omega)) dX12_flowOf_39 ?_
      refine z_iload_n B dX12_flowOf_40 rfl 3 rfl ?_
      refine z_i2l (v := b.toInt64) B dX12_flowOf_41 rfl ?_
      refine z_lcmp B dX12_flowOf_42 ?_
      refine z_if_ne (tgt := 86) B dX12_flowOf_43 rfl (fun c_3 => ?_) (fun c_3 => ?_)
      · refine z_iinc (k := 0) (v := nI (i_1 + 1)) (lv' := [(5, .int (nI (i_1 + 1))), (0, .ref x), (1, .int a), (2, .int b), (3, .int d), (4, .int f)]) B dX12_flowOf_86 rfl (nI_add i_1 1) (Nat.le_of_ble_eq_true rfl) rfl ?_
        refine z_goto (tgt := 3) B dX12_flowOf_89 rfl ?_
        refine z_lv [0, 1, 2, 3, 4, 5] rfl ?_
        exact ih1 (i_1 + 1) Φl1 (show 12 - (i_1 + 1) < 12 - i_1 by omega) ⟨hI1, (fun b9 h9 => ((hF1 b9 (fun j9 h8 h7 => (show False from h7).elim)).trans rfl)), (show (i_1 + 1) ≤ 12 by omega), (no_s b_2 (fun q9 => c_3 ((lg_cmp_eq _ _).mpr ((congrArg fC (nI_clamp (by omega))).trans q9.2.1)))), trivial⟩
      · refine z_aload_n B dX12_flowOf_46 rfl 1 rfl ?_
        refine z_get (ref := "FlowExporterModel") (C := RX12) (T := TX12) (N := 54) (ci := 14) (v := .ref (x + 5)) B (by decide +kernel) rfl 12 (by decide) (by decide +kernel) rfl h_2 rfl dX12_flowOf_47 ?_
        refine z_bipush (v := 8) B dX12_flowOf_50 rfl ?_
        refine z_iload B dX12_flowOf_52 0 rfl ?_
        refine z_imul B dX12_flowOf_54 ?_
        refine z_top (st1 := [.int (nI (8 * i_1)), .ref (x + 5)]) (congrArg (fun w9 : Int32 => ([.int w9, .ref (x + 5)] : List Value)) (nI_mul 8 i_1)) ?_
        refine z_iconst (v := 2) B dX12_flowOf_55 rfl ?_
        refine z_iadd B dX12_flowOf_56 ?_
        refine z_top (st1 := [.int (nI (8 * i_1 + 2)), .ref (x + 5)]) (congrArg (fun w9 : Int32 => ([.int w9, .ref (x + 5)] : List Value)) (nI_add (8 * i_1) 2)) ?_
        refine z_lald B h_3 (vp_in_nI (by omega) (by omega)) dX12_flowOf_57 ?_
        refine z_iload_n B dX12_flowOf_58 rfl 4 rfl ?_
        refine z_i2l (v := d.toInt64) B dX12_flowOf_59 rfl ?_
        refine z_lcmp B dX12_flowOf_60 ?_
        refine z_if_ne (tgt := 86) B dX12_flowOf_61 rfl (fun c_4 => ?_) (fun c_4 => ?_)
        · refine z_iinc (k := 0) (v := nI (i_1 + 1)) (lv' := [(5, .int (nI (i_1 + 1))), (0, .ref x), (1, .int a), (2, .int b), (3, .int d), (4, .int f)]) B dX12_flowOf_86 rfl (nI_add i_1 1) (Nat.le_of_ble_eq_true rfl) rfl ?_
          refine z_goto (tgt := 3) B dX12_flowOf_89 rfl ?_
          refine z_lv [0, 1, 2, 3, 4, 5] rfl ?_
          exact ih1 (i_1 + 1) Φl1 (show 12 - (i_1 + 1) < 12 - i_1 by omega) ⟨hI1, (fun b9 h9 => ((hF1 b9 (fun j9 h8 h7 => (show False from h7).elim)).trans rfl)), (show (i_1 + 1) ≤ 12 by omega), (no_s b_2 (fun q9 => c_4 ((lg_cmp_eq _ _).mpr ((congrArg fC (nI_clamp (by omega))).trans q9.2.2.1)))), trivial⟩
        · refine z_aload_n B dX12_flowOf_64 rfl 1 rfl ?_
          refine z_get (ref := "FlowExporterModel") (C := RX12) (T := TX12) (N := 54) (ci := 14) (v := .ref (x + 5)) B (by decide +kernel) rfl 12 (by decide) (by decide +kernel) rfl h_2 rfl dX12_flowOf_65 ?_
          refine z_bipush (v := 8) B dX12_flowOf_68 rfl ?_
          refine z_iload B dX12_flowOf_70 0 rfl ?_
          refine z_imul B dX12_flowOf_72 ?_
          refine z_top (st1 := [.int (nI (8 * i_1)), .ref (x + 5)]) (congrArg (fun w9 : Int32 => ([.int w9, .ref (x + 5)] : List Value)) (nI_mul 8 i_1)) ?_
          refine z_iconst (v := 3) B dX12_flowOf_73 rfl ?_
          refine z_iadd B dX12_flowOf_74 ?_
          refine z_top (st1 := [.int (nI (8 * i_1 + 3)), .ref (x + 5)]) (congrArg (fun w9 : Int32 => ([.int w9, .ref (x + 5)] : List Value)) (nI_add (8 * i_1) 3)) ?_
          refine z_lald B h_3 (vp_in_nI (by omega) (by omega)) dX12_flowOf_75 ?_
          refine z_iload B dX12_flowOf_76 5 rfl ?_
          refine z_i2l (v := f.toInt64) B dX12_flowOf_78 rfl ?_
          refine z_lcmp B dX12_flowOf_79 ?_
          refine z_if_ne (tgt := 86) B dX12_flowOf_80 rfl (fun c_5 => ?_) (fun c_5 => ?_)
          · refine z_iinc (k := 0) (v := nI (i_1 + 1)) (lv' := [(5, .int (nI (i_1 + 1))), (0, .ref x), (1, .int a), (2, .int b), (3, .int d), (4, .int f)]) B dX12_flowOf_86 rfl (nI_add i_1 1) (Nat.le_of_ble_eq_true rfl) rfl ?_
            refine z_goto (tgt := 3) B dX12_flowOf_89 rfl ?_
            refine z_lv [0, 1, 2, 3, 4, 5] rfl ?_
            exact ih1 (i_1 + 1) Φl1 (show 12 - (i_1 + 1) < 12 - i_1 by omega) ⟨hI1, (fun b9 h9 => ((hF1 b9 (fun j9 h8 h7 => (show False from h7).elim)).trans rfl)), (show (i_1 + 1) ≤ 12 by omega), (no_s b_2 (fun q9 => c_5 ((lg_cmp_eq _ _).mpr ((congrArg fC (nI_clamp (by omega))).trans q9.2.2.2)))), trivial⟩
          · refine z_iload B dX12_flowOf_83 0 rfl ?_
            exact z_ret_i B dX12_flowOf_85 ⟨(Or.inr ⟨i_1, by omega, ⟨(congrArg fC (nI_clamp (by omega))).symm.trans (lcmp_eq c_2), (congrArg fC (nI_clamp (by omega))).symm.trans (lcmp_eq c_3), (congrArg fC (nI_clamp (by omega))).symm.trans (lcmp_eq c_4), (congrArg fC (nI_clamp (by omega))).symm.trans (lcmp_eq c_5)⟩, rfl⟩), rfl, hI1, (fun b9 h9 => ((hF1 b9 (fun j9 h8 h7 => (show False from h7).elim)).trans rfl))⟩

theorem and255L (v : Int64) : ∃ n : Nat, n ≤ 255 ∧ (v &&& 255).toInt32 = nI n := by
  refine ⟨(v &&& 255).toBitVec.toNat, ?_, ?_⟩
  · show (v.toBitVec &&& (255 : Int64).toBitVec).toNat ≤ 255
    rw [BitVec.toNat_and]
    exact Nat.le_trans Nat.and_le_right (by decide)
  · have h : (v &&& 255).toBitVec.toNat ≤ 255 := by
      show (v.toBitVec &&& (255 : Int64).toBitVec).toNat ≤ 255
      rw [BitVec.toNat_and]
      exact Nat.le_trans Nat.and_le_right (by decide)
    generalize v &&& 255 = w at h
    have e : w = Int64.ofNat w.toBitVec.toNat := by
      apply Int64.toBitVec_inj.mp
      apply BitVec.eq_of_toNat_eq
      show w.toBitVec.toNat = (BitVec.ofNat 64 w.toBitVec.toNat).toNat
      rw [BitVec.toNat_ofNat]
      exact (Nat.mod_eq_of_lt w.toBitVec.isLt).symm
    have e2 := congrArg Int64.toInt32 e
    rw [ofL (by omega)] at e2
    exact e2
theorem shr8_all : ∀ v, v < 701 → nI v >>> ((8 : Int32) &&& 31) = nI (v / 256) := by decide +kernel
theorem shr8 {v : Nat} (h : v ≤ 700) : ∃ n : Nat, n ≤ 255 ∧ nI v >>> ((8 : Int32) &&& 31) = nI n := ⟨v / 256, by omega, shr8_all v (by omega)⟩
theorem and_dec {x : Int32} (h : ¬ x = 0) : (x &&& (x - 1)).toBitVec.toNat < x.toBitVec.toNat := by
  have h0 : x.toBitVec.toNat ≠ 0 := by
    intro e
    apply h
    apply Int32.toBitVec_inj.mp
    apply BitVec.eq_of_toNat_eq
    rw [e]
    rfl
  have h1 : (x &&& (x - 1)).toBitVec.toNat ≤ (x - 1).toBitVec.toNat := by
    show (x.toBitVec &&& (x - 1).toBitVec).toNat ≤ _
    rw [BitVec.toNat_and]
    exact Nat.and_le_right
  have h2 : (x - 1).toBitVec.toNat = x.toBitVec.toNat - 1 := by
    show (x.toBitVec - (1 : BitVec 32)).toNat = _
    rw [BitVec.toNat_sub]
    have h3 := x.toBitVec.isLt
    have h4 : (1 : BitVec 32).toNat = 1 := rfl
    rw [h4]
    omega
  omega

set_option maxHeartbeats 4000000 in
set_option maxRecDepth 100000 in
theorem r_put (G : EnvG) (l : Launch) (Φ : Hm) (sz x : Nat) (rd : (Nat → Int32) → Prop) (fl : Nat) (pe : Nat) (le : Nat) (nx : Nat) (il : Nat) (qu : Nat) (kn : Int32) (ec : Int32) (nu : Int32) (va : Int64) (a : Int64) (n : Nat) (hx : G.2.2.2 ≤ x) (hI : Im G x (rd, NN, fl, pe, le, nx, il, qu, kn, ec, nu, va) Φ) (hn : n ≤ 8) (hl : le + n ≤ 700) : Ct G l yX12_put wsX12_put ({ frames := 0, cells := 0, slots := 0, locals := 0 }) 0 0 [.ref x, .long a, .int (nI n)] Φ sz (fun v Φ1 sz1 => (v = none) ∧ sz1 = sz ∧ (∃ (le1 : Nat), (le1 = le + n) ∧ Im G x (rd, NN, fl, pe, le1, nx, il, qu, kn, ec, nu, va) Φ1) ∧ Fr x (fun j9 => j9 = 0 ∨ j9 = 8) Φ Φ1) := by
  refine Ct.of (cc := cX12_put) (maxL := 5) (ret := none) (by decide) rfl (Nat.le_of_ble_eq_true rfl) ?_
  intro p9 e9 s9 m9 w9 t9 k9 B
  show Z p9 l e9 _ s9 m9 _ w9 t9 k9 _ G 5 0 [(0, .ref x), (1, .long a), (3, .int (nI n))] [] Φ sz 0 0
  refine z_bipush (v := 8) B dX12_put_0 rfl ?_
  refine z_iload_n B dX12_put_2 rfl 2 rfl ?_
  refine z_imul B dX12_put_3 ?_
  refine z_top (st1 := [.int (nI (8 * n))]) (congrArg (fun w9 : Int32 => ([.int w9] : List Value)) (nI_mul 8 n)) ?_
  refine z_bipush (v := 8) B dX12_put_4 rfl ?_
  refine z_isub B dX12_put_6 ?_
  refine z_istore (lv' := [(4, .int (nI (8 * n) - 8)), (0, .ref x), (1, .long a), (3, .int (nI n))]) B dX12_put_7 (Nat.le_of_ble_eq_true rfl) rfl ?_
  refine z_lv [0, 1, 2, 3] rfl ?_
  refine z_loop (α := Nat × Nat) (fun (a9 : Nat × Nat) Φi => Im G x (rd, NN, fl, pe, a9.2, nx, il, qu, kn, ec, nu, va) Φi ∧ Fr x (fun j9 => j9 = 0 ∨ j9 = 8) Φ Φi ∧ (a9.1 ≤ 8) ∧ (a9.2 + a9.1 = le + n) ∧ True) (fun a9 => [(4, .int (nI (8 * (a9.1)) - 8)), (0, .ref x), (1, .long a), (3, .int (nI n))]) (fun a9 => a9.1) ?_ (n, le) ⟨hI, fun _ _ => rfl, (show n ≤ 8 by omega), (show le + n = le + n by omega), trivial⟩
  rintro ⟨i_1, i_2⟩ Φl1 ⟨hI1, hF1, b_1, b_2, -⟩ ih1
  replace hI1 : Im G x (rd, NN, fl, pe, i_2, nx, il, qu, kn, ec, nu, va) Φl1 := hI1
  replace b_1 : i_1 ≤ 8 := b_1
  replace b_2 : i_2 + i_1 = le + n := b_2
  show Z p9 l e9 _ s9 m9 _ w9 t9 k9 _ G 5 9 [(4, .int (nI (8 * i_1) - 8)), (0, .ref x), (1, .long a), (3, .int (nI n))] [] Φl1 _ _ _
  refine z_iload B dX12_put_9 0 rfl ?_
  refine z_if_lt (tgt := 48) B dX12_put_11 rfl (fun c_1 => ?_) (fun c_1 => ?_)
  · have e_1 : i_1 = 0 := (m8_lt (j := i_1) (by omega)).1 c_1
    exact z_ret_v B dX12_put_48 ⟨rfl, rfl, ⟨i_2, (show i_2 = le + n by omega), hI1⟩, (fun b9 h9 => ((hF1 b9 (fun j9 h8 h7 => h9 j9 h8 (show j9 = 0 ∨ j9 = 8 by have h6 : j9 = 0 ∨ j9 = 8 := h7; omega))).trans rfl))⟩
  · have e_2 : 1 ≤ i_1 := (m8_lt (j := i_1) (by omega)).2 c_1
    refine z_aload_n B dX12_put_14 rfl 1 rfl ?_
    obtain ⟨v_1, v_2, v_3, n_1, v_4, v_5, v_6, v_7, v_8, v_9, v_10, v_11, v_12, n_2, v_13, n_3, n_4, v_14, v_15, h_1, b_14, b_3, b_4, b_5, b_6, b_7, b_8, b_9, b_10, b_11, b_12, b_13⟩ := im0 hI1
    replace b_3 : 1 ≤ n_1 := b_3
    replace b_4 : n_1 ≤ 1024 := b_4
    replace b_5 : fl ≤ 12 := b_5
    replace b_6 : pe ≤ 24 := b_6
    replace b_7 : i_2 ≤ 700 := b_7
    replace b_8 : qu ≤ 12 := b_8
    replace b_9 : n_2 ≤ 8 := b_9
    replace b_10 : n_3 ≤ 24 := b_10
    replace b_11 : n_4 ≤ 24 := b_11
    replace b_12 : il ≤ 700 := b_12
    replace b_13 : nx ≤ 701 := b_13
    have h_2 : Φl1 x = some (o_ 14 [.int v_1, .ref (x + 1), .ref (x + 2), .int v_2, .int v_3, .int (nI n_1), .int v_4, .int v_5, .ref (x + 3), .ref (x + 4), .int v_6, .long v_7, .ref (x + 5), .int (nI fl), .int v_8, .long v_9, .long v_10, .long v_11, .long v_12, .ref (x + 6), .ref (x + 7), .int (nI pe), .ref (x + 8), .int (nI i_2), .ref (x + 9), .ref (x + 10), .int (nI qu), .ref (x + 11), .ref (x + 12), .ref (x + 13), .ref (x + 14), .ref (x + 15), .ref (x + 16), .int (nI n_2), .long v_13, .ref (x + 17), .ref (x + 18), .ref (x + 19), .ref (x + 20), .ref (x + 21), .ref (x + 22), .int (nI n_3), .ref (x + 23), .ref (x + 24), .int (nI n_4), .ref (x + 25), .int (nI il), .int (nI nx), .int ec, .int v_14, .int kn, .int v_15, .int nu, .long va]) := h_1
    refine z_get (ref := "FlowExporterModel") (C := RX12) (T := TX12) (N := 54) (ci := 14) (v := .ref (x + 8)) B (by decide +kernel) rfl 22 (by decide) (by decide +kernel) rfl h_2 rfl dX12_put_15 ?_
    refine z_aload_n B dX12_put_18 rfl 1 rfl ?_
    refine z_get (ref := "FlowExporterModel") (C := RX12) (T := TX12) (N := 54) (ci := 14) (v := .int (nI i_2)) B (by decide +kernel) rfl 23 (by decide) (by decide +kernel) rfl h_2 rfl dX12_put_19 ?_
    refine z_lload_n B dX12_put_22 rfl 2 rfl ?_
    refine z_iload B dX12_put_23 0 rfl ?_
    refine z_lshr (v := a >>> ((nI (8 * i_1) - 8 : Int32).toInt64 &&& 63)) B dX12_put_25 rfl ?_
    refine z_fl (fun v_16 => ?_)
    refine z_ldc2 (v := 255) B (by decide +kernel) dX12_put_26 ?_
    refine z_land B dX12_put_29 ?_
    refine z_l2i (v := (v_16 &&& 255).toInt32) B dX12_put_30 rfl ?_
    obtain ⟨n_5, b_15, e_3⟩ := and255L v_16
    refine z_top (st1 := [.int (nI n_5), .int (nI i_2), .ref (x + 8)]) (congrArg (fun w9 : Int32 => ([.int w9, .int (nI i_2), .ref (x + 8)] : List Value)) (e_3)) ?_
    obtain ⟨f_1, h_3, r_1⟩ := imk (k := 8) hI1
    replace r_1 : Rw 255 f_1 := r_1
    have h_4 : Φl1 (x + 8) = some (ai_ G 700 f_1) := h_3
    refine z_iast B h_4 (Nat.le_trans hx (Nat.le_add_right x 8)) (vp_in_nI (by omega) (by omega)) dX12_put_31 (fun Φ1 hΦ1 => ?_)
    have h_5 : Φ1 (x + 8) = some (ai_ G 700 (upd f_1 (nI i_2).toNatClampNeg (nI n_5))) := fset_at hΦ1
    have hI2 : Im G x (rd, NN, fl, pe, i_2, nx, il, qu, kn, ec, nu, va) Φ1 := Im.put (k := 8) hI1 hΦ1 ⟨_, rfl, Rw.up (n := n_5) r_1 (show n_5 ≤ 255 by omega)⟩
    refine z_aload_n B dX12_put_32 rfl 1 rfl ?_
    refine z_dup B dX12_put_33 rfl ?_
    have h_6 : Φ1 x = some (o_ 14 [.int v_1, .ref (x + 1), .ref (x + 2), .int v_2, .int v_3, .int (nI n_1), .int v_4, .int v_5, .ref (x + 3), .ref (x + 4), .int v_6, .long v_7, .ref (x + 5), .int (nI fl), .int v_8, .long v_9, .long v_10, .long v_11, .long v_12, .ref (x + 6), .ref (x + 7), .int (nI pe), .ref (x + 8), .int (nI i_2), .ref (x + 9), .ref (x + 10), .int (nI qu), .ref (x + 11), .ref (x + 12), .ref (x + 13), .ref (x + 14), .ref (x + 15), .ref (x + 16), .int (nI n_2), .long v_13, .ref (x + 17), .ref (x + 18), .ref (x + 19), .ref (x + 20), .ref (x + 21), .ref (x + 22), .int (nI n_3), .ref (x + 23), .ref (x + 24), .int (nI n_4), .ref (x + 25), .int (nI il), .int (nI nx), .int ec, .int v_14, .int kn, .int v_15, .int nu, .long va]) := ((fset_fr hΦ1 (ne_off (x := x) (i := 0) (j := 8) rfl)).trans h_2)
    refine z_get (ref := "FlowExporterModel") (C := RX12) (T := TX12) (N := 54) (ci := 14) (v := .int (nI i_2)) B (by decide +kernel) rfl 23 (by decide) (by decide +kernel) rfl h_6 rfl dX12_put_34 ?_
    refine z_iconst (v := 1) B dX12_put_37 rfl ?_
    refine z_iadd B dX12_put_38 ?_
    refine z_top (st1 := [.int (nI (i_2 + 1)), .ref x]) (congrArg (fun w9 : Int32 => ([.int w9, .ref x] : List Value)) (nI_add i_2 1)) ?_
    refine z_put (ref := "FlowExporterModel") (C := RX12) (T := TX12) (N := 54) (ci := 14) (v := .int (nI (i_2 + 1))) B (by decide +kernel) tyX12 tyX12_ok nmX12 rfl 23 (by decide) (by decide +kernel) rfl (Or.inl rfl) h_6 hx rfl rfl (Nat.le_of_ble_eq_true rfl) dX12_put_39 (fun Φ2 hΦ2 => ?_)
    have h_7 : Φ2 x = some (o_ 14 [.int v_1, .ref (x + 1), .ref (x + 2), .int v_2, .int v_3, .int (nI n_1), .int v_4, .int v_5, .ref (x + 3), .ref (x + 4), .int v_6, .long v_7, .ref (x + 5), .int (nI fl), .int v_8, .long v_9, .long v_10, .long v_11, .long v_12, .ref (x + 6), .ref (x + 7), .int (nI pe), .ref (x + 8), .int (nI (i_2 + 1)), .ref (x + 9), .ref (x + 10), .int (nI qu), .ref (x + 11), .ref (x + 12), .ref (x + 13), .ref (x + 14), .ref (x + 15), .ref (x + 16), .int (nI n_2), .long v_13, .ref (x + 17), .ref (x + 18), .ref (x + 19), .ref (x + 20), .ref (x + 21), .ref (x + 22), .int (nI n_3), .ref (x + 23), .ref (x + 24), .int (nI n_4), .ref (x + 25), .int (nI il), .int (nI nx), .int ec, .int v_14, .int kn, .int v_15, .int nu, .long va]) := fset_at hΦ2
    have hI3 : Im G x (rd, NN, fl, pe, i_2 + 1, nx, il, qu, kn, ec, nu, va) Φ2 := Im.put0 hI2 hΦ2 ⟨v_1, v_2, v_3, n_1, v_4, v_5, v_6, v_7, v_8, v_9, v_10, v_11, v_12, n_2, v_13, n_3, n_4, v_14, v_15, rfl, b_14, (show 1 ≤ n_1 by omega), (show n_1 ≤ 1024 by omega), (show fl ≤ 12 by omega), (show pe ≤ 24 by omega), (show (i_2 + 1) ≤ 700 by omega), (show qu ≤ 12 by omega), (show n_2 ≤ 8 by omega), (show n_3 ≤ 24 by omega), (show n_4 ≤ 24 by omega), (show il ≤ 700 by omega), (show nx ≤ 701 by omega)⟩
    refine z_iinc (k := 0) (v := nI (8 * (i_1 - 1)) - 8) (lv' := [(4, .int (nI (8 * (i_1 - 1)) - 8)), (0, .ref x), (1, .long a), (3, .int (nI n))]) B dX12_put_42 rfl (m8_dec (show 1 ≤ i_1 by omega)) (Nat.le_of_ble_eq_true rfl) rfl ?_
    refine z_goto (tgt := 9) B dX12_put_45 rfl ?_
    refine z_lv [0, 1, 2, 3] rfl ?_
    exact ih1 (i_1 - 1, i_2 + 1) Φ2 (show (i_1 - 1) < i_1 by omega) ⟨hI3, (fun b9 h9 => ((fset_fr hΦ2 (fun h8 => h9 (0) h8 (show 0 = 0 ∨ 0 = 8 by omega))).trans ((fset_fr hΦ1 (fun h8 => h9 (8) h8 (show 8 = 0 ∨ 8 = 8 by omega))).trans ((hF1 b9 (fun j9 h8 h7 => h9 j9 h8 (show j9 = 0 ∨ j9 = 8 by have h6 : j9 = 0 ∨ j9 = 8 := h7; omega))).trans rfl)))), (show (i_1 - 1) ≤ 8 by omega), (show (i_2 + 1) + (i_1 - 1) = le + n by omega), trivial⟩

set_option maxHeartbeats 4000000 in
set_option maxRecDepth 100000 in
theorem r_putAt (G : EnvG) (l : Launch) (Φ : Hm) (sz x : Nat) (rd : (Nat → Int32) → Prop) (fl : Nat) (pe : Nat) (le : Nat) (nx : Nat) (il : Nat) (qu : Nat) (kn : Int32) (ec : Int32) (nu : Int32) (va : Int64) (a : Nat) (b : Nat) (hx : G.2.2.2 ≤ x) (hI : Im G x (rd, NN, fl, pe, le, nx, il, qu, kn, ec, nu, va) Φ) (ha : a + 1 < 700) (hb : b ≤ 700) : Ct G l yX12_putAt wsX12_putAt ({ frames := 0, cells := 0, slots := 0, locals := 0 }) 0 0 [.ref x, .int (nI a), .int (nI b)] Φ sz (fun v Φ1 sz1 => (v = none) ∧ sz1 = sz ∧ (Im G x (rd, NN, fl, pe, le, nx, il, qu, kn, ec, nu, va) Φ1) ∧ Fr x (fun j9 => j9 = 8) Φ Φ1) := by
  refine Ct.of (cc := cX12_putAt) (maxL := 3) (ret := none) (by decide) rfl (Nat.le_of_ble_eq_true rfl) ?_
  intro p9 e9 s9 m9 w9 t9 k9 B
  show Z p9 l e9 _ s9 m9 _ w9 t9 k9 _ G 3 0 [(0, .ref x), (1, .int (nI a)), (2, .int (nI b))] [] Φ sz 0 0
  refine z_aload_n B dX12_putAt_0 rfl 0 rfl ?_
  obtain ⟨v_1, v_2, v_3, n_1, v_4, v_5, v_6, v_7, v_8, v_9, v_10, v_11, v_12, n_2, v_13, n_3, n_4, v_14, v_15, h_1, b_12, b_1, b_2, b_3, b_4, b_5, b_6, b_7, b_8, b_9, b_10, b_11⟩ := im0 hI
  replace b_1 : 1 ≤ n_1 := b_1
  replace b_2 : n_1 ≤ 1024 := b_2
  replace b_3 : fl ≤ 12 := b_3
  replace b_4 : pe ≤ 24 := b_4
  replace b_5 : le ≤ 700 := b_5
  replace b_6 : qu ≤ 12 := b_6
  replace b_7 : n_2 ≤ 8 := b_7
  replace b_8 : n_3 ≤ 24 := b_8
  replace b_9 : n_4 ≤ 24 := b_9
  replace b_10 : il ≤ 700 := b_10
  replace b_11 : nx ≤ 701 := b_11
  have h_2 : Φ x = some (o_ 14 [.int v_1, .ref (x + 1), .ref (x + 2), .int v_2, .int v_3, .int (nI n_1), .int v_4, .int v_5, .ref (x + 3), .ref (x + 4), .int v_6, .long v_7, .ref (x + 5), .int (nI fl), .int v_8, .long v_9, .long v_10, .long v_11, .long v_12, .ref (x + 6), .ref (x + 7), .int (nI pe), .ref (x + 8), .int (nI le), .ref (x + 9), .ref (x + 10), .int (nI qu), .ref (x + 11), .ref (x + 12), .ref (x + 13), .ref (x + 14), .ref (x + 15), .ref (x + 16), .int (nI n_2), .long v_13, .ref (x + 17), .ref (x + 18), .ref (x + 19), .ref (x + 20), .ref (x + 21), .ref (x + 22), .int (nI n_3), .ref (x + 23), .ref (x + 24), .int (nI n_4), .ref (x + 25), .int (nI il), .int (nI nx), .int ec, .int v_14, .int kn, .int v_15, .int nu, .long va]) := h_1
  refine z_get (ref := "FlowExporterModel") (C := RX12) (T := TX12) (N := 54) (ci := 14) (v := .ref (x + 8)) B (by decide +kernel) rfl 22 (by decide) (by decide +kernel) rfl h_2 rfl dX12_putAt_1 ?_
  refine z_iload_n B dX12_putAt_4 rfl 1 rfl ?_
  refine z_iload_n B dX12_putAt_5 rfl 2 rfl ?_
  refine z_bipush (v := 8) B dX12_putAt_6 rfl ?_
  refine z_ishr B dX12_putAt_8 ?_
  obtain ⟨n_5, b_13, e_1⟩ := shr8 (v := b) (by omega)
  refine z_top (st1 := [.int (nI n_5), .int (nI a), .ref (x + 8)]) (congrArg (fun w9 : Int32 => ([.int w9, .int (nI a), .ref (x + 8)] : List Value)) (e_1)) ?_
  obtain ⟨f_1, h_3, r_1⟩ := imk (k := 8) hI
  replace r_1 : Rw 255 f_1 := r_1
  have h_4 : Φ (x + 8) = some (ai_ G 700 f_1) := h_3
  refine z_iast B h_4 (Nat.le_trans hx (Nat.le_add_right x 8)) (vp_in_nI (by omega) (by omega)) dX12_putAt_9 (fun Φ1 hΦ1 => ?_)
  have h_5 : Φ1 (x + 8) = some (ai_ G 700 (upd f_1 (nI a).toNatClampNeg (nI n_5))) := fset_at hΦ1
  have hI1 : Im G x (rd, NN, fl, pe, le, nx, il, qu, kn, ec, nu, va) Φ1 := Im.put (k := 8) hI hΦ1 ⟨_, rfl, Rw.up (n := n_5) r_1 (show n_5 ≤ 255 by omega)⟩
  refine z_aload_n B dX12_putAt_10 rfl 0 rfl ?_
  have h_6 : Φ1 x = some (o_ 14 [.int v_1, .ref (x + 1), .ref (x + 2), .int v_2, .int v_3, .int (nI n_1), .int v_4, .int v_5, .ref (x + 3), .ref (x + 4), .int v_6, .long v_7, .ref (x + 5), .int (nI fl), .int v_8, .long v_9, .long v_10, .long v_11, .long v_12, .ref (x + 6), .ref (x + 7), .int (nI pe), .ref (x + 8), .int (nI le), .ref (x + 9), .ref (x + 10), .int (nI qu), .ref (x + 11), .ref (x + 12), .ref (x + 13), .ref (x + 14), .ref (x + 15), .ref (x + 16), .int (nI n_2), .long v_13, .ref (x + 17), .ref (x + 18), .ref (x + 19), .ref (x + 20), .ref (x + 21), .ref (x + 22), .int (nI n_3), .ref (x + 23), .ref (x + 24), .int (nI n_4), .ref (x + 25), .int (nI il), .int (nI nx), .int ec, .int v_14, .int kn, .int v_15, .int nu, .long va]) := ((fset_fr hΦ1 (ne_off (x := x) (i := 0) (j := 8) rfl)).trans h_2)
  refine z_get (ref := "FlowExporterModel") (C := RX12) (T := TX12) (N := 54) (ci := 14) (v := .ref (x + 8)) B (by decide +kernel) rfl 22 (by decide) (by decide +kernel) rfl h_6 rfl dX12_putAt_11 ?_
  refine z_iload_n B dX12_putAt_14 rfl 1 rfl ?_
  refine z_iconst (v := 1) B dX12_putAt_15 rfl ?_
  refine z_iadd B dX12_putAt_16 ?_
  refine z_top (st1 := [.int (nI (a + 1)), .ref (x + 8)]) (congrArg (fun w9 : Int32 => ([.int w9, .ref (x + 8)] : List Value)) (nI_add a 1)) ?_
  refine z_iload_n B dX12_putAt_17 rfl 2 rfl ?_
  refine z_sipush (v := 255) B dX12_putAt_18 rfl ?_
  refine z_iand B dX12_putAt_21 ?_
  obtain ⟨n_6, b_14, e_2⟩ := and255 (nI b)
  refine z_top (st1 := [.int (nI n_6), .int (nI (a + 1)), .ref (x + 8)]) (congrArg (fun w9 : Int32 => ([.int w9, .int (nI (a + 1)), .ref (x + 8)] : List Value)) (e_2)) ?_
  obtain ⟨f_2, h_7, r_2⟩ := imk (k := 8) hI1
  replace r_2 : Rw 255 f_2 := r_2
  have h_8 : Φ1 (x + 8) = some (ai_ G 700 f_2) := h_7
  refine z_iast B h_8 (Nat.le_trans hx (Nat.le_add_right x 8)) (vp_in_nI (by omega) (by omega)) dX12_putAt_22 (fun Φ2 hΦ2 => ?_)
  have h_9 : Φ2 (x + 8) = some (ai_ G 700 (upd f_2 (nI (a + 1)).toNatClampNeg (nI n_6))) := fset_at hΦ2
  have hI2 : Im G x (rd, NN, fl, pe, le, nx, il, qu, kn, ec, nu, va) Φ2 := Im.put (k := 8) hI1 hΦ2 ⟨_, rfl, Rw.up (n := n_6) r_2 (show n_6 ≤ 255 by omega)⟩
  exact z_ret_v B dX12_putAt_23 ⟨rfl, rfl, hI2, (fun b9 h9 => ((fset_fr hΦ2 (fun h8 => h9 (8) h8 (show 8 = 8 by omega))).trans ((fset_fr hΦ1 (fun h8 => h9 (8) h8 (show 8 = 8 by omega))).trans rfl)))⟩

set_option maxHeartbeats 4000000 in
set_option maxRecDepth 100000 in
theorem r_bitCount (G : EnvG) (l : Launch) (Φ : Hm) (sz x : Nat) (rd : (Nat → Int32) → Prop) (fl : Nat) (pe : Nat) (le : Nat) (nx : Nat) (il : Nat) (qu : Nat) (kn : Int32) (ec : Int32) (nu : Int32) (va : Int64) (a : Int32) (hx : G.2.2.2 ≤ x) (hI : Im G x (rd, NN, fl, pe, le, nx, il, qu, kn, ec, nu, va) Φ)  : Ct G l yX12_bitCount wsX12_bitCount ({ frames := 0, cells := 0, slots := 0, locals := 0 }) 0 0 [.int a] Φ sz (fun v Φ1 sz1 => (∃ r9 : Int32, v = some (.int r9)) ∧ sz1 = sz ∧ (Im G x (rd, NN, fl, pe, le, nx, il, qu, kn, ec, nu, va) Φ1) ∧ Fr x (fun j9 => False) Φ Φ1) := by
  refine Ct.of (cc := cX12_bitCount) (maxL := 3) (ret := (some .int)) (by decide) rfl (Nat.le_of_ble_eq_true rfl) ?_
  intro p9 e9 s9 m9 w9 t9 k9 B
  show Z p9 l e9 _ s9 m9 _ w9 t9 k9 _ G 3 0 [(0, .int a)] [] Φ sz 0 0
  refine z_iconst (v := 0) B dX12_bitCount_0 rfl ?_
  refine z_istore_n (lv' := [(1, .int 0), (0, .int a)]) B dX12_bitCount_1 rfl (Nat.le_of_ble_eq_true rfl) rfl ?_
  refine z_iload_n B dX12_bitCount_2 rfl 1 rfl ?_
  refine z_istore_n (lv' := [(2, .int a), (1, .int 0), (0, .int a)]) B dX12_bitCount_3 rfl (Nat.le_of_ble_eq_true rfl) rfl ?_
  refine z_lv [0, 1, 2] rfl ?_
  refine z_loop (α := Int32 × Int32) (fun (a9 : Int32 × Int32) Φi => Im G x (rd, NN, fl, pe, le, nx, il, qu, kn, ec, nu, va) Φi ∧ Fr x (fun j9 => False) Φ Φi ∧ True) (fun a9 => [(2, .int a9.1), (1, .int a9.2), (0, .int a)]) (fun a9 => (a9.1).toBitVec.toNat) ?_ (a, 0) ⟨hI, fun _ _ => rfl, trivial⟩
  rintro ⟨i_1, i_2⟩ Φl1 ⟨hI1, hF1, -⟩ ih1
  replace hI1 : Im G x (rd, NN, fl, pe, le, nx, il, qu, kn, ec, nu, va) Φl1 := hI1
  show Z p9 l e9 _ s9 m9 _ w9 t9 k9 _ G 3 4 [(2, .int i_1), (1, .int i_2), (0, .int a)] [] Φl1 _ _ _
  refine z_iload_n B dX12_bitCount_4 rfl 0 rfl ?_
  refine z_if_eq (tgt := 20) B dX12_bitCount_5 rfl (fun c_1 => ?_) (fun c_1 => ?_)
  · refine z_iload_n B dX12_bitCount_20 rfl 1 rfl ?_
    exact z_ret_i B dX12_bitCount_21 ⟨⟨_, rfl⟩, rfl, hI1, (fun b9 h9 => ((hF1 b9 (fun j9 h8 h7 => (show False from h7).elim)).trans rfl))⟩
  · refine z_iinc (k := 1) (v := i_2 + 1) (lv' := [(1, .int (i_2 + 1)), (2, .int i_1), (0, .int a)]) B dX12_bitCount_8 rfl rfl (Nat.le_of_ble_eq_true rfl) rfl ?_
    refine z_iload_n B dX12_bitCount_11 rfl 1 rfl ?_
    refine z_iload_n B dX12_bitCount_12 rfl 1 rfl ?_
    refine z_iconst (v := 1) B dX12_bitCount_13 rfl ?_
    refine z_isub B dX12_bitCount_14 ?_
    refine z_iand B dX12_bitCount_15 ?_
    refine z_istore_n (lv' := [(2, .int (i_1 &&& (i_1 - 1))), (1, .int (i_2 + 1)), (0, .int a)]) B dX12_bitCount_16 rfl (Nat.le_of_ble_eq_true rfl) rfl ?_
    refine z_goto (tgt := 4) B dX12_bitCount_17 rfl ?_
    refine z_lv [0, 1, 2] rfl ?_
    exact ih1 (i_1 &&& (i_1 - 1), i_2 + 1) Φl1 (and_dec c_1) ⟨hI1, (fun b9 h9 => ((hF1 b9 (fun j9 h8 h7 => (show False from h7).elim)).trans rfl)), trivial⟩

set_option maxHeartbeats 4000000 in
set_option maxRecDepth 100000 in
theorem r_putTemplate (G : EnvG) (l : Launch) (Φ : Hm) (sz x : Nat) (rd : (Nat → Int32) → Prop) (fl : Nat) (pe : Nat) (le : Nat) (nx : Nat) (il : Nat) (qu : Nat) (kn : Int32) (ec : Int32) (nu : Int32) (va : Int64) (t : Nat) (hx : G.2.2.2 ≤ x) (hI : Im G x (rd, NN, fl, pe, le, nx, il, qu, kn, ec, nu, va) Φ) (ht : t < 4) (hl : le + 40 ≤ 700) : Ct G l yX12_putTemplate wsX12_putTemplate ({ frames := 3, cells := 0, slots := 0, locals := 66 }) 0 0 [.ref x, .int (nI t)] Φ sz (fun v Φ1 sz1 => (v = none) ∧ sz1 = sz ∧ (∃ (le1 : Nat), (le ≤ le1) ∧ (le1 ≤ le + 40) ∧ Im G x (rd, NN, fl, pe, le1, nx, il, qu, kn, ec, nu, va) Φ1) ∧ Fr x (fun j9 => j9 = 0 ∨ j9 = 3 ∨ j9 = 4 ∨ j9 = 8) Φ Φ1) := by
  refine Ct.of (cc := cX12_putTemplate) (maxL := 4) (ret := none) (by decide) rfl (Nat.le_of_ble_eq_true rfl) ?_
  intro p9 e9 s9 m9 w9 t9 k9 B
  show Z p9 l e9 _ s9 m9 _ w9 t9 k9 _ G 4 0 [(0, .ref x), (1, .int (nI t))] [] Φ sz 0 0
  refine z_aload_n B dX12_putTemplate_0 rfl 0 rfl ?_
  refine z_sipush (v := 256) B dX12_putTemplate_1 rfl ?_
  refine z_iload_n B dX12_putTemplate_4 rfl 1 rfl ?_
  refine z_iadd B dX12_putTemplate_5 ?_
  refine z_top (st1 := [.int (nI (256 + t)), .ref x]) (congrArg (fun w9 : Int32 => ([.int w9, .ref x] : List Value)) (nI_add 256 t)) ?_
  refine z_i2l (v := (nI (256 + t)).toInt64) B dX12_putTemplate_6 rfl ?_
  refine z_iconst (v := 2) B dX12_putTemplate_7 rfl ?_
  obtain ⟨v_1, v_2, v_3, n_1, v_4, v_5, v_6, v_7, v_8, v_9, v_10, v_11, v_12, n_2, v_13, n_3, n_4, v_14, v_15, h_1, b_12, b_1, b_2, b_3, b_4, b_5, b_6, b_7, b_8, b_9, b_10, b_11⟩ := im0 hI
  replace b_1 : 1 ≤ n_1 := b_1
  replace b_2 : n_1 ≤ 1024 := b_2
  replace b_3 : fl ≤ 12 := b_3
  replace b_4 : pe ≤ 24 := b_4
  replace b_5 : le ≤ 700 := b_5
  replace b_6 : qu ≤ 12 := b_6
  replace b_7 : n_2 ≤ 8 := b_7
  replace b_8 : n_3 ≤ 24 := b_8
  replace b_9 : n_4 ≤ 24 := b_9
  replace b_10 : il ≤ 700 := b_10
  replace b_11 : nx ≤ 701 := b_11
  have h_2 : Φ x = some (o_ 14 [.int v_1, .ref (x + 1), .ref (x + 2), .int v_2, .int v_3, .int (nI n_1), .int v_4, .int v_5, .ref (x + 3), .ref (x + 4), .int v_6, .long v_7, .ref (x + 5), .int (nI fl), .int v_8, .long v_9, .long v_10, .long v_11, .long v_12, .ref (x + 6), .ref (x + 7), .int (nI pe), .ref (x + 8), .int (nI le), .ref (x + 9), .ref (x + 10), .int (nI qu), .ref (x + 11), .ref (x + 12), .ref (x + 13), .ref (x + 14), .ref (x + 15), .ref (x + 16), .int (nI n_2), .long v_13, .ref (x + 17), .ref (x + 18), .ref (x + 19), .ref (x + 20), .ref (x + 21), .ref (x + 22), .int (nI n_3), .ref (x + 23), .ref (x + 24), .int (nI n_4), .ref (x + 25), .int (nI il), .int (nI nx), .int ec, .int v_14, .int kn, .int v_15, .int nu, .long va]) := h_1
  refine z_callV (As := [.long ((nI (256 + t)).toInt64), .int 2]) (rest := []) B (r_put G l Φ sz x rd fl pe le nx il qu kn ec nu va ((nI (256 + t)).toInt64) 2 hx hI (show 2 ≤ 8 by omega) (show le + 2 ≤ 700 by omega)) (cwV 2 B.1.2.2.2.2 gX12_putTemplate_X12_put rfl rfl rfl (by decide +kernel) ⟨Nat.le_of_ble_eq_true rfl, Nat.le_of_ble_eq_true rfl⟩) h_2 rfl rfl rfl rfl (Nat.le_of_ble_eq_true rfl) dX12_putTemplate_8 ⟨Nat.le_of_ble_eq_true rfl, Nat.le_of_ble_eq_true rfl⟩ (fun r_1 Φ1 sz1 st1 hp1 hs1 => ?_)
  obtain ⟨rfl, hq1, ⟨n_5, b_13, hI1⟩, hF1⟩ := hp1
  subst sz1
  replace hs1 : st1 = [] := hs1
  subst st1
  replace hI1 : Im G x (rd, NN, fl, pe, n_5, nx, il, qu, kn, ec, nu, va) Φ1 := hI1
  replace b_13 : n_5 = le + 2 := b_13
  refine z_aload_n B dX12_putTemplate_11 rfl 0 rfl ?_
  refine z_aload_n B dX12_putTemplate_12 rfl 0 rfl ?_
  refine z_iload_n B dX12_putTemplate_13 rfl 1 rfl ?_
  obtain ⟨v_16, v_17, v_18, n_6, v_19, v_20, v_21, v_22, v_23, v_24, v_25, v_26, v_27, n_7, v_28, n_8, n_9, v_29, v_30, h_3, b_25, b_14, b_15, b_16, b_17, b_18, b_19, b_20, b_21, b_22, b_23, b_24⟩ := im0 hI1
  replace b_14 : 1 ≤ n_6 := b_14
  replace b_15 : n_6 ≤ 1024 := b_15
  replace b_16 : fl ≤ 12 := b_16
  replace b_17 : pe ≤ 24 := b_17
  replace b_18 : n_5 ≤ 700 := b_18
  replace b_19 : qu ≤ 12 := b_19
  replace b_20 : n_7 ≤ 8 := b_20
  replace b_21 : n_8 ≤ 24 := b_21
  replace b_22 : n_9 ≤ 24 := b_22
  replace b_23 : il ≤ 700 := b_23
  replace b_24 : nx ≤ 701 := b_24
  have h_4 : Φ1 x = some (o_ 14 [.int v_16, .ref (x + 1), .ref (x + 2), .int v_17, .int v_18, .int (nI n_6), .int v_19, .int v_20, .ref (x + 3), .ref (x + 4), .int v_21, .long v_22, .ref (x + 5), .int (nI fl), .int v_23, .long v_24, .long v_25, .long v_26, .long v_27, .ref (x + 6), .ref (x + 7), .int (nI pe), .ref (x + 8), .int (nI n_5), .ref (x + 9), .ref (x + 10), .int (nI qu), .ref (x + 11), .ref (x + 12), .ref (x + 13), .ref (x + 14), .ref (x + 15), .ref (x + 16), .int (nI n_7), .long v_28, .ref (x + 17), .ref (x + 18), .ref (x + 19), .ref (x + 20), .ref (x + 21), .ref (x + 22), .int (nI n_8), .ref (x + 23), .ref (x + 24), .int (nI n_9), .ref (x + 25), .int (nI il), .int (nI nx), .int ec, .int v_29, .int kn, .int v_30, .int nu, .long va]) := h_3
  refine z_callV (As := [.int (nI t)]) (rest := [.ref x]) B (r_effective G l Φ1 sz x rd fl pe n_5 nx il qu kn ec nu va t hx hI1 (show t < 4 by omega)) (cwV 1 B.1.2.2.2.2 gX12_putTemplate_X12_effective rfl rfl rfl (by decide +kernel) ⟨Nat.le_of_ble_eq_true rfl, Nat.le_of_ble_eq_true rfl⟩) h_4 rfl rfl rfl rfl (Nat.le_of_ble_eq_true rfl) dX12_putTemplate_14 ⟨Nat.le_of_ble_eq_true rfl, Nat.le_of_ble_eq_true rfl⟩ (fun r_2 Φ2 sz2 st2 hp2 hs2 => ?_)
  obtain ⟨⟨v_31, rfl⟩, hq2, hI2, hF2⟩ := hp2
  subst sz2
  replace hs2 : st2 = [.int v_31, .ref x] := hs2
  subst st2
  replace hI2 : Im G x (rd, NN, fl, pe, n_5, nx, il, qu, kn, ec, nu, va) Φ2 := hI2
  refine z_callS (As := [.int v_31]) (rest := [.ref x]) B (r_bitCount G l Φ2 sz x rd fl pe n_5 nx il qu kn ec nu va v_31 hx hI2 ) (va_cwS 1 B.1.2.2.2.2 gX12_putTemplate_X12_bitCount rfl rfl rfl (by decide +kernel) ⟨Nat.le_of_ble_eq_true rfl, Nat.le_of_ble_eq_true rfl⟩) rfl rfl (Nat.le_of_ble_eq_true rfl) dX12_putTemplate_17 ⟨Nat.le_of_ble_eq_true rfl, Nat.le_of_ble_eq_true rfl⟩ (fun r_3 Φ3 sz3 st3 hp3 hs3 => ?_)
  obtain ⟨⟨v_32, rfl⟩, hq3, hI3, hF3⟩ := hp3
  subst sz3
  replace hs3 : st3 = [.int v_32, .ref x] := hs3
  subst st3
  replace hI3 : Im G x (rd, NN, fl, pe, n_5, nx, il, qu, kn, ec, nu, va) Φ3 := hI3
  refine z_i2l (v := v_32.toInt64) B dX12_putTemplate_20 rfl ?_
  refine z_iconst (v := 2) B dX12_putTemplate_21 rfl ?_
  have h_5 : Φ3 x = some (o_ 14 [.int v_16, .ref (x + 1), .ref (x + 2), .int v_17, .int v_18, .int (nI n_6), .int v_19, .int v_20, .ref (x + 3), .ref (x + 4), .int v_21, .long v_22, .ref (x + 5), .int (nI fl), .int v_23, .long v_24, .long v_25, .long v_26, .long v_27, .ref (x + 6), .ref (x + 7), .int (nI pe), .ref (x + 8), .int (nI n_5), .ref (x + 9), .ref (x + 10), .int (nI qu), .ref (x + 11), .ref (x + 12), .ref (x + 13), .ref (x + 14), .ref (x + 15), .ref (x + 16), .int (nI n_7), .long v_28, .ref (x + 17), .ref (x + 18), .ref (x + 19), .ref (x + 20), .ref (x + 21), .ref (x + 22), .int (nI n_8), .ref (x + 23), .ref (x + 24), .int (nI n_9), .ref (x + 25), .int (nI il), .int (nI nx), .int ec, .int v_29, .int kn, .int v_30, .int nu, .long va]) := ((hF3 x (fun j9 h8 h7 => (show False from h7).elim)).trans ((hF2 x (fun j9 h8 h7 => (show False from h7).elim)).trans h_4))
  refine z_callV (As := [.long v_32.toInt64, .int 2]) (rest := []) B (r_put G l Φ3 sz x rd fl pe n_5 nx il qu kn ec nu va v_32.toInt64 2 hx hI3 (show 2 ≤ 8 by omega) (show n_5 + 2 ≤ 700 by omega)) (cwV 2 B.1.2.2.2.2 gX12_putTemplate_X12_put rfl rfl rfl (by decide +kernel) ⟨Nat.le_of_ble_eq_true rfl, Nat.le_of_ble_eq_true rfl⟩) h_5 rfl rfl rfl rfl (Nat.le_of_ble_eq_true rfl) dX12_putTemplate_22 ⟨Nat.le_of_ble_eq_true rfl, Nat.le_of_ble_eq_true rfl⟩ (fun r_4 Φ4 sz4 st4 hp4 hs4 => ?_)
  obtain ⟨rfl, hq4, ⟨n_10, b_26, hI4⟩, hF4⟩ := hp4
  subst sz4
  replace hs4 : st4 = [] := hs4
  subst st4
  replace hI4 : Im G x (rd, NN, fl, pe, n_10, nx, il, qu, kn, ec, nu, va) Φ4 := hI4
  replace b_26 : n_10 = n_5 + 2 := b_26
  refine z_iconst (v := 0) B dX12_putTemplate_25 rfl ?_
  refine z_istore_n (lv' := [(2, .int 0), (0, .ref x), (1, .int (nI t))]) B dX12_putTemplate_26 rfl (Nat.le_of_ble_eq_true rfl) rfl ?_
  refine z_lv [0, 1, 2] rfl ?_
  refine z_loop (α := Nat × Nat) (fun (a9 : Nat × Nat) Φi => Im G x (rd, NN, fl, pe, a9.2, nx, il, qu, kn, ec, nu, va) Φi ∧ Fr x (fun j9 => j9 = 0 ∨ j9 = 3 ∨ j9 = 4 ∨ j9 = 8) Φ4 Φi ∧ (a9.1 ≤ 9) ∧ (n_10 ≤ a9.2) ∧ (a9.2 ≤ n_10 + 4 * a9.1) ∧ True) (fun a9 => [(2, .int (nI (a9.1))), (0, .ref x), (1, .int (nI t))]) (fun a9 => 9 - a9.1) ?_ (0, n_10) ⟨hI4, fun _ _ => rfl, (show 0 ≤ 9 by omega), (show n_10 ≤ n_10 by omega), (show n_10 ≤ n_10 + 4 * 0 by omega), trivial⟩
  rintro ⟨i_1, i_2⟩ Φl1 ⟨hI5, hF5, b_27, b_28, b_29, -⟩ ih1
  replace hI5 : Im G x (rd, NN, fl, pe, i_2, nx, il, qu, kn, ec, nu, va) Φl1 := hI5
  replace b_27 : i_1 ≤ 9 := b_27
  replace b_28 : n_10 ≤ i_2 := b_28
  replace b_29 : i_2 ≤ n_10 + 4 * i_1 := b_29
  show Z p9 l e9 _ s9 m9 _ w9 t9 k9 _ G 4 27 [(2, .int (nI i_1)), (0, .ref x), (1, .int (nI t))] [] Φl1 _ _ _
  refine z_iload_n B dX12_putTemplate_27 rfl 0 rfl ?_
  refine z_aload_n B dX12_putTemplate_28 rfl 1 rfl ?_
  refine z_iload_n B dX12_putTemplate_29 rfl 2 rfl ?_
  obtain ⟨v_33, v_34, v_35, n_11, v_36, v_37, v_38, v_39, v_40, v_41, v_42, v_43, v_44, n_12, v_45, n_13, n_14, v_46, v_47, h_6, b_41, b_30, b_31, b_32, b_33, b_34, b_35, b_36, b_37, b_38, b_39, b_40⟩ := im0 hI5
  replace b_30 : 1 ≤ n_11 := b_30
  replace b_31 : n_11 ≤ 1024 := b_31
  replace b_32 : fl ≤ 12 := b_32
  replace b_33 : pe ≤ 24 := b_33
  replace b_34 : i_2 ≤ 700 := b_34
  replace b_35 : qu ≤ 12 := b_35
  replace b_36 : n_12 ≤ 8 := b_36
  replace b_37 : n_13 ≤ 24 := b_37
  replace b_38 : n_14 ≤ 24 := b_38
  replace b_39 : il ≤ 700 := b_39
  replace b_40 : nx ≤ 701 := b_40
  have h_7 : Φl1 x = some (o_ 14 [.int v_33, .ref (x + 1), .ref (x + 2), .int v_34, .int v_35, .int (nI n_11), .int v_36, .int v_37, .ref (x + 3), .ref (x + 4), .int v_38, .long v_39, .ref (x + 5), .int (nI fl), .int v_40, .long v_41, .long v_42, .long v_43, .long v_44, .ref (x + 6), .ref (x + 7), .int (nI pe), .ref (x + 8), .int (nI i_2), .ref (x + 9), .ref (x + 10), .int (nI qu), .ref (x + 11), .ref (x + 12), .ref (x + 13), .ref (x + 14), .ref (x + 15), .ref (x + 16), .int (nI n_12), .long v_45, .ref (x + 17), .ref (x + 18), .ref (x + 19), .ref (x + 20), .ref (x + 21), .ref (x + 22), .int (nI n_13), .ref (x + 23), .ref (x + 24), .int (nI n_14), .ref (x + 25), .int (nI il), .int (nI nx), .int ec, .int v_46, .int kn, .int v_47, .int nu, .long va]) := h_6
  refine z_callV (As := [.int (nI t)]) (rest := [.int (nI i_1)]) B (r_sizeOf G l Φl1 sz x rd fl pe i_2 nx il qu kn ec nu va t hx hI5 (show t < 4 by omega)) (cwV 1 B.1.2.2.2.2 gX12_putTemplate_X12_sizeOf rfl rfl rfl (by decide +kernel) ⟨Nat.le_of_ble_eq_true rfl, Nat.le_of_ble_eq_true rfl⟩) h_7 rfl rfl rfl rfl (Nat.le_of_ble_eq_true rfl) dX12_putTemplate_30 ⟨Nat.le_of_ble_eq_true rfl, Nat.le_of_ble_eq_true rfl⟩ (fun r_5 Φ5 sz5 st5 hp5 hs5 => ?_)
  obtain ⟨⟨n_15, rfl, b_42⟩, hq5, hI6, hF6⟩ := hp5
  subst sz5
  replace hs5 : st5 = [.int (nI n_15), .int (nI i_1)] := hs5
  subst st5
  replace b_42 : n_15 ≤ 9 := b_42
  replace hI6 : Im G x (rd, NN, fl, pe, i_2, nx, il, qu, kn, ec, nu, va) Φ5 := hI6
  refine z_icmp_ge (tgt := 77) B dX12_putTemplate_33 rfl (fun c_1 => ?_) (fun c_1 => ?_)
  · have e_1 : n_15 ≤ i_1 := (nI_leI (a := n_15) (b := i_1) (by omega) (by omega)).mp c_1
    refine z_aload_n B dX12_putTemplate_77 rfl 1 rfl ?_
    have h_8 : Φ5 x = some (o_ 14 [.int v_33, .ref (x + 1), .ref (x + 2), .int v_34, .int v_35, .int (nI n_11), .int v_36, .int v_37, .ref (x + 3), .ref (x + 4), .int v_38, .long v_39, .ref (x + 5), .int (nI fl), .int v_40, .long v_41, .long v_42, .long v_43, .long v_44, .ref (x + 6), .ref (x + 7), .int (nI pe), .ref (x + 8), .int (nI i_2), .ref (x + 9), .ref (x + 10), .int (nI qu), .ref (x + 11), .ref (x + 12), .ref (x + 13), .ref (x + 14), .ref (x + 15), .ref (x + 16), .int (nI n_12), .long v_45, .ref (x + 17), .ref (x + 18), .ref (x + 19), .ref (x + 20), .ref (x + 21), .ref (x + 22), .int (nI n_13), .ref (x + 23), .ref (x + 24), .int (nI n_14), .ref (x + 25), .int (nI il), .int (nI nx), .int ec, .int v_46, .int kn, .int v_47, .int nu, .long va]) := ((hF6 x (fun j9 h8 h7 => (show False from h7).elim)).trans h_7)
    refine z_get (ref := "FlowExporterModel") (C := RX12) (T := TX12) (N := 54) (ci := 14) (v := .ref (x + 3)) B (by decide +kernel) rfl 8 (by decide) (by decide +kernel) rfl h_8 rfl dX12_putTemplate_78 ?_
    refine z_iload_n B dX12_putTemplate_81 rfl 2 rfl ?_
    refine z_aload_n B dX12_putTemplate_82 rfl 1 rfl ?_
    refine z_get (ref := "FlowExporterModel") (C := RX12) (T := TX12) (N := 54) (ci := 14) (v := .int v_38) B (by decide +kernel) rfl 10 (by decide) (by decide +kernel) rfl h_8 rfl dX12_putTemplate_83 ?_
    obtain ⟨f_1, h_9⟩ := imk (k := 3) hI6
    have h_10 : Φ5 (x + 3) = some (ai_ G 4 f_1) := h_9
    refine z_iast B h_10 (Nat.le_trans hx (Nat.le_add_right x 3)) (vp_in_nI (by omega) (by omega)) dX12_putTemplate_86 (fun Φ6 hΦ1 => ?_)
    have h_11 : Φ6 (x + 3) = some (ai_ G 4 (upd f_1 (nI t).toNatClampNeg v_38)) := fset_at hΦ1
    have hI7 : Im G x (rd, NN, fl, pe, i_2, nx, il, qu, kn, ec, nu, va) Φ6 := Im.put (k := 3) hI6 hΦ1 ⟨_, rfl⟩
    refine z_aload_n B dX12_putTemplate_87 rfl 1 rfl ?_
    have h_12 : Φ6 x = some (o_ 14 [.int v_33, .ref (x + 1), .ref (x + 2), .int v_34, .int v_35, .int (nI n_11), .int v_36, .int v_37, .ref (x + 3), .ref (x + 4), .int v_38, .long v_39, .ref (x + 5), .int (nI fl), .int v_40, .long v_41, .long v_42, .long v_43, .long v_44, .ref (x + 6), .ref (x + 7), .int (nI pe), .ref (x + 8), .int (nI i_2), .ref (x + 9), .ref (x + 10), .int (nI qu), .ref (x + 11), .ref (x + 12), .ref (x + 13), .ref (x + 14), .ref (x + 15), .ref (x + 16), .int (nI n_12), .long v_45, .ref (x + 17), .ref (x + 18), .ref (x + 19), .ref (x + 20), .ref (x + 21), .ref (x + 22), .int (nI n_13), .ref (x + 23), .ref (x + 24), .int (nI n_14), .ref (x + 25), .int (nI il), .int (nI nx), .int ec, .int v_46, .int kn, .int v_47, .int nu, .long va]) := ((fset_fr hΦ1 (ne_off (x := x) (i := 0) (j := 3) rfl)).trans h_8)
    refine z_get (ref := "FlowExporterModel") (C := RX12) (T := TX12) (N := 54) (ci := 14) (v := .ref (x + 4)) B (by decide +kernel) rfl 9 (by decide) (by decide +kernel) rfl h_12 rfl dX12_putTemplate_88 ?_
    refine z_iload_n B dX12_putTemplate_91 rfl 2 rfl ?_
    refine z_aload_n B dX12_putTemplate_92 rfl 1 rfl ?_
    refine z_get (ref := "FlowExporterModel") (C := RX12) (T := TX12) (N := 54) (ci := 14) (v := .int v_34) B (by decide +kernel) rfl 3 (by decide) (by decide +kernel) rfl h_12 rfl dX12_putTemplate_93 ?_
    obtain ⟨f_2, h_13⟩ := imk (k := 4) hI7
    have h_14 : Φ6 (x + 4) = some (ai_ G 4 f_2) := h_13
    refine z_iast B h_14 (Nat.le_trans hx (Nat.le_add_right x 4)) (vp_in_nI (by omega) (by omega)) dX12_putTemplate_96 (fun Φ7 hΦ2 => ?_)
    have h_15 : Φ7 (x + 4) = some (ai_ G 4 (upd f_2 (nI t).toNatClampNeg v_34)) := fset_at hΦ2
    have hI8 : Im G x (rd, NN, fl, pe, i_2, nx, il, qu, kn, ec, nu, va) Φ7 := Im.put (k := 4) hI7 hΦ2 ⟨_, rfl⟩
    exact z_ret_v B dX12_putTemplate_97 ⟨rfl, rfl, ⟨i_2, (show le ≤ i_2 by omega), (show i_2 ≤ le + 40 by omega), hI8⟩, (fun b9 h9 => ((fset_fr hΦ2 (fun h8 => h9 (4) h8 (show 4 = 0 ∨ 4 = 3 ∨ 4 = 4 ∨ 4 = 8 by omega))).trans ((fset_fr hΦ1 (fun h8 => h9 (3) h8 (show 3 = 0 ∨ 3 = 3 ∨ 3 = 4 ∨ 3 = 8 by omega))).trans ((hF6 b9 (fun j9 h8 h7 => (show False from h7).elim)).trans ((hF5 b9 (fun j9 h8 h7 => h9 j9 h8 (show j9 = 0 ∨ j9 = 3 ∨ j9 = 4 ∨ j9 = 8 by have h6 : j9 = 0 ∨ j9 = 3 ∨ j9 = 4 ∨ j9 = 8 := h7; omega))).trans ((hF4 b9 (fun j9 h8 h7 => h9 j9 h8 (show j9 = 0 ∨ j9 = 3 ∨ j9 = 4 ∨ j9 = 8 by have h6 : j9 = 0 ∨ j9 = 8 := h7; omega))).trans ((hF3 b9 (fun j9 h8 h7 => (show False from h7).elim)).trans ((hF2 b9 (fun j9 h8 h7 => (show False from h7).elim)).trans ((hF1 b9 (fun j9 h8 h7 => h9 j9 h8 (show j9 = 0 ∨ j9 = 3 ∨ j9 = 4 ∨ j9 = 8 by have h6 : j9 = 0 ∨ j9 = 8 := h7; omega))).trans rfl)))))))))⟩
  · have e_2 : ¬ (n_15 ≤ i_1) := fun h9 => c_1 ((nI_leI (a := n_15) (b := i_1) (by omega) (by omega)).mpr h9)
    refine z_aload_n B dX12_putTemplate_36 rfl 1 rfl ?_
    refine z_iload_n B dX12_putTemplate_37 rfl 2 rfl ?_
    refine z_iload_n B dX12_putTemplate_38 rfl 0 rfl ?_
    have h_16 : Φ5 x = some (o_ 14 [.int v_33, .ref (x + 1), .ref (x + 2), .int v_34, .int v_35, .int (nI n_11), .int v_36, .int v_37, .ref (x + 3), .ref (x + 4), .int v_38, .long v_39, .ref (x + 5), .int (nI fl), .int v_40, .long v_41, .long v_42, .long v_43, .long v_44, .ref (x + 6), .ref (x + 7), .int (nI pe), .ref (x + 8), .int (nI i_2), .ref (x + 9), .ref (x + 10), .int (nI qu), .ref (x + 11), .ref (x + 12), .ref (x + 13), .ref (x + 14), .ref (x + 15), .ref (x + 16), .int (nI n_12), .long v_45, .ref (x + 17), .ref (x + 18), .ref (x + 19), .ref (x + 20), .ref (x + 21), .ref (x + 22), .int (nI n_13), .ref (x + 23), .ref (x + 24), .int (nI n_14), .ref (x + 25), .int (nI il), .int (nI nx), .int ec, .int v_46, .int kn, .int v_47, .int nu, .long va]) := ((hF6 x (fun j9 h8 h7 => (show False from h7).elim)).trans h_7)
    refine z_callV (As := [.int (nI t), .int (nI i_1)]) (rest := []) B (r_fieldOf G l Φ5 sz x rd fl pe i_2 nx il qu kn ec nu va t i_1 hx hI6 (show t < 4 by omega) (show i_1 < 9 by omega)) (cwV 2 B.1.2.2.2.2 gX12_putTemplate_X12_fieldOf rfl rfl rfl (by decide +kernel) ⟨Nat.le_of_ble_eq_true rfl, Nat.le_of_ble_eq_true rfl⟩) h_16 rfl rfl rfl rfl (Nat.le_of_ble_eq_true rfl) dX12_putTemplate_39 ⟨Nat.le_of_ble_eq_true rfl, Nat.le_of_ble_eq_true rfl⟩ (fun r_8 Φ8 sz6 st6 hp6 hs6 => ?_)
    obtain ⟨⟨n_16, rfl, b_43⟩, hq6, hI9, hF7⟩ := hp6
    subst sz6
    replace hs6 : st6 = [.int (nI n_16)] := hs6
    subst st6
    replace b_43 : n_16 ≤ 8 := b_43
    replace hI9 : Im G x (rd, NN, fl, pe, i_2, nx, il, qu, kn, ec, nu, va) Φ8 := hI9
    refine z_istore_n (lv' := [(3, .int (nI n_16)), (2, .int (nI i_1)), (0, .ref x), (1, .int (nI t))]) B dX12_putTemplate_42 rfl (Nat.le_of_ble_eq_true rfl) rfl ?_
    refine z_aload_n B dX12_putTemplate_43 rfl 2 rfl ?_
    refine z_iload_n B dX12_putTemplate_44 rfl 0 rfl ?_
    have h_17 : Φ8 x = some (o_ 14 [.int v_33, .ref (x + 1), .ref (x + 2), .int v_34, .int v_35, .int (nI n_11), .int v_36, .int v_37, .ref (x + 3), .ref (x + 4), .int v_38, .long v_39, .ref (x + 5), .int (nI fl), .int v_40, .long v_41, .long v_42, .long v_43, .long v_44, .ref (x + 6), .ref (x + 7), .int (nI pe), .ref (x + 8), .int (nI i_2), .ref (x + 9), .ref (x + 10), .int (nI qu), .ref (x + 11), .ref (x + 12), .ref (x + 13), .ref (x + 14), .ref (x + 15), .ref (x + 16), .int (nI n_12), .long v_45, .ref (x + 17), .ref (x + 18), .ref (x + 19), .ref (x + 20), .ref (x + 21), .ref (x + 22), .int (nI n_13), .ref (x + 23), .ref (x + 24), .int (nI n_14), .ref (x + 25), .int (nI il), .int (nI nx), .int ec, .int v_46, .int kn, .int v_47, .int nu, .long va]) := ((hF7 x (fun j9 h8 h7 => (show False from h7).elim)).trans h_16)
    refine z_callV (As := [.int (nI n_16)]) (rest := []) B (r_isSupported G l Φ8 sz x rd fl pe i_2 nx il qu kn ec nu va (nI n_16) hx hI9 ) (cwV 1 B.1.2.2.2.2 gX12_putTemplate_X12_isSupported rfl rfl rfl (by decide +kernel) ⟨Nat.le_of_ble_eq_true rfl, Nat.le_of_ble_eq_true rfl⟩) h_17 rfl rfl rfl rfl (Nat.le_of_ble_eq_true rfl) dX12_putTemplate_45 ⟨Nat.le_of_ble_eq_true rfl, Nat.le_of_ble_eq_true rfl⟩ (fun r_9 Φ9 sz7 st7 hp7 hs7 => ?_)
    obtain ⟨⟨v_48, rfl, b_44⟩, hq7, hI10, hF8⟩ := hp7
    subst sz7
    replace hs7 : st7 = [.int v_48] := hs7
    subst st7
    replace hI10 : Im G x (rd, NN, fl, pe, i_2, nx, il, qu, kn, ec, nu, va) Φ9 := hI10
    refine z_if_ne (tgt := 54) B dX12_putTemplate_48 rfl (fun c_2 => ?_) (fun c_2 => ?_)
    · refine z_aload_n B dX12_putTemplate_54 rfl 2 rfl ?_
      refine z_iload_n B dX12_putTemplate_55 rfl 0 rfl ?_
      refine z_i2l (v := (nI n_16).toInt64) B dX12_putTemplate_56 rfl ?_
      refine z_iconst (v := 2) B dX12_putTemplate_57 rfl ?_
      have h_18 : Φ9 x = some (o_ 14 [.int v_33, .ref (x + 1), .ref (x + 2), .int v_34, .int v_35, .int (nI n_11), .int v_36, .int v_37, .ref (x + 3), .ref (x + 4), .int v_38, .long v_39, .ref (x + 5), .int (nI fl), .int v_40, .long v_41, .long v_42, .long v_43, .long v_44, .ref (x + 6), .ref (x + 7), .int (nI pe), .ref (x + 8), .int (nI i_2), .ref (x + 9), .ref (x + 10), .int (nI qu), .ref (x + 11), .ref (x + 12), .ref (x + 13), .ref (x + 14), .ref (x + 15), .ref (x + 16), .int (nI n_12), .long v_45, .ref (x + 17), .ref (x + 18), .ref (x + 19), .ref (x + 20), .ref (x + 21), .ref (x + 22), .int (nI n_13), .ref (x + 23), .ref (x + 24), .int (nI n_14), .ref (x + 25), .int (nI il), .int (nI nx), .int ec, .int v_46, .int kn, .int v_47, .int nu, .long va]) := ((hF8 x (fun j9 h8 h7 => (show False from h7).elim)).trans h_17)
      refine z_callV (As := [.long ((nI n_16).toInt64), .int 2]) (rest := []) B (r_put G l Φ9 sz x rd fl pe i_2 nx il qu kn ec nu va ((nI n_16).toInt64) 2 hx hI10 (show 2 ≤ 8 by omega) (show i_2 + 2 ≤ 700 by omega)) (cwV 2 B.1.2.2.2.2 gX12_putTemplate_X12_put rfl rfl rfl (by decide +kernel) ⟨Nat.le_of_ble_eq_true rfl, Nat.le_of_ble_eq_true rfl⟩) h_18 rfl rfl rfl rfl (Nat.le_of_ble_eq_true rfl) dX12_putTemplate_58 ⟨Nat.le_of_ble_eq_true rfl, Nat.le_of_ble_eq_true rfl⟩ (fun r_10 Φ10 sz8 st8 hp8 hs8 => ?_)
      obtain ⟨rfl, hq8, ⟨n_17, b_45, hI11⟩, hF9⟩ := hp8
      subst sz8
      replace hs8 : st8 = [] := hs8
      subst st8
      replace hI11 : Im G x (rd, NN, fl, pe, n_17, nx, il, qu, kn, ec, nu, va) Φ10 := hI11
      replace b_45 : n_17 = i_2 + 2 := b_45
      refine z_aload_n B dX12_putTemplate_61 rfl 2 rfl ?_
      refine z_iload_n B dX12_putTemplate_62 rfl 0 rfl ?_
      refine z_callS (As := [.int (nI n_16)]) (rest := [.ref x]) B (r_lengthOf G l Φ10 sz x rd fl pe n_17 nx il qu kn ec nu va n_16 hx hI11 (show n_16 < 2 ^ 31 by omega)) (va_cwS 1 B.1.2.2.2.2 gX12_putTemplate_X12_lengthOf rfl rfl rfl (by decide +kernel) ⟨Nat.le_of_ble_eq_true rfl, Nat.le_of_ble_eq_true rfl⟩) rfl rfl (Nat.le_of_ble_eq_true rfl) dX12_putTemplate_63 ⟨Nat.le_of_ble_eq_true rfl, Nat.le_of_ble_eq_true rfl⟩ (fun r_11 Φ11 sz9 st9 hp9 hs9 => ?_)
      obtain ⟨rfl, hq9, hI12, hF10⟩ := hp9
      subst sz9
      replace hs9 : st9 = [.int (nI (lnN n_16)), .ref x] := hs9
      subst st9
      have b_46 := lnN_pos n_16
      have b_47 := lnN_le n_16
      replace hI12 : Im G x (rd, NN, fl, pe, n_17, nx, il, qu, kn, ec, nu, va) Φ11 := hI12
      refine z_i2l (v := (nI (lnN n_16)).toInt64) B dX12_putTemplate_66 rfl ?_
      refine z_iconst (v := 2) B dX12_putTemplate_67 rfl ?_
      obtain ⟨v_49, v_50, v_51, n_18, v_52, v_53, v_54, v_55, v_56, v_57, v_58, v_59, v_60, n_19, v_61, n_20, n_21, v_62, v_63, h_19, b_59, b_48, b_49, b_50, b_51, b_52, b_53, b_54, b_55, b_56, b_57, b_58⟩ := im0 hI12
      replace b_48 : 1 ≤ n_18 := b_48
      replace b_49 : n_18 ≤ 1024 := b_49
      replace b_50 : fl ≤ 12 := b_50
      replace b_51 : pe ≤ 24 := b_51
      replace b_52 : n_17 ≤ 700 := b_52
      replace b_53 : qu ≤ 12 := b_53
      replace b_54 : n_19 ≤ 8 := b_54
      replace b_55 : n_20 ≤ 24 := b_55
      replace b_56 : n_21 ≤ 24 := b_56
      replace b_57 : il ≤ 700 := b_57
      replace b_58 : nx ≤ 701 := b_58
      have h_20 : Φ11 x = some (o_ 14 [.int v_49, .ref (x + 1), .ref (x + 2), .int v_50, .int v_51, .int (nI n_18), .int v_52, .int v_53, .ref (x + 3), .ref (x + 4), .int v_54, .long v_55, .ref (x + 5), .int (nI fl), .int v_56, .long v_57, .long v_58, .long v_59, .long v_60, .ref (x + 6), .ref (x + 7), .int (nI pe), .ref (x + 8), .int (nI n_17), .ref (x + 9), .ref (x + 10), .int (nI qu), .ref (x + 11), .ref (x + 12), .ref (x + 13), .ref (x + 14), .ref (x + 15), .ref (x + 16), .int (nI n_19), .long v_61, .ref (x + 17), .ref (x + 18), .ref (x + 19), .ref (x + 20), .ref (x + 21), .ref (x + 22), .int (nI n_20), .ref (x + 23), .ref (x + 24), .int (nI n_21), .ref (x + 25), .int (nI il), .int (nI nx), .int ec, .int v_62, .int kn, .int v_63, .int nu, .long va]) := h_19
      refine z_callV (As := [.long ((nI (lnN n_16)).toInt64), .int 2]) (rest := []) B (r_put G l Φ11 sz x rd fl pe n_17 nx il qu kn ec nu va ((nI (lnN n_16)).toInt64) 2 hx hI12 (show 2 ≤ 8 by omega) (show n_17 + 2 ≤ 700 by omega)) (cwV 2 B.1.2.2.2.2 gX12_putTemplate_X12_put rfl rfl rfl (by decide +kernel) ⟨Nat.le_of_ble_eq_true rfl, Nat.le_of_ble_eq_true rfl⟩) h_20 rfl rfl rfl rfl (Nat.le_of_ble_eq_true rfl) dX12_putTemplate_68 ⟨Nat.le_of_ble_eq_true rfl, Nat.le_of_ble_eq_true rfl⟩ (fun r_12 Φ12 sz10 st10 hp10 hs10 => ?_)
      obtain ⟨rfl, hq10, ⟨n_22, b_60, hI13⟩, hF11⟩ := hp10
      subst sz10
      replace hs10 : st10 = [] := hs10
      subst st10
      replace hI13 : Im G x (rd, NN, fl, pe, n_22, nx, il, qu, kn, ec, nu, va) Φ12 := hI13
      replace b_60 : n_22 = n_17 + 2 := b_60
      refine z_iinc (k := 1) (v := nI (i_1 + 1)) (lv' := [(2, .int (nI (i_1 + 1))), (3, .int (nI n_16)), (0, .ref x), (1, .int (nI t))]) B dX12_putTemplate_71 rfl (nI_add i_1 1) (Nat.le_of_ble_eq_true rfl) rfl ?_
      refine z_goto (tgt := 27) B dX12_putTemplate_74 rfl ?_
      refine z_lv [0, 2, 3] rfl ?_
      exact ih1 (i_1 + 1, n_22) Φ12 (show 9 - (i_1 + 1) < 9 - i_1 by omega) ⟨hI13, (fun b9 h9 => ((hF11 b9 (fun j9 h8 h7 => h9 j9 h8 (show j9 = 0 ∨ j9 = 3 ∨ j9 = 4 ∨ j9 = 8 by have h6 : j9 = 0 ∨ j9 = 8 := h7; omega))).trans ((hF10 b9 (fun j9 h8 h7 => (show False from h7).elim)).trans ((hF9 b9 (fun j9 h8 h7 => h9 j9 h8 (show j9 = 0 ∨ j9 = 3 ∨ j9 = 4 ∨ j9 = 8 by have h6 : j9 = 0 ∨ j9 = 8 := h7; omega))).trans ((hF8 b9 (fun j9 h8 h7 => (show False from h7).elim)).trans ((hF7 b9 (fun j9 h8 h7 => (show False from h7).elim)).trans ((hF6 b9 (fun j9 h8 h7 => (show False from h7).elim)).trans ((hF5 b9 (fun j9 h8 h7 => h9 j9 h8 (show j9 = 0 ∨ j9 = 3 ∨ j9 = 4 ∨ j9 = 8 by have h6 : j9 = 0 ∨ j9 = 3 ∨ j9 = 4 ∨ j9 = 8 := h7; omega))).trans rfl)))))))), (show (i_1 + 1) ≤ 9 by omega), (show n_10 ≤ n_22 by omega), (show n_22 ≤ n_10 + 4 * (i_1 + 1) by omega), trivial⟩
    · refine z_goto (tgt := 71) B dX12_putTemplate_51 rfl ?_
      refine z_iinc (k := 1) (v := nI (i_1 + 1)) (lv' := [(2, .int (nI (i_1 + 1))), (3, .int (nI n_16)), (0, .ref x), (1, .int (nI t))]) B dX12_putTemplate_71 rfl (nI_add i_1 1) (Nat.le_of_ble_eq_true rfl) rfl ?_
      refine z_goto (tgt := 27) B dX12_putTemplate_74 rfl ?_
      refine z_lv [0, 2, 3] rfl ?_
      exact ih1 (i_1 + 1, i_2) Φ9 (show 9 - (i_1 + 1) < 9 - i_1 by omega) ⟨hI10, (fun b9 h9 => ((hF8 b9 (fun j9 h8 h7 => (show False from h7).elim)).trans ((hF7 b9 (fun j9 h8 h7 => (show False from h7).elim)).trans ((hF6 b9 (fun j9 h8 h7 => (show False from h7).elim)).trans ((hF5 b9 (fun j9 h8 h7 => h9 j9 h8 (show j9 = 0 ∨ j9 = 3 ∨ j9 = 4 ∨ j9 = 8 by have h6 : j9 = 0 ∨ j9 = 3 ∨ j9 = 4 ∨ j9 = 8 := h7; omega))).trans rfl))))), (show (i_1 + 1) ≤ 9 by omega), (show n_10 ≤ i_2 by omega), (show i_2 ≤ n_10 + 4 * (i_1 + 1) by omega), trivial⟩

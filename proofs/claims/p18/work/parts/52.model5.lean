set_option maxHeartbeats 4000000 in
set_option maxRecDepth 100000 in
theorem r_isSame_23 (G : EnvG) (l : Launch) (Φ : Hm) (sz x : Nat) (rd : (Nat → Int32) → Prop) (fl : Nat) (pe : Nat) (le : Nat) (nx : Nat) (il : Nat) (kn : Int32) (ec : Int32) (i : Nat) (a : Int64) (b : Int64) (d : Int64) (f : Int64) (hx : G.2.2.2 ≤ x) (hI : Im G x (rd, NN, fl, pe, le, nx, il, kn, ec) Φ) (hi : i < 24) : Ct G l yX12_isSame wsX12_isSame ({ frames := 0, cells := 0, slots := 0, locals := 0 }) 0 0 [.ref (x + 23), .int (nI i), .long a, .long b, .long d, .long f] Φ sz (fun v Φ1 sz1 => (∃ r9 : Int32, v = some (.int r9) ∧ (r9 = 0 ∨ r9 = 1)) ∧ sz1 = sz ∧ (Im G x (rd, NN, fl, pe, le, nx, il, kn, ec) Φ1) ∧ Fr x (fun j9 => False) Φ Φ1) := by
  refine Ct.of (cc := cX12_isSame) (maxL := 10) (ret := (some .boolean)) (by decide) rfl (Nat.le_of_ble_eq_true rfl) ?_
  intro p9 e9 s9 m9 w9 t9 k9 B
  show Z p9 l e9 _ s9 m9 _ w9 t9 k9 _ G 10 0 [(0, .ref (x + 23)), (1, .int (nI i)), (2, .long a), (4, .long b), (6, .long d), (8, .long f)] [] Φ sz 0 0
  refine z_aload_n B dX12_isSame_0 rfl 0 rfl ?_
  refine z_iconst (v := 4) B dX12_isSame_1 rfl ?_
  refine z_iload_n B dX12_isSame_2 rfl 1 rfl ?_
  refine z_imul B dX12_isSame_3 ?_
  refine z_top (st1 := [.int (nI (4 * i)), .ref (x + 23)]) (congrArg (fun w9 : Int32 => ([.int w9, .ref (x + 23)] : List Value)) (nI_mul 4 i)) ?_
  obtain ⟨f_1, h_1⟩ := imk (k := 23) hI
  have h_2 : Φ (x + 23) = some (ai_ G 96 f_1) := h_1
  refine z_iald B h_2 (vp_in_nI (by omega) (by omega)) dX12_isSame_4 ?_
  refine z_fi (fun v_1 => ?_)
  refine z_i2l (v := v_1.toInt64) B dX12_isSame_5 rfl ?_
  refine z_lload_n B dX12_isSame_6 rfl 2 rfl ?_
  refine z_lcmp B dX12_isSame_7 ?_
  refine z_fi (fun v_2 => ?_)
  refine z_if_ne (tgt := 57) B dX12_isSame_8 rfl (fun c_1 => ?_) (fun c_1 => ?_)
  · refine z_iconst (v := 0) B dX12_isSame_57 rfl ?_
    exact z_ret_z B dX12_isSame_58 (by decide) ⟨⟨_, rfl, by decide⟩, rfl, hI, (fun b9 h9 => rfl)⟩
  · refine z_aload_n B dX12_isSame_11 rfl 0 rfl ?_
    refine z_iconst (v := 4) B dX12_isSame_12 rfl ?_
    refine z_iload_n B dX12_isSame_13 rfl 1 rfl ?_
    refine z_imul B dX12_isSame_14 ?_
    refine z_top (st1 := [.int (nI (4 * i)), .ref (x + 23)]) (congrArg (fun w9 : Int32 => ([.int w9, .ref (x + 23)] : List Value)) (nI_mul 4 i)) ?_
    refine z_iconst (v := 1) B dX12_isSame_15 rfl ?_
    refine z_iadd B dX12_isSame_16 ?_
    refine z_top (st1 := [.int (nI (4 * i + 1)), .ref (x + 23)]) (congrArg (fun w9 : Int32 => ([.int w9, .ref (x + 23)] : List Value)) (nI_add (4 * i) 1)) ?_
    refine z_iald B h_2 (vp_in_nI (by omega) (by omega)) dX12_isSame_17 ?_
    refine z_fi (fun v_3 => ?_)
    refine z_i2l (v := v_3.toInt64) B dX12_isSame_18 rfl ?_
    refine z_lload B dX12_isSame_19 3 rfl ?_
    refine z_lcmp B dX12_isSame_21 ?_
    refine z_fi (fun v_4 => ?_)
    refine z_if_ne (tgt := 57) B dX12_isSame_22 rfl (fun c_2 => ?_) (fun c_2 => ?_)
    · refine z_iconst (v := 0) B dX12_isSame_57 rfl ?_
      exact z_ret_z B dX12_isSame_58 (by decide) ⟨⟨_, rfl, by decide⟩, rfl, hI, (fun b9 h9 => rfl)⟩
    · refine z_aload_n B dX12_isSame_25 rfl 0 rfl ?_
      refine z_iconst (v := 4) B dX12_isSame_26 rfl ?_
      refine z_iload_n B dX12_isSame_27 rfl 1 rfl ?_
      refine z_imul B dX12_isSame_28 ?_
      refine z_top (st1 := [.int (nI (4 * i)), .ref (x + 23)]) (congrArg (fun w9 : Int32 => ([.int w9, .ref (x + 23)] : List Value)) (nI_mul 4 i)) ?_
      refine z_iconst (v := 2) B dX12_isSame_29 rfl ?_
      refine z_iadd B dX12_isSame_30 ?_
      refine z_top (st1 := [.int (nI (4 * i + 2)), .ref (x + 23)]) (congrArg (fun w9 : Int32 => ([.int w9, .ref (x + 23)] : List Value)) (nI_add (4 * i) 2)) ?_
      refine z_iald B h_2 (vp_in_nI (by omega) (by omega)) dX12_isSame_31 ?_
      refine z_fi (fun v_5 => ?_)
      refine z_i2l (v := v_5.toInt64) B dX12_isSame_32 rfl ?_
      refine z_lload B dX12_isSame_33 4 rfl ?_
      refine z_lcmp B dX12_isSame_35 ?_
      refine z_fi (fun v_6 => ?_)
      refine z_if_ne (tgt := 57) B dX12_isSame_36 rfl (fun c_3 => ?_) (fun c_3 => ?_)
      · refine z_iconst (v := 0) B dX12_isSame_57 rfl ?_
        exact z_ret_z B dX12_isSame_58 (by decide) ⟨⟨_, rfl, by decide⟩, rfl, hI, (fun b9 h9 => rfl)⟩
      · refine z_aload_n B dX12_isSame_39 rfl 0 rfl ?_
        refine z_iconst (v := 4) B dX12_isSame_40 rfl ?_
        refine z_iload_n B dX12_isSame_41 rfl 1 rfl ?_
        refine z_imul B dX12_isSame_42 ?_
        refine z_top (st1 := [.int (nI (4 * i)), .ref (x + 23)]) (congrArg (fun w9 : Int32 => ([.int w9, .ref (x + 23)] : List Value)) (nI_mul 4 i)) ?_
        refine z_iconst (v := 3) B dX12_isSame_43 rfl ?_
        refine z_iadd B dX12_isSame_44 ?_
        refine z_top (st1 := [.int (nI (4 * i + 3)), .ref (x + 23)]) (congrArg (fun w9 : Int32 => ([.int w9, .ref (x + 23)] : List Value)) (nI_add (4 * i) 3)) ?_
        refine z_iald B h_2 (vp_in_nI (by omega) (by omega)) dX12_isSame_45 ?_
        refine z_fi (fun v_7 => ?_)
        refine z_i2l (v := v_7.toInt64) B dX12_isSame_46 rfl ?_
        refine z_lload B dX12_isSame_47 5 rfl ?_
        refine z_lcmp B dX12_isSame_49 ?_
        refine z_fi (fun v_8 => ?_)
        refine z_if_ne (tgt := 57) B dX12_isSame_50 rfl (fun c_4 => ?_) (fun c_4 => ?_)
        · refine z_iconst (v := 0) B dX12_isSame_57 rfl ?_
          exact z_ret_z B dX12_isSame_58 (by decide) ⟨⟨_, rfl, by decide⟩, rfl, hI, (fun b9 h9 => rfl)⟩
        · refine z_iconst (v := 1) B dX12_isSame_53 rfl ?_
          refine z_goto (tgt := 58) B dX12_isSame_54 rfl ?_
          exact z_ret_z B dX12_isSame_58 (by decide) ⟨⟨_, rfl, by decide⟩, rfl, hI, (fun b9 h9 => rfl)⟩

set_option maxHeartbeats 4000000 in
set_option maxRecDepth 100000 in
theorem r_trueKeyOf (G : EnvG) (l : Launch) (Φ : Hm) (sz x : Nat) (rd : (Nat → Int32) → Prop) (fl : Nat) (pe : Nat) (le : Nat) (nx : Nat) (il : Nat) (kn : Int32) (ec : Int32) (a : Int32) (b : Int32) (d : Int32) (f : Int32) (hx : G.2.2.2 ≤ x) (hI : Im G x (rd, NN, fl, pe, le, nx, il, kn, ec) Φ)  : Ct G l yX12_trueKeyOf wsX12_trueKeyOf ({ frames := 1, cells := 0, slots := 0, locals := 29 }) 0 0 [.ref x, .int a, .int b, .int d, .int f] Φ sz (fun v Φ1 sz1 => (v = some (.int (-1)) ∨ ∃ n9 : Nat, n9 < 24 ∧ v = some (.int (nI n9))) ∧ sz1 = sz ∧ (Im G x (rd, NN, fl, pe, le, nx, il, kn, ec) Φ1) ∧ Fr x (fun j9 => False) Φ Φ1) := by
  refine Ct.of (cc := cX12_trueKeyOf) (maxL := 6) (ret := (some .int)) (by decide) rfl (Nat.le_of_ble_eq_true rfl) ?_
  intro p9 e9 s9 m9 w9 t9 k9 B
  show Z p9 l e9 _ s9 m9 _ w9 t9 k9 _ G 6 0 [(0, .ref x), (1, .int a), (2, .int b), (3, .int d), (4, .int f)] [] Φ sz 0 0
  refine z_iconst (v := 0) B dX12_trueKeyOf_0 rfl ?_
  refine z_istore (lv' := [(5, .int 0), (0, .ref x), (1, .int a), (2, .int b), (3, .int d), (4, .int f)]) B dX12_trueKeyOf_1 (Nat.le_of_ble_eq_true rfl) rfl ?_
  refine z_lv [0, 1, 2, 3, 4, 5] rfl ?_
  refine z_loop (α := Nat) (fun (a9 : Nat) Φi => Im G x (rd, NN, fl, pe, le, nx, il, kn, ec) Φi ∧ Fr x (fun j9 => False) Φ Φi ∧ (a9 ≤ 24) ∧ True) (fun a9 => [(5, .int (nI a9)), (0, .ref x), (1, .int a), (2, .int b), (3, .int d), (4, .int f)]) (fun a9 => 24 - a9) ?_ (0) ⟨hI, fun _ _ => rfl, (show 0 ≤ 24 by omega), trivial⟩
  rintro i_1 Φl1 ⟨hI1, hF1, b_1, -⟩ ih1
  replace hI1 : Im G x (rd, NN, fl, pe, le, nx, il, kn, ec) Φl1 := hI1
  replace b_1 : i_1 ≤ 24 := b_1
  show Z p9 l e9 _ s9 m9 _ w9 t9 k9 _ G 6 3 [(5, .int (nI i_1)), (0, .ref x), (1, .int a), (2, .int b), (3, .int d), (4, .int f)] [] Φl1 _ _ _
  refine z_iload B dX12_trueKeyOf_3 0 rfl ?_
  refine z_aload_n B dX12_trueKeyOf_5 rfl 1 rfl ?_
  obtain ⟨v_1, v_2, v_3, n_1, v_4, v_5, v_6, v_7, v_8, v_9, v_10, v_11, v_12, n_2, n_3, v_13, n_4, n_5, v_14, v_15, v_16, v_17, h_1, b_13, b_2, b_3, b_4, b_5, b_6, b_7, b_8, b_9, b_10, b_11, b_12⟩ := im0 hI1
  replace b_2 : 1 ≤ n_1 := b_2
  replace b_3 : n_1 ≤ 1024 := b_3
  replace b_4 : fl ≤ 12 := b_4
  replace b_5 : pe ≤ 24 := b_5
  replace b_6 : le ≤ 700 := b_6
  replace b_7 : n_2 ≤ 12 := b_7
  replace b_8 : n_3 ≤ 8 := b_8
  replace b_9 : n_4 ≤ 24 := b_9
  replace b_10 : n_5 ≤ 24 := b_10
  replace b_11 : il ≤ 700 := b_11
  replace b_12 : nx ≤ 701 := b_12
  have h_2 : Φl1 x = some (o_ 14 [.int v_1, .ref (x + 1), .ref (x + 2), .int v_2, .int v_3, .int (nI n_1), .int v_4, .int v_5, .ref (x + 3), .ref (x + 4), .int v_6, .long v_7, .ref (x + 5), .int (nI fl), .int v_8, .long v_9, .long v_10, .long v_11, .long v_12, .ref (x + 6), .ref (x + 7), .int (nI pe), .ref (x + 8), .int (nI le), .ref (x + 9), .ref (x + 10), .int (nI n_2), .ref (x + 11), .ref (x + 12), .ref (x + 13), .ref (x + 14), .ref (x + 15), .ref (x + 16), .int (nI n_3), .long v_13, .ref (x + 17), .ref (x + 18), .ref (x + 19), .ref (x + 20), .ref (x + 21), .ref (x + 22), .int (nI n_4), .ref (x + 23), .ref (x + 24), .int (nI n_5), .ref (x + 25), .int (nI il), .int (nI nx), .int ec, .int v_14, .int kn, .int v_15, .int v_16, .long v_17]) := h_1
  refine z_get (ref := "FlowExporterModel") (C := RX12) (T := TX12) (N := 54) (ci := 14) (v := .int (nI n_5)) B (by decide +kernel) rfl 44 (by decide) (by decide +kernel) rfl h_2 rfl dX12_trueKeyOf_6 ?_
  refine z_icmp_ge (tgt := 42) B dX12_trueKeyOf_9 rfl (fun c_1 => ?_) (fun c_1 => ?_)
  · have e_1 : n_5 ≤ i_1 := (nI_leI (a := n_5) (b := i_1) (by omega) (by omega)).mp c_1
    refine z_iconst (v := (-1)) B dX12_trueKeyOf_42 rfl ?_
    exact z_ret_i B dX12_trueKeyOf_43 ⟨(Or.inl rfl), rfl, hI1, (fun b9 h9 => ((hF1 b9 (fun j9 h8 h7 => (show False from h7).elim)).trans rfl))⟩
  · have e_2 : ¬ (n_5 ≤ i_1) := fun h9 => c_1 ((nI_leI (a := n_5) (b := i_1) (by omega) (by omega)).mpr h9)
    refine z_aload_n B dX12_trueKeyOf_12 rfl 1 rfl ?_
    refine z_get (ref := "FlowExporterModel") (C := RX12) (T := TX12) (N := 54) (ci := 14) (v := .ref (x + 23)) B (by decide +kernel) rfl 42 (by decide) (by decide +kernel) rfl h_2 rfl dX12_trueKeyOf_13 ?_
    refine z_iload B dX12_trueKeyOf_16 0 rfl ?_
    refine z_iload_n B dX12_trueKeyOf_18 rfl 2 rfl ?_
    refine z_i2l (v := a.toInt64) B dX12_trueKeyOf_19 rfl ?_
    refine z_iload_n B dX12_trueKeyOf_20 rfl 3 rfl ?_
    refine z_i2l (v := b.toInt64) B dX12_trueKeyOf_21 rfl ?_
    refine z_iload_n B dX12_trueKeyOf_22 rfl 4 rfl ?_
    refine z_i2l (v := d.toInt64) B dX12_trueKeyOf_23 rfl ?_
    refine z_iload B dX12_trueKeyOf_24 5 rfl ?_
    refine z_i2l (v := f.toInt64) B dX12_trueKeyOf_26 rfl ?_
    refine z_callS (As := [.ref (x + 23), .int (nI i_1), .long a.toInt64, .long b.toInt64, .long d.toInt64, .long f.toInt64]) (rest := []) B (r_isSame_23 G l Φl1 sz x rd fl pe le nx il kn ec i_1 a.toInt64 b.toInt64 d.toInt64 f.toInt64 hx hI1 (show i_1 < 24 by omega)) (va_cwS 6 B.1.2.2.2.2 gX12_trueKeyOf_X12_isSame rfl rfl rfl (by decide +kernel) ⟨Nat.le_of_ble_eq_true rfl, Nat.le_of_ble_eq_true rfl⟩) rfl rfl (Nat.le_of_ble_eq_true rfl) dX12_trueKeyOf_27 ⟨Nat.le_of_ble_eq_true rfl, Nat.le_of_ble_eq_true rfl⟩ (fun r_1 Φ1 sz1 st1 hp1 hs1 => ?_)
    obtain ⟨⟨v_18, rfl, b_14⟩, hq1, hI2, hF2⟩ := hp1
    subst sz1
    replace hs1 : st1 = [.int v_18] := hs1
    subst st1
    replace hI2 : Im G x (rd, NN, fl, pe, le, nx, il, kn, ec) Φ1 := hI2
    refine z_if_eq (tgt := 36) B dX12_trueKeyOf_30 rfl (fun c_2 => ?_) (fun c_2 => ?_)
    · refine z_iinc (k := 0) (v := nI (i_1 + 1)) (lv' := [(5, .int (nI (i_1 + 1))), (0, .ref x), (1, .int a), (2, .int b), (3, .int d), (4, .int f)]) B dX12_trueKeyOf_36 rfl (nI_add i_1 1) (Nat.le_of_ble_eq_true rfl) rfl ?_
      refine z_goto (tgt := 3) B dX12_trueKeyOf_39 rfl ?_
      refine z_lv [0, 1, 2, 3, 4, 5] rfl ?_
      exact ih1 (i_1 + 1) Φ1 (show 24 - (i_1 + 1) < 24 - i_1 by omega) ⟨hI2, (fun b9 h9 => ((hF2 b9 (fun j9 h8 h7 => (show False from h7).elim)).trans ((hF1 b9 (fun j9 h8 h7 => (show False from h7).elim)).trans rfl))), (show (i_1 + 1) ≤ 24 by omega), trivial⟩
    · refine z_iload B dX12_trueKeyOf_33 0 rfl ?_
      exact z_ret_i B dX12_trueKeyOf_35 ⟨(Or.inr ⟨i_1, (show i_1 < 24 by omega), rfl⟩), rfl, hI2, (fun b9 h9 => ((hF2 b9 (fun j9 h8 h7 => (show False from h7).elim)).trans ((hF1 b9 (fun j9 h8 h7 => (show False from h7).elim)).trans rfl)))⟩

set_option maxHeartbeats 4000000 in
set_option maxRecDepth 100000 in
theorem r_keyOf (G : EnvG) (l : Launch) (Φ : Hm) (sz x : Nat) (rd : (Nat → Int32) → Prop) (fl : Nat) (pe : Nat) (le : Nat) (nx : Nat) (il : Nat) (kn : Int32) (ec : Int32) (a : Int64) (b : Int64) (d : Int64) (f : Int64) (hx : G.2.2.2 ≤ x) (hI : Im G x (rd, NN, fl, pe, le, nx, il, kn, ec) Φ)  : Ct G l yX12_keyOf wsX12_keyOf ({ frames := 1, cells := 0, slots := 0, locals := 29 }) 0 0 [.ref x, .long a, .long b, .long d, .long f] Φ sz (fun v Φ1 sz1 => (v = some (.int (-1)) ∨ ∃ n9 : Nat, n9 < 24 ∧ v = some (.int (nI n9))) ∧ sz1 = sz ∧ (Im G x (rd, NN, fl, pe, le, nx, il, kn, ec) Φ1) ∧ Fr x (fun j9 => False) Φ Φ1) := by
  refine Ct.of (cc := cX12_keyOf) (maxL := 10) (ret := (some .int)) (by decide) rfl (Nat.le_of_ble_eq_true rfl) ?_
  intro p9 e9 s9 m9 w9 t9 k9 B
  show Z p9 l e9 _ s9 m9 _ w9 t9 k9 _ G 10 0 [(0, .ref x), (1, .long a), (3, .long b), (5, .long d), (7, .long f)] [] Φ sz 0 0
  refine z_iconst (v := 0) B dX12_keyOf_0 rfl ?_
  refine z_istore (lv' := [(9, .int 0), (0, .ref x), (1, .long a), (3, .long b), (5, .long d), (7, .long f)]) B dX12_keyOf_1 (Nat.le_of_ble_eq_true rfl) rfl ?_
  refine z_lv [0, 1, 2, 3, 4, 5] rfl ?_
  refine z_loop (α := Nat) (fun (a9 : Nat) Φi => Im G x (rd, NN, fl, pe, le, nx, il, kn, ec) Φi ∧ Fr x (fun j9 => False) Φ Φi ∧ (a9 ≤ 24) ∧ True) (fun a9 => [(9, .int (nI a9)), (0, .ref x), (1, .long a), (3, .long b), (5, .long d), (7, .long f)]) (fun a9 => 24 - a9) ?_ (0) ⟨hI, fun _ _ => rfl, (show 0 ≤ 24 by omega), trivial⟩
  rintro i_1 Φl1 ⟨hI1, hF1, b_1, -⟩ ih1
  replace hI1 : Im G x (rd, NN, fl, pe, le, nx, il, kn, ec) Φl1 := hI1
  replace b_1 : i_1 ≤ 24 := b_1
  show Z p9 l e9 _ s9 m9 _ w9 t9 k9 _ G 10 3 [(9, .int (nI i_1)), (0, .ref x), (1, .long a), (3, .long b), (5, .long d), (7, .long f)] [] Φl1 _ _ _
  refine z_iload B dX12_keyOf_3 0 rfl ?_
  refine z_aload_n B dX12_keyOf_5 rfl 1 rfl ?_
  obtain ⟨v_1, v_2, v_3, n_1, v_4, v_5, v_6, v_7, v_8, v_9, v_10, v_11, v_12, n_2, n_3, v_13, n_4, n_5, v_14, v_15, v_16, v_17, h_1, b_13, b_2, b_3, b_4, b_5, b_6, b_7, b_8, b_9, b_10, b_11, b_12⟩ := im0 hI1
  replace b_2 : 1 ≤ n_1 := b_2
  replace b_3 : n_1 ≤ 1024 := b_3
  replace b_4 : fl ≤ 12 := b_4
  replace b_5 : pe ≤ 24 := b_5
  replace b_6 : le ≤ 700 := b_6
  replace b_7 : n_2 ≤ 12 := b_7
  replace b_8 : n_3 ≤ 8 := b_8
  replace b_9 : n_4 ≤ 24 := b_9
  replace b_10 : n_5 ≤ 24 := b_10
  replace b_11 : il ≤ 700 := b_11
  replace b_12 : nx ≤ 701 := b_12
  have h_2 : Φl1 x = some (o_ 14 [.int v_1, .ref (x + 1), .ref (x + 2), .int v_2, .int v_3, .int (nI n_1), .int v_4, .int v_5, .ref (x + 3), .ref (x + 4), .int v_6, .long v_7, .ref (x + 5), .int (nI fl), .int v_8, .long v_9, .long v_10, .long v_11, .long v_12, .ref (x + 6), .ref (x + 7), .int (nI pe), .ref (x + 8), .int (nI le), .ref (x + 9), .ref (x + 10), .int (nI n_2), .ref (x + 11), .ref (x + 12), .ref (x + 13), .ref (x + 14), .ref (x + 15), .ref (x + 16), .int (nI n_3), .long v_13, .ref (x + 17), .ref (x + 18), .ref (x + 19), .ref (x + 20), .ref (x + 21), .ref (x + 22), .int (nI n_4), .ref (x + 23), .ref (x + 24), .int (nI n_5), .ref (x + 25), .int (nI il), .int (nI nx), .int ec, .int v_14, .int kn, .int v_15, .int v_16, .long v_17]) := h_1
  refine z_get (ref := "FlowExporterModel") (C := RX12) (T := TX12) (N := 54) (ci := 14) (v := .int (nI n_4)) B (by decide +kernel) rfl 41 (by decide) (by decide +kernel) rfl h_2 rfl dX12_keyOf_6 ?_
  refine z_icmp_ge (tgt := 39) B dX12_keyOf_9 rfl (fun c_1 => ?_) (fun c_1 => ?_)
  · have e_1 : n_4 ≤ i_1 := (nI_leI (a := n_4) (b := i_1) (by omega) (by omega)).mp c_1
    refine z_iconst (v := (-1)) B dX12_keyOf_39 rfl ?_
    exact z_ret_i B dX12_keyOf_40 ⟨(Or.inl rfl), rfl, hI1, (fun b9 h9 => ((hF1 b9 (fun j9 h8 h7 => (show False from h7).elim)).trans rfl))⟩
  · have e_2 : ¬ (n_4 ≤ i_1) := fun h9 => c_1 ((nI_leI (a := n_4) (b := i_1) (by omega) (by omega)).mpr h9)
    refine z_aload_n B dX12_keyOf_12 rfl 1 rfl ?_
    refine z_get (ref := "FlowExporterModel") (C := RX12) (T := TX12) (N := 54) (ci := 14) (v := .ref (x + 19)) B (by decide +kernel) rfl 37 (by decide) (by decide +kernel) rfl h_2 rfl dX12_keyOf_13 ?_
    refine z_iload B dX12_keyOf_16 0 rfl ?_
    refine z_lload_n B dX12_keyOf_18 rfl 2 rfl ?_
    refine z_lload_n B dX12_keyOf_19 rfl 3 rfl ?_
    refine z_lload B dX12_keyOf_20 4 rfl ?_
    refine z_lload B dX12_keyOf_22 5 rfl ?_
    refine z_callS (As := [.ref (x + 19), .int (nI i_1), .long a, .long b, .long d, .long f]) (rest := []) B (r_isSame_19 G l Φl1 sz x rd fl pe le nx il kn ec i_1 a b d f hx hI1 (show i_1 < 24 by omega)) (va_cwS 6 B.1.2.2.2.2 gX12_keyOf_X12_isSame rfl rfl rfl (by decide +kernel) ⟨Nat.le_of_ble_eq_true rfl, Nat.le_of_ble_eq_true rfl⟩) rfl rfl (Nat.le_of_ble_eq_true rfl) dX12_keyOf_24 ⟨Nat.le_of_ble_eq_true rfl, Nat.le_of_ble_eq_true rfl⟩ (fun r_1 Φ1 sz1 st1 hp1 hs1 => ?_)
    obtain ⟨⟨v_18, rfl, b_14⟩, hq1, hI2, hF2⟩ := hp1
    subst sz1
    replace hs1 : st1 = [.int v_18] := hs1
    subst st1
    replace hI2 : Im G x (rd, NN, fl, pe, le, nx, il, kn, ec) Φ1 := hI2
    refine z_if_eq (tgt := 33) B dX12_keyOf_27 rfl (fun c_2 => ?_) (fun c_2 => ?_)
    · refine z_iinc (k := 0) (v := nI (i_1 + 1)) (lv' := [(9, .int (nI (i_1 + 1))), (0, .ref x), (1, .long a), (3, .long b), (5, .long d), (7, .long f)]) B dX12_keyOf_33 rfl (nI_add i_1 1) (Nat.le_of_ble_eq_true rfl) rfl ?_
      refine z_goto (tgt := 3) B dX12_keyOf_36 rfl ?_
      refine z_lv [0, 1, 2, 3, 4, 5] rfl ?_
      exact ih1 (i_1 + 1) Φ1 (show 24 - (i_1 + 1) < 24 - i_1 by omega) ⟨hI2, (fun b9 h9 => ((hF2 b9 (fun j9 h8 h7 => (show False from h7).elim)).trans ((hF1 b9 (fun j9 h8 h7 => (show False from h7).elim)).trans rfl))), (show (i_1 + 1) ≤ 24 by omega), trivial⟩
    · refine z_iload B dX12_keyOf_30 0 rfl ?_
      exact z_ret_i B dX12_keyOf_32 ⟨(Or.inr ⟨i_1, (show i_1 < 24 by omega), rfl⟩), rfl, hI2, (fun b9 h9 => ((hF2 b9 (fun j9 h8 h7 => (show False from h7).elim)).trans ((hF1 b9 (fun j9 h8 h7 => (show False from h7).elim)).trans rfl)))⟩

set_option maxHeartbeats 4000000 in
set_option maxRecDepth 100000 in
theorem r_remember (G : EnvG) (l : Launch) (Φ : Hm) (sz x : Nat) (rd : (Nat → Int32) → Prop) (fl : Nat) (pe : Nat) (le : Nat) (nx : Nat) (il : Nat) (kn : Int32) (ec : Int32) (a : Int32) (b : Int32) (d : Int32) (f : Int32) (g : Int32) (hx : G.2.2.2 ≤ x) (hI : Im G x (rd, NN, fl, pe, le, nx, il, kn, ec) Φ)  : Ct G l yX12_remember wsX12_remember ({ frames := 2, cells := 0, slots := 0, locals := 54 }) 0 0 [.ref x, .int a, .int b, .int d, .int f, .int g] Φ sz (fun v Φ1 sz1 => (v = none) ∧ sz1 = sz ∧ (Im G x (rd, NN, fl, pe, le, nx, il, kn, ec) Φ1) ∧ Fr x (fun j9 => j9 = 0 ∨ j9 = 23 ∨ j9 = 24) Φ Φ1) := by
  refine Ct.of (cc := cX12_remember) (maxL := 7) (ret := none) (by decide) rfl (Nat.le_of_ble_eq_true rfl) ?_
  intro p9 e9 s9 m9 w9 t9 k9 B
  show Z p9 l e9 _ s9 m9 _ w9 t9 k9 _ G 7 0 [(0, .ref x), (1, .int a), (2, .int b), (3, .int d), (4, .int f), (5, .int g)] [] Φ sz 0 0
  refine z_aload_n B dX12_remember_0 rfl 0 rfl ?_
  refine z_iload_n B dX12_remember_1 rfl 1 rfl ?_
  refine z_iload_n B dX12_remember_2 rfl 2 rfl ?_
  refine z_iload_n B dX12_remember_3 rfl 3 rfl ?_
  refine z_iload B dX12_remember_4 4 rfl ?_
  obtain ⟨v_1, v_2, v_3, n_1, v_4, v_5, v_6, v_7, v_8, v_9, v_10, v_11, v_12, n_2, n_3, v_13, n_4, n_5, v_14, v_15, v_16, v_17, h_1, b_12, b_1, b_2, b_3, b_4, b_5, b_6, b_7, b_8, b_9, b_10, b_11⟩ := im0 hI
  replace b_1 : 1 ≤ n_1 := b_1
  replace b_2 : n_1 ≤ 1024 := b_2
  replace b_3 : fl ≤ 12 := b_3
  replace b_4 : pe ≤ 24 := b_4
  replace b_5 : le ≤ 700 := b_5
  replace b_6 : n_2 ≤ 12 := b_6
  replace b_7 : n_3 ≤ 8 := b_7
  replace b_8 : n_4 ≤ 24 := b_8
  replace b_9 : n_5 ≤ 24 := b_9
  replace b_10 : il ≤ 700 := b_10
  replace b_11 : nx ≤ 701 := b_11
  have h_2 : Φ x = some (o_ 14 [.int v_1, .ref (x + 1), .ref (x + 2), .int v_2, .int v_3, .int (nI n_1), .int v_4, .int v_5, .ref (x + 3), .ref (x + 4), .int v_6, .long v_7, .ref (x + 5), .int (nI fl), .int v_8, .long v_9, .long v_10, .long v_11, .long v_12, .ref (x + 6), .ref (x + 7), .int (nI pe), .ref (x + 8), .int (nI le), .ref (x + 9), .ref (x + 10), .int (nI n_2), .ref (x + 11), .ref (x + 12), .ref (x + 13), .ref (x + 14), .ref (x + 15), .ref (x + 16), .int (nI n_3), .long v_13, .ref (x + 17), .ref (x + 18), .ref (x + 19), .ref (x + 20), .ref (x + 21), .ref (x + 22), .int (nI n_4), .ref (x + 23), .ref (x + 24), .int (nI n_5), .ref (x + 25), .int (nI il), .int (nI nx), .int ec, .int v_14, .int kn, .int v_15, .int v_16, .long v_17]) := h_1
  refine z_callV (As := [.int a, .int b, .int d, .int f]) (rest := []) B (r_trueKeyOf G l Φ sz x rd fl pe le nx il kn ec a b d f hx hI ) (cwV 4 B.1.2.2.2.2 gX12_remember_X12_trueKeyOf rfl rfl rfl (by decide +kernel) ⟨Nat.le_of_ble_eq_true rfl, Nat.le_of_ble_eq_true rfl⟩) h_2 rfl rfl rfl rfl (Nat.le_of_ble_eq_true rfl) dX12_remember_6 ⟨Nat.le_of_ble_eq_true rfl, Nat.le_of_ble_eq_true rfl⟩ (fun r_1 Φ1 sz1 st1 hp1 hs1 => ?_)
  obtain ⟨ha1, hq1, hI1, hF1⟩ := hp1
  subst sz1
  replace hI1 : Im G x (rd, NN, fl, pe, le, nx, il, kn, ec) Φ1 := hI1
  rcases ha1 with rfl | ⟨n_6, b_13, rfl⟩
  · replace hs1 : st1 = [.int (-1)] := hs1
    subst st1
    refine z_istore (lv' := [(6, .int (-1)), (0, .ref x), (1, .int a), (2, .int b), (3, .int d), (4, .int f), (5, .int g)]) B dX12_remember_9 (Nat.le_of_ble_eq_true rfl) rfl ?_
    refine z_iload B dX12_remember_11 0 rfl ?_
    refine z_iconst (v := (-1)) B dX12_remember_13 rfl ?_
    refine z_icmp_ne (tgt := 27) B dX12_remember_14 rfl (fun h9 => absurd (by decide) h9) (fun c_1 => ?_)
    refine z_aload_n B dX12_remember_17 rfl 1 rfl ?_
    have h_3 : Φ1 x = some (o_ 14 [.int v_1, .ref (x + 1), .ref (x + 2), .int v_2, .int v_3, .int (nI n_1), .int v_4, .int v_5, .ref (x + 3), .ref (x + 4), .int v_6, .long v_7, .ref (x + 5), .int (nI fl), .int v_8, .long v_9, .long v_10, .long v_11, .long v_12, .ref (x + 6), .ref (x + 7), .int (nI pe), .ref (x + 8), .int (nI le), .ref (x + 9), .ref (x + 10), .int (nI n_2), .ref (x + 11), .ref (x + 12), .ref (x + 13), .ref (x + 14), .ref (x + 15), .ref (x + 16), .int (nI n_3), .long v_13, .ref (x + 17), .ref (x + 18), .ref (x + 19), .ref (x + 20), .ref (x + 21), .ref (x + 22), .int (nI n_4), .ref (x + 23), .ref (x + 24), .int (nI n_5), .ref (x + 25), .int (nI il), .int (nI nx), .int ec, .int v_14, .int kn, .int v_15, .int v_16, .long v_17]) := ((hF1 x (fun j9 h8 h7 => (show False from h7).elim)).trans h_2)
    refine z_get (ref := "FlowExporterModel") (C := RX12) (T := TX12) (N := 54) (ci := 14) (v := .int (nI n_5)) B (by decide +kernel) rfl 44 (by decide) (by decide +kernel) rfl h_3 rfl dX12_remember_18 ?_
    refine z_bipush (v := 24) B dX12_remember_21 rfl ?_
    refine z_icmp_ne (tgt := 27) B dX12_remember_23 rfl (fun c_2 => ?_) (fun c_2 => ?_)
    · have e_1 : ¬ (n_5 = 24) := fun h9 => c_2 ((nI_eq (a := n_5) (b := 24) (by omega) (by omega)).mpr h9)
      refine z_iload B dX12_remember_27 0 rfl ?_
      refine z_iconst (v := (-1)) B dX12_remember_29 rfl ?_
      refine z_icmp_ne (tgt := 118) B dX12_remember_30 rfl (fun h9 => absurd (by decide) h9) (fun c_3 => ?_)
      refine z_aload_n B dX12_remember_33 rfl 1 rfl ?_
      refine z_get (ref := "FlowExporterModel") (C := RX12) (T := TX12) (N := 54) (ci := 14) (v := .int (nI n_5)) B (by decide +kernel) rfl 44 (by decide) (by decide +kernel) rfl h_3 rfl dX12_remember_34 ?_
      refine z_istore (lv' := [(6, .int (nI n_5)), (0, .ref x), (1, .int a), (2, .int b), (3, .int d), (4, .int f), (5, .int g)]) B dX12_remember_37 (Nat.le_of_ble_eq_true rfl) rfl ?_
      refine z_aload_n B dX12_remember_39 rfl 1 rfl ?_
      refine z_dup B dX12_remember_40 rfl ?_
      refine z_get (ref := "FlowExporterModel") (C := RX12) (T := TX12) (N := 54) (ci := 14) (v := .int (nI n_5)) B (by decide +kernel) rfl 44 (by decide) (by decide +kernel) rfl h_3 rfl dX12_remember_41 ?_
      refine z_iconst (v := 1) B dX12_remember_44 rfl ?_
      refine z_iadd B dX12_remember_45 ?_
      refine z_top (st1 := [.int (nI (n_5 + 1)), .ref x]) (congrArg (fun w9 : Int32 => ([.int w9, .ref x] : List Value)) (nI_add n_5 1)) ?_
      refine z_put (ref := "FlowExporterModel") (C := RX12) (T := TX12) (N := 54) (ci := 14) (v := .int (nI (n_5 + 1))) B (by decide +kernel) tyX12 tyX12_ok nmX12 rfl 44 (by decide) (by decide +kernel) rfl (Or.inl rfl) h_3 hx rfl rfl (Nat.le_of_ble_eq_true rfl) dX12_remember_46 (fun Φ2 hΦ1 => ?_)
      have h_4 : Φ2 x = some (o_ 14 [.int v_1, .ref (x + 1), .ref (x + 2), .int v_2, .int v_3, .int (nI n_1), .int v_4, .int v_5, .ref (x + 3), .ref (x + 4), .int v_6, .long v_7, .ref (x + 5), .int (nI fl), .int v_8, .long v_9, .long v_10, .long v_11, .long v_12, .ref (x + 6), .ref (x + 7), .int (nI pe), .ref (x + 8), .int (nI le), .ref (x + 9), .ref (x + 10), .int (nI n_2), .ref (x + 11), .ref (x + 12), .ref (x + 13), .ref (x + 14), .ref (x + 15), .ref (x + 16), .int (nI n_3), .long v_13, .ref (x + 17), .ref (x + 18), .ref (x + 19), .ref (x + 20), .ref (x + 21), .ref (x + 22), .int (nI n_4), .ref (x + 23), .ref (x + 24), .int (nI (n_5 + 1)), .ref (x + 25), .int (nI il), .int (nI nx), .int ec, .int v_14, .int kn, .int v_15, .int v_16, .long v_17]) := fset_at hΦ1
      have hI2 : Im G x (rd, NN, fl, pe, le, nx, il, kn, ec) Φ2 := Im.put0 hI1 hΦ1 ⟨v_1, v_2, v_3, n_1, v_4, v_5, v_6, v_7, v_8, v_9, v_10, v_11, v_12, n_2, n_3, v_13, n_4, n_5 + 1, v_14, v_15, v_16, v_17, rfl, b_12, (show 1 ≤ n_1 by omega), (show n_1 ≤ 1024 by omega), (show fl ≤ 12 by omega), (show pe ≤ 24 by omega), (show le ≤ 700 by omega), (show n_2 ≤ 12 by omega), (show n_3 ≤ 8 by omega), (show n_4 ≤ 24 by omega), (show (n_5 + 1) ≤ 24 by omega), (show il ≤ 700 by omega), (show nx ≤ 701 by omega)⟩
      refine z_aload_n B dX12_remember_49 rfl 1 rfl ?_
      refine z_get (ref := "FlowExporterModel") (C := RX12) (T := TX12) (N := 54) (ci := 14) (v := .ref (x + 23)) B (by decide +kernel) rfl 42 (by decide) (by decide +kernel) rfl h_4 rfl dX12_remember_50 ?_
      refine z_iconst (v := 4) B dX12_remember_53 rfl ?_
      refine z_iload B dX12_remember_54 0 rfl ?_
      refine z_imul B dX12_remember_56 ?_
      refine z_top (st1 := [.int (nI (4 * n_5)), .ref (x + 23)]) (congrArg (fun w9 : Int32 => ([.int w9, .ref (x + 23)] : List Value)) (nI_mul 4 n_5)) ?_
      refine z_iload_n B dX12_remember_57 rfl 2 rfl ?_
      obtain ⟨f_1, h_5⟩ := imk (k := 23) hI2
      have h_6 : Φ2 (x + 23) = some (ai_ G 96 f_1) := h_5
      refine z_iast B h_6 (Nat.le_trans hx (Nat.le_add_right x 23)) (vp_in_nI (by omega) (by omega)) dX12_remember_58 (fun Φ3 hΦ2 => ?_)
      have h_7 : Φ3 (x + 23) = some (ai_ G 96 (upd f_1 (nI (4 * n_5)).toNatClampNeg a)) := fset_at hΦ2
      have hI3 : Im G x (rd, NN, fl, pe, le, nx, il, kn, ec) Φ3 := Im.put (k := 23) hI2 hΦ2 ⟨_, rfl⟩
      refine z_aload_n B dX12_remember_59 rfl 1 rfl ?_
      have h_8 : Φ3 x = some (o_ 14 [.int v_1, .ref (x + 1), .ref (x + 2), .int v_2, .int v_3, .int (nI n_1), .int v_4, .int v_5, .ref (x + 3), .ref (x + 4), .int v_6, .long v_7, .ref (x + 5), .int (nI fl), .int v_8, .long v_9, .long v_10, .long v_11, .long v_12, .ref (x + 6), .ref (x + 7), .int (nI pe), .ref (x + 8), .int (nI le), .ref (x + 9), .ref (x + 10), .int (nI n_2), .ref (x + 11), .ref (x + 12), .ref (x + 13), .ref (x + 14), .ref (x + 15), .ref (x + 16), .int (nI n_3), .long v_13, .ref (x + 17), .ref (x + 18), .ref (x + 19), .ref (x + 20), .ref (x + 21), .ref (x + 22), .int (nI n_4), .ref (x + 23), .ref (x + 24), .int (nI (n_5 + 1)), .ref (x + 25), .int (nI il), .int (nI nx), .int ec, .int v_14, .int kn, .int v_15, .int v_16, .long v_17]) := ((fset_fr hΦ2 (ne_off (x := x) (i := 0) (j := 23) rfl)).trans h_4)
      refine z_get (ref := "FlowExporterModel") (C := RX12) (T := TX12) (N := 54) (ci := 14) (v := .ref (x + 23)) B (by decide +kernel) rfl 42 (by decide) (by decide +kernel) rfl h_8 rfl dX12_remember_60 ?_
      refine z_iconst (v := 4) B dX12_remember_63 rfl ?_
      refine z_iload B dX12_remember_64 0 rfl ?_
      refine z_imul B dX12_remember_66 ?_
      refine z_top (st1 := [.int (nI (4 * n_5)), .ref (x + 23)]) (congrArg (fun w9 : Int32 => ([.int w9, .ref (x + 23)] : List Value)) (nI_mul 4 n_5)) ?_
      refine z_iconst (v := 1) B dX12_remember_67 rfl ?_
      refine z_iadd B dX12_remember_68 ?_
      refine z_top (st1 := [.int (nI (4 * n_5 + 1)), .ref (x + 23)]) (congrArg (fun w9 : Int32 => ([.int w9, .ref (x + 23)] : List Value)) (nI_add (4 * n_5) 1)) ?_
      refine z_iload_n B dX12_remember_69 rfl 3 rfl ?_
      obtain ⟨f_2, h_9⟩ := imk (k := 23) hI3
      have h_10 : Φ3 (x + 23) = some (ai_ G 96 f_2) := h_9
      refine z_iast B h_10 (Nat.le_trans hx (Nat.le_add_right x 23)) (vp_in_nI (by omega) (by omega)) dX12_remember_70 (fun Φ4 hΦ3 => ?_)
      have h_11 : Φ4 (x + 23) = some (ai_ G 96 (upd f_2 (nI (4 * n_5 + 1)).toNatClampNeg b)) := fset_at hΦ3
      have hI4 : Im G x (rd, NN, fl, pe, le, nx, il, kn, ec) Φ4 := Im.put (k := 23) hI3 hΦ3 ⟨_, rfl⟩
      refine z_aload_n B dX12_remember_71 rfl 1 rfl ?_
      have h_12 : Φ4 x = some (o_ 14 [.int v_1, .ref (x + 1), .ref (x + 2), .int v_2, .int v_3, .int (nI n_1), .int v_4, .int v_5, .ref (x + 3), .ref (x + 4), .int v_6, .long v_7, .ref (x + 5), .int (nI fl), .int v_8, .long v_9, .long v_10, .long v_11, .long v_12, .ref (x + 6), .ref (x + 7), .int (nI pe), .ref (x + 8), .int (nI le), .ref (x + 9), .ref (x + 10), .int (nI n_2), .ref (x + 11), .ref (x + 12), .ref (x + 13), .ref (x + 14), .ref (x + 15), .ref (x + 16), .int (nI n_3), .long v_13, .ref (x + 17), .ref (x + 18), .ref (x + 19), .ref (x + 20), .ref (x + 21), .ref (x + 22), .int (nI n_4), .ref (x + 23), .ref (x + 24), .int (nI (n_5 + 1)), .ref (x + 25), .int (nI il), .int (nI nx), .int ec, .int v_14, .int kn, .int v_15, .int v_16, .long v_17]) := ((fset_fr hΦ3 (ne_off (x := x) (i := 0) (j := 23) rfl)).trans h_8)
      refine z_get (ref := "FlowExporterModel") (C := RX12) (T := TX12) (N := 54) (ci := 14) (v := .ref (x + 23)) B (by decide +kernel) rfl 42 (by decide) (by decide +kernel) rfl h_12 rfl dX12_remember_72 ?_
      refine z_iconst (v := 4) B dX12_remember_75 rfl ?_
      refine z_iload B dX12_remember_76 0 rfl ?_
      refine z_imul B dX12_remember_78 ?_
      refine z_top (st1 := [.int (nI (4 * n_5)), .ref (x + 23)]) (congrArg (fun w9 : Int32 => ([.int w9, .ref (x + 23)] : List Value)) (nI_mul 4 n_5)) ?_
      refine z_iconst (v := 2) B dX12_remember_79 rfl ?_
      refine z_iadd B dX12_remember_80 ?_
      refine z_top (st1 := [.int (nI (4 * n_5 + 2)), .ref (x + 23)]) (congrArg (fun w9 : Int32 => ([.int w9, .ref (x + 23)] : List Value)) (nI_add (4 * n_5) 2)) ?_
      refine z_iload_n B dX12_remember_81 rfl 4 rfl ?_
      obtain ⟨f_3, h_13⟩ := imk (k := 23) hI4
      have h_14 : Φ4 (x + 23) = some (ai_ G 96 f_3) := h_13
      refine z_iast B h_14 (Nat.le_trans hx (Nat.le_add_right x 23)) (vp_in_nI (by omega) (by omega)) dX12_remember_82 (fun Φ5 hΦ4 => ?_)
      have h_15 : Φ5 (x + 23) = some (ai_ G 96 (upd f_3 (nI (4 * n_5 + 2)).toNatClampNeg d)) := fset_at hΦ4
      have hI5 : Im G x (rd, NN, fl, pe, le, nx, il, kn, ec) Φ5 := Im.put (k := 23) hI4 hΦ4 ⟨_, rfl⟩
      refine z_aload_n B dX12_remember_83 rfl 1 rfl ?_
      have h_16 : Φ5 x = some (o_ 14 [.int v_1, .ref (x + 1), .ref (x + 2), .int v_2, .int v_3, .int (nI n_1), .int v_4, .int v_5, .ref (x + 3), .ref (x + 4), .int v_6, .long v_7, .ref (x + 5), .int (nI fl), .int v_8, .long v_9, .long v_10, .long v_11, .long v_12, .ref (x + 6), .ref (x + 7), .int (nI pe), .ref (x + 8), .int (nI le), .ref (x + 9), .ref (x + 10), .int (nI n_2), .ref (x + 11), .ref (x + 12), .ref (x + 13), .ref (x + 14), .ref (x + 15), .ref (x + 16), .int (nI n_3), .long v_13, .ref (x + 17), .ref (x + 18), .ref (x + 19), .ref (x + 20), .ref (x + 21), .ref (x + 22), .int (nI n_4), .ref (x + 23), .ref (x + 24), .int (nI (n_5 + 1)), .ref (x + 25), .int (nI il), .int (nI nx), .int ec, .int v_14, .int kn, .int v_15, .int v_16, .long v_17]) := ((fset_fr hΦ4 (ne_off (x := x) (i := 0) (j := 23) rfl)).trans h_12)
      refine z_get (ref := "FlowExporterModel") (C := RX12) (T := TX12) (N := 54) (ci := 14) (v := .ref (x + 23)) B (by decide +kernel) rfl 42 (by decide) (by decide +kernel) rfl h_16 rfl dX12_remember_84 ?_
      refine z_iconst (v := 4) B dX12_remember_87 rfl ?_
      refine z_iload B dX12_remember_88 0 rfl ?_
      refine z_imul B dX12_remember_90 ?_
      refine z_top (st1 := [.int (nI (4 * n_5)), .ref (x + 23)]) (congrArg (fun w9 : Int32 => ([.int w9, .ref (x + 23)] : List Value)) (nI_mul 4 n_5)) ?_
      refine z_iconst (v := 3) B dX12_remember_91 rfl ?_
      refine z_iadd B dX12_remember_92 ?_
      refine z_top (st1 := [.int (nI (4 * n_5 + 3)), .ref (x + 23)]) (congrArg (fun w9 : Int32 => ([.int w9, .ref (x + 23)] : List Value)) (nI_add (4 * n_5) 3)) ?_
      refine z_iload B dX12_remember_93 5 rfl ?_
      obtain ⟨f_4, h_17⟩ := imk (k := 23) hI5
      have h_18 : Φ5 (x + 23) = some (ai_ G 96 f_4) := h_17
      refine z_iast B h_18 (Nat.le_trans hx (Nat.le_add_right x 23)) (vp_in_nI (by omega) (by omega)) dX12_remember_95 (fun Φ6 hΦ5 => ?_)
      have h_19 : Φ6 (x + 23) = some (ai_ G 96 (upd f_4 (nI (4 * n_5 + 3)).toNatClampNeg f)) := fset_at hΦ5
      have hI6 : Im G x (rd, NN, fl, pe, le, nx, il, kn, ec) Φ6 := Im.put (k := 23) hI5 hΦ5 ⟨_, rfl⟩
      refine z_aload_n B dX12_remember_96 rfl 1 rfl ?_
      have h_20 : Φ6 x = some (o_ 14 [.int v_1, .ref (x + 1), .ref (x + 2), .int v_2, .int v_3, .int (nI n_1), .int v_4, .int v_5, .ref (x + 3), .ref (x + 4), .int v_6, .long v_7, .ref (x + 5), .int (nI fl), .int v_8, .long v_9, .long v_10, .long v_11, .long v_12, .ref (x + 6), .ref (x + 7), .int (nI pe), .ref (x + 8), .int (nI le), .ref (x + 9), .ref (x + 10), .int (nI n_2), .ref (x + 11), .ref (x + 12), .ref (x + 13), .ref (x + 14), .ref (x + 15), .ref (x + 16), .int (nI n_3), .long v_13, .ref (x + 17), .ref (x + 18), .ref (x + 19), .ref (x + 20), .ref (x + 21), .ref (x + 22), .int (nI n_4), .ref (x + 23), .ref (x + 24), .int (nI (n_5 + 1)), .ref (x + 25), .int (nI il), .int (nI nx), .int ec, .int v_14, .int kn, .int v_15, .int v_16, .long v_17]) := ((fset_fr hΦ5 (ne_off (x := x) (i := 0) (j := 23) rfl)).trans h_16)
      refine z_get (ref := "FlowExporterModel") (C := RX12) (T := TX12) (N := 54) (ci := 14) (v := .ref (x + 24)) B (by decide +kernel) rfl 43 (by decide) (by decide +kernel) rfl h_20 rfl dX12_remember_97 ?_
      refine z_iconst (v := 2) B dX12_remember_100 rfl ?_
      refine z_iload B dX12_remember_101 0 rfl ?_
      refine z_imul B dX12_remember_103 ?_
      refine z_top (st1 := [.int (nI (2 * n_5)), .ref (x + 24)]) (congrArg (fun w9 : Int32 => ([.int w9, .ref (x + 24)] : List Value)) (nI_mul 2 n_5)) ?_
      refine z_lconst (v := 0) B dX12_remember_104 rfl ?_
      obtain ⟨f_5, h_21⟩ := imk (k := 24) hI6
      have h_22 : Φ6 (x + 24) = some (al_ G 48 f_5) := h_21
      refine z_last B h_22 (Nat.le_trans hx (Nat.le_add_right x 24)) (vp_in_nI (by omega) (by omega)) dX12_remember_105 (fun Φ7 hΦ6 => ?_)
      have h_23 : Φ7 (x + 24) = some (al_ G 48 (vp_updL f_5 (nI (2 * n_5)).toNatClampNeg 0)) := fset_at hΦ6
      have hI7 : Im G x (rd, NN, fl, pe, le, nx, il, kn, ec) Φ7 := Im.put (k := 24) hI6 hΦ6 ⟨_, rfl⟩
      refine z_aload_n B dX12_remember_106 rfl 1 rfl ?_
      have h_24 : Φ7 x = some (o_ 14 [.int v_1, .ref (x + 1), .ref (x + 2), .int v_2, .int v_3, .int (nI n_1), .int v_4, .int v_5, .ref (x + 3), .ref (x + 4), .int v_6, .long v_7, .ref (x + 5), .int (nI fl), .int v_8, .long v_9, .long v_10, .long v_11, .long v_12, .ref (x + 6), .ref (x + 7), .int (nI pe), .ref (x + 8), .int (nI le), .ref (x + 9), .ref (x + 10), .int (nI n_2), .ref (x + 11), .ref (x + 12), .ref (x + 13), .ref (x + 14), .ref (x + 15), .ref (x + 16), .int (nI n_3), .long v_13, .ref (x + 17), .ref (x + 18), .ref (x + 19), .ref (x + 20), .ref (x + 21), .ref (x + 22), .int (nI n_4), .ref (x + 23), .ref (x + 24), .int (nI (n_5 + 1)), .ref (x + 25), .int (nI il), .int (nI nx), .int ec, .int v_14, .int kn, .int v_15, .int v_16, .long v_17]) := ((fset_fr hΦ6 (ne_off (x := x) (i := 0) (j := 24) rfl)).trans h_20)
      refine z_get (ref := "FlowExporterModel") (C := RX12) (T := TX12) (N := 54) (ci := 14) (v := .ref (x + 24)) B (by decide +kernel) rfl 43 (by decide) (by decide +kernel) rfl h_24 rfl dX12_remember_107 ?_
      refine z_iconst (v := 2) B dX12_remember_110 rfl ?_
      refine z_iload B dX12_remember_111 0 rfl ?_
      refine z_imul B dX12_remember_113 ?_
      refine z_top (st1 := [.int (nI (2 * n_5)), .ref (x + 24)]) (congrArg (fun w9 : Int32 => ([.int w9, .ref (x + 24)] : List Value)) (nI_mul 2 n_5)) ?_
      refine z_iconst (v := 1) B dX12_remember_114 rfl ?_
      refine z_iadd B dX12_remember_115 ?_
      refine z_top (st1 := [.int (nI (2 * n_5 + 1)), .ref (x + 24)]) (congrArg (fun w9 : Int32 => ([.int w9, .ref (x + 24)] : List Value)) (nI_add (2 * n_5) 1)) ?_
      refine z_lconst (v := 0) B dX12_remember_116 rfl ?_
      obtain ⟨f_6, h_25⟩ := imk (k := 24) hI7
      have h_26 : Φ7 (x + 24) = some (al_ G 48 f_6) := h_25
      refine z_last B h_26 (Nat.le_trans hx (Nat.le_add_right x 24)) (vp_in_nI (by omega) (by omega)) dX12_remember_117 (fun Φ8 hΦ7 => ?_)
      have h_27 : Φ8 (x + 24) = some (al_ G 48 (vp_updL f_6 (nI (2 * n_5 + 1)).toNatClampNeg 0)) := fset_at hΦ7
      have hI8 : Im G x (rd, NN, fl, pe, le, nx, il, kn, ec) Φ8 := Im.put (k := 24) hI7 hΦ7 ⟨_, rfl⟩
      refine z_aload_n B dX12_remember_118 rfl 1 rfl ?_
      have h_28 : Φ8 x = some (o_ 14 [.int v_1, .ref (x + 1), .ref (x + 2), .int v_2, .int v_3, .int (nI n_1), .int v_4, .int v_5, .ref (x + 3), .ref (x + 4), .int v_6, .long v_7, .ref (x + 5), .int (nI fl), .int v_8, .long v_9, .long v_10, .long v_11, .long v_12, .ref (x + 6), .ref (x + 7), .int (nI pe), .ref (x + 8), .int (nI le), .ref (x + 9), .ref (x + 10), .int (nI n_2), .ref (x + 11), .ref (x + 12), .ref (x + 13), .ref (x + 14), .ref (x + 15), .ref (x + 16), .int (nI n_3), .long v_13, .ref (x + 17), .ref (x + 18), .ref (x + 19), .ref (x + 20), .ref (x + 21), .ref (x + 22), .int (nI n_4), .ref (x + 23), .ref (x + 24), .int (nI (n_5 + 1)), .ref (x + 25), .int (nI il), .int (nI nx), .int ec, .int v_14, .int kn, .int v_15, .int v_16, .long v_17]) := ((fset_fr hΦ7 (ne_off (x := x) (i := 0) (j := 24) rfl)).trans h_24)
      refine z_get (ref := "FlowExporterModel") (C := RX12) (T := TX12) (N := 54) (ci := 14) (v := .ref (x + 24)) B (by decide +kernel) rfl 43 (by decide) (by decide +kernel) rfl h_28 rfl dX12_remember_119 ?_
      refine z_iconst (v := 2) B dX12_remember_122 rfl ?_
      refine z_iload B dX12_remember_123 0 rfl ?_
      refine z_imul B dX12_remember_125 ?_
      refine z_top (st1 := [.int (nI (2 * n_5)), .ref (x + 24)]) (congrArg (fun w9 : Int32 => ([.int w9, .ref (x + 24)] : List Value)) (nI_mul 2 n_5)) ?_
      refine z_dup2_11 B dX12_remember_126 rfl rfl ?_
      obtain ⟨f_7, h_29⟩ := imk (k := 24) hI8
      have h_30 : Φ8 (x + 24) = some (al_ G 48 f_7) := h_29
      refine z_lald B h_30 (vp_in_nI (by omega) (by omega)) dX12_remember_127 ?_
      refine z_fl (fun v_18 => ?_)
      refine z_lconst (v := 1) B dX12_remember_128 rfl ?_
      refine z_ladd B dX12_remember_129 ?_
      refine z_fl (fun v_19 => ?_)
      refine z_last B h_30 (Nat.le_trans hx (Nat.le_add_right x 24)) (vp_in_nI (by omega) (by omega)) dX12_remember_130 (fun Φ9 hΦ8 => ?_)
      have h_31 : Φ9 (x + 24) = some (al_ G 48 (vp_updL f_7 (nI (2 * n_5)).toNatClampNeg v_19)) := fset_at hΦ8
      have hI9 : Im G x (rd, NN, fl, pe, le, nx, il, kn, ec) Φ9 := Im.put (k := 24) hI8 hΦ8 ⟨_, rfl⟩
      refine z_aload_n B dX12_remember_131 rfl 1 rfl ?_
      have h_32 : Φ9 x = some (o_ 14 [.int v_1, .ref (x + 1), .ref (x + 2), .int v_2, .int v_3, .int (nI n_1), .int v_4, .int v_5, .ref (x + 3), .ref (x + 4), .int v_6, .long v_7, .ref (x + 5), .int (nI fl), .int v_8, .long v_9, .long v_10, .long v_11, .long v_12, .ref (x + 6), .ref (x + 7), .int (nI pe), .ref (x + 8), .int (nI le), .ref (x + 9), .ref (x + 10), .int (nI n_2), .ref (x + 11), .ref (x + 12), .ref (x + 13), .ref (x + 14), .ref (x + 15), .ref (x + 16), .int (nI n_3), .long v_13, .ref (x + 17), .ref (x + 18), .ref (x + 19), .ref (x + 20), .ref (x + 21), .ref (x + 22), .int (nI n_4), .ref (x + 23), .ref (x + 24), .int (nI (n_5 + 1)), .ref (x + 25), .int (nI il), .int (nI nx), .int ec, .int v_14, .int kn, .int v_15, .int v_16, .long v_17]) := ((fset_fr hΦ8 (ne_off (x := x) (i := 0) (j := 24) rfl)).trans h_28)
      refine z_get (ref := "FlowExporterModel") (C := RX12) (T := TX12) (N := 54) (ci := 14) (v := .ref (x + 24)) B (by decide +kernel) rfl 43 (by decide) (by decide +kernel) rfl h_32 rfl dX12_remember_132 ?_
      refine z_iconst (v := 2) B dX12_remember_135 rfl ?_
      refine z_iload B dX12_remember_136 0 rfl ?_
      refine z_imul B dX12_remember_138 ?_
      refine z_top (st1 := [.int (nI (2 * n_5)), .ref (x + 24)]) (congrArg (fun w9 : Int32 => ([.int w9, .ref (x + 24)] : List Value)) (nI_mul 2 n_5)) ?_
      refine z_iconst (v := 1) B dX12_remember_139 rfl ?_
      refine z_iadd B dX12_remember_140 ?_
      refine z_top (st1 := [.int (nI (2 * n_5 + 1)), .ref (x + 24)]) (congrArg (fun w9 : Int32 => ([.int w9, .ref (x + 24)] : List Value)) (nI_add (2 * n_5) 1)) ?_
      refine z_dup2_11 B dX12_remember_141 rfl rfl ?_
      obtain ⟨f_8, h_33⟩ := imk (k := 24) hI9
      have h_34 : Φ9 (x + 24) = some (al_ G 48 f_8) := h_33
      refine z_lald B h_34 (vp_in_nI (by omega) (by omega)) dX12_remember_142 ?_
      refine z_fl (fun v_20 => ?_)
      refine z_iload B dX12_remember_143 6 rfl ?_
      refine z_i2l (v := g.toInt64) B dX12_remember_145 rfl ?_
      refine z_ladd B dX12_remember_146 ?_
      refine z_fl (fun v_21 => ?_)
      refine z_last B h_34 (Nat.le_trans hx (Nat.le_add_right x 24)) (vp_in_nI (by omega) (by omega)) dX12_remember_147 (fun Φ10 hΦ9 => ?_)
      have h_35 : Φ10 (x + 24) = some (al_ G 48 (vp_updL f_8 (nI (2 * n_5 + 1)).toNatClampNeg v_21)) := fset_at hΦ9
      have hI10 : Im G x (rd, NN, fl, pe, le, nx, il, kn, ec) Φ10 := Im.put (k := 24) hI9 hΦ9 ⟨_, rfl⟩
      exact z_ret_v B dX12_remember_148 ⟨rfl, rfl, hI10, (fun b9 h9 => ((fset_fr hΦ9 (fun h8 => h9 (24) h8 (show 24 = 0 ∨ 24 = 23 ∨ 24 = 24 by omega))).trans ((fset_fr hΦ8 (fun h8 => h9 (24) h8 (show 24 = 0 ∨ 24 = 23 ∨ 24 = 24 by omega))).trans ((fset_fr hΦ7 (fun h8 => h9 (24) h8 (show 24 = 0 ∨ 24 = 23 ∨ 24 = 24 by omega))).trans ((fset_fr hΦ6 (fun h8 => h9 (24) h8 (show 24 = 0 ∨ 24 = 23 ∨ 24 = 24 by omega))).trans ((fset_fr hΦ5 (fun h8 => h9 (23) h8 (show 23 = 0 ∨ 23 = 23 ∨ 23 = 24 by omega))).trans ((fset_fr hΦ4 (fun h8 => h9 (23) h8 (show 23 = 0 ∨ 23 = 23 ∨ 23 = 24 by omega))).trans ((fset_fr hΦ3 (fun h8 => h9 (23) h8 (show 23 = 0 ∨ 23 = 23 ∨ 23 = 24 by omega))).trans ((fset_fr hΦ2 (fun h8 => h9 (23) h8 (show 23 = 0 ∨ 23 = 23 ∨ 23 = 24 by omega))).trans ((fset_fr hΦ1 (fun h8 => h9 (0) h8 (show 0 = 0 ∨ 0 = 23 ∨ 0 = 24 by omega))).trans ((hF1 b9 (fun j9 h8 h7 => (show False from h7).elim)).trans rfl)))))))))))⟩
    · have e_2 : n_5 = 24 := (nI_eq (a := n_5) (b := 24) (by omega) (by omega)).mp c_2
      exact z_ret_v B dX12_remember_26 ⟨rfl, rfl, hI1, (fun b9 h9 => ((hF1 b9 (fun j9 h8 h7 => (show False from h7).elim)).trans rfl))⟩
  · replace hs1 : st1 = [.int (nI n_6)] := hs1
    subst st1
    replace b_13 : n_6 < 24 := b_13
    refine z_istore (lv' := [(6, .int (nI n_6)), (0, .ref x), (1, .int a), (2, .int b), (3, .int d), (4, .int f), (5, .int g)]) B dX12_remember_9 (Nat.le_of_ble_eq_true rfl) rfl ?_
    refine z_iload B dX12_remember_11 0 rfl ?_
    refine z_iconst (v := (-1)) B dX12_remember_13 rfl ?_
    refine z_icmp_ne (tgt := 27) B dX12_remember_14 rfl (fun c_4 => ?_) (fun c_4 => ?_)
    · refine z_iload B dX12_remember_27 0 rfl ?_
      refine z_iconst (v := (-1)) B dX12_remember_29 rfl ?_
      refine z_icmp_ne (tgt := 118) B dX12_remember_30 rfl (fun c_5 => ?_) (fun c_5 => ?_)
      · refine z_aload_n B dX12_remember_118 rfl 1 rfl ?_
        have h_36 : Φ1 x = some (o_ 14 [.int v_1, .ref (x + 1), .ref (x + 2), .int v_2, .int v_3, .int (nI n_1), .int v_4, .int v_5, .ref (x + 3), .ref (x + 4), .int v_6, .long v_7, .ref (x + 5), .int (nI fl), .int v_8, .long v_9, .long v_10, .long v_11, .long v_12, .ref (x + 6), .ref (x + 7), .int (nI pe), .ref (x + 8), .int (nI le), .ref (x + 9), .ref (x + 10), .int (nI n_2), .ref (x + 11), .ref (x + 12), .ref (x + 13), .ref (x + 14), .ref (x + 15), .ref (x + 16), .int (nI n_3), .long v_13, .ref (x + 17), .ref (x + 18), .ref (x + 19), .ref (x + 20), .ref (x + 21), .ref (x + 22), .int (nI n_4), .ref (x + 23), .ref (x + 24), .int (nI n_5), .ref (x + 25), .int (nI il), .int (nI nx), .int ec, .int v_14, .int kn, .int v_15, .int v_16, .long v_17]) := ((hF1 x (fun j9 h8 h7 => (show False from h7).elim)).trans h_2)
        refine z_get (ref := "FlowExporterModel") (C := RX12) (T := TX12) (N := 54) (ci := 14) (v := .ref (x + 24)) B (by decide +kernel) rfl 43 (by decide) (by decide +kernel) rfl h_36 rfl dX12_remember_119 ?_
        refine z_iconst (v := 2) B dX12_remember_122 rfl ?_
        refine z_iload B dX12_remember_123 0 rfl ?_
        refine z_imul B dX12_remember_125 ?_
        refine z_top (st1 := [.int (nI (2 * n_6)), .ref (x + 24)]) (congrArg (fun w9 : Int32 => ([.int w9, .ref (x + 24)] : List Value)) (nI_mul 2 n_6)) ?_
        refine z_dup2_11 B dX12_remember_126 rfl rfl ?_
        obtain ⟨f_9, h_37⟩ := imk (k := 24) hI1
        have h_38 : Φ1 (x + 24) = some (al_ G 48 f_9) := h_37
        refine z_lald B h_38 (vp_in_nI (by omega) (by omega)) dX12_remember_127 ?_
        refine z_fl (fun v_22 => ?_)
        refine z_lconst (v := 1) B dX12_remember_128 rfl ?_
        refine z_ladd B dX12_remember_129 ?_
        refine z_fl (fun v_23 => ?_)
        refine z_last B h_38 (Nat.le_trans hx (Nat.le_add_right x 24)) (vp_in_nI (by omega) (by omega)) dX12_remember_130 (fun Φ11 hΦ10 => ?_)
        have h_39 : Φ11 (x + 24) = some (al_ G 48 (vp_updL f_9 (nI (2 * n_6)).toNatClampNeg v_23)) := fset_at hΦ10
        have hI11 : Im G x (rd, NN, fl, pe, le, nx, il, kn, ec) Φ11 := Im.put (k := 24) hI1 hΦ10 ⟨_, rfl⟩
        refine z_aload_n B dX12_remember_131 rfl 1 rfl ?_
        have h_40 : Φ11 x = some (o_ 14 [.int v_1, .ref (x + 1), .ref (x + 2), .int v_2, .int v_3, .int (nI n_1), .int v_4, .int v_5, .ref (x + 3), .ref (x + 4), .int v_6, .long v_7, .ref (x + 5), .int (nI fl), .int v_8, .long v_9, .long v_10, .long v_11, .long v_12, .ref (x + 6), .ref (x + 7), .int (nI pe), .ref (x + 8), .int (nI le), .ref (x + 9), .ref (x + 10), .int (nI n_2), .ref (x + 11), .ref (x + 12), .ref (x + 13), .ref (x + 14), .ref (x + 15), .ref (x + 16), .int (nI n_3), .long v_13, .ref (x + 17), .ref (x + 18), .ref (x + 19), .ref (x + 20), .ref (x + 21), .ref (x + 22), .int (nI n_4), .ref (x + 23), .ref (x + 24), .int (nI n_5), .ref (x + 25), .int (nI il), .int (nI nx), .int ec, .int v_14, .int kn, .int v_15, .int v_16, .long v_17]) := ((fset_fr hΦ10 (ne_off (x := x) (i := 0) (j := 24) rfl)).trans h_36)
        refine z_get (ref := "FlowExporterModel") (C := RX12) (T := TX12) (N := 54) (ci := 14) (v := .ref (x + 24)) B (by decide +kernel) rfl 43 (by decide) (by decide +kernel) rfl h_40 rfl dX12_remember_132 ?_
        refine z_iconst (v := 2) B dX12_remember_135 rfl ?_
        refine z_iload B dX12_remember_136 0 rfl ?_
        refine z_imul B dX12_remember_138 ?_
        refine z_top (st1 := [.int (nI (2 * n_6)), .ref (x + 24)]) (congrArg (fun w9 : Int32 => ([.int w9, .ref (x + 24)] : List Value)) (nI_mul 2 n_6)) ?_
        refine z_iconst (v := 1) B dX12_remember_139 rfl ?_
        refine z_iadd B dX12_remember_140 ?_
        refine z_top (st1 := [.int (nI (2 * n_6 + 1)), .ref (x + 24)]) (congrArg (fun w9 : Int32 => ([.int w9, .ref (x + 24)] : List Value)) (nI_add (2 * n_6) 1)) ?_
        refine z_dup2_11 B dX12_remember_141 rfl rfl ?_
        obtain ⟨f_10, h_41⟩ := imk (k := 24) hI11
        have h_42 : Φ11 (x + 24) = some (al_ G 48 f_10) := h_41
        refine z_lald B h_42 (vp_in_nI (by omega) (by omega)) dX12_remember_142 ?_
        refine z_fl (fun v_24 => ?_)
        refine z_iload B dX12_remember_143 6 rfl ?_
        refine z_i2l (v := g.toInt64) B dX12_remember_145 rfl ?_
        refine z_ladd B dX12_remember_146 ?_
        refine z_fl (fun v_25 => ?_)
        refine z_last B h_42 (Nat.le_trans hx (Nat.le_add_right x 24)) (vp_in_nI (by omega) (by omega)) dX12_remember_147 (fun Φ12 hΦ11 => ?_)
        have h_43 : Φ12 (x + 24) = some (al_ G 48 (vp_updL f_10 (nI (2 * n_6 + 1)).toNatClampNeg v_25)) := fset_at hΦ11
        have hI12 : Im G x (rd, NN, fl, pe, le, nx, il, kn, ec) Φ12 := Im.put (k := 24) hI11 hΦ11 ⟨_, rfl⟩
        exact z_ret_v B dX12_remember_148 ⟨rfl, rfl, hI12, (fun b9 h9 => ((fset_fr hΦ11 (fun h8 => h9 (24) h8 (show 24 = 0 ∨ 24 = 23 ∨ 24 = 24 by omega))).trans ((fset_fr hΦ10 (fun h8 => h9 (24) h8 (show 24 = 0 ∨ 24 = 23 ∨ 24 = 24 by omega))).trans ((hF1 b9 (fun j9 h8 h7 => (show False from h7).elim)).trans rfl))))⟩
      · refine z_aload_n B dX12_remember_33 rfl 1 rfl ?_
        have h_44 : Φ1 x = some (o_ 14 [.int v_1, .ref (x + 1), .ref (x + 2), .int v_2, .int v_3, .int (nI n_1), .int v_4, .int v_5, .ref (x + 3), .ref (x + 4), .int v_6, .long v_7, .ref (x + 5), .int (nI fl), .int v_8, .long v_9, .long v_10, .long v_11, .long v_12, .ref (x + 6), .ref (x + 7), .int (nI pe), .ref (x + 8), .int (nI le), .ref (x + 9), .ref (x + 10), .int (nI n_2), .ref (x + 11), .ref (x + 12), .ref (x + 13), .ref (x + 14), .ref (x + 15), .ref (x + 16), .int (nI n_3), .long v_13, .ref (x + 17), .ref (x + 18), .ref (x + 19), .ref (x + 20), .ref (x + 21), .ref (x + 22), .int (nI n_4), .ref (x + 23), .ref (x + 24), .int (nI n_5), .ref (x + 25), .int (nI il), .int (nI nx), .int ec, .int v_14, .int kn, .int v_15, .int v_16, .long v_17]) := ((hF1 x (fun j9 h8 h7 => (show False from h7).elim)).trans h_2)
        refine z_get (ref := "FlowExporterModel") (C := RX12) (T := TX12) (N := 54) (ci := 14) (v := .int (nI n_5)) B (by decide +kernel) rfl 44 (by decide) (by decide +kernel) rfl h_44 rfl dX12_remember_34 ?_
        refine z_istore (lv' := [(6, .int (nI n_5)), (0, .ref x), (1, .int a), (2, .int b), (3, .int d), (4, .int f), (5, .int g)]) B dX12_remember_37 (Nat.le_of_ble_eq_true rfl) rfl ?_
        refine z_aload_n B dX12_remember_39 rfl 1 rfl ?_
        refine z_dup B dX12_remember_40 rfl ?_
        refine z_get (ref := "FlowExporterModel") (C := RX12) (T := TX12) (N := 54) (ci := 14) (v := .int (nI n_5)) B (by decide +kernel) rfl 44 (by decide) (by decide +kernel) rfl h_44 rfl dX12_remember_41 ?_
        refine z_iconst (v := 1) B dX12_remember_44 rfl ?_
        refine z_iadd B dX12_remember_45 ?_
        refine z_top (st1 := [.int (nI (n_5 + 1)), .ref x]) (congrArg (fun w9 : Int32 => ([.int w9, .ref x] : List Value)) (nI_add n_5 1)) ?_
        refine z_put (ref := "FlowExporterModel") (C := RX12) (T := TX12) (N := 54) (ci := 14) (v := .int (nI (n_5 + 1))) B (by decide +kernel) tyX12 tyX12_ok nmX12 rfl 44 (by decide) (by decide +kernel) rfl (Or.inl rfl) h_44 hx rfl rfl (Nat.le_of_ble_eq_true rfl) dX12_remember_46 (fun Φ13 hΦ12 => ?_)
        have h_45 : Φ13 x = some (o_ 14 [.int v_1, .ref (x + 1), .ref (x + 2), .int v_2, .int v_3, .int (nI n_1), .int v_4, .int v_5, .ref (x + 3), .ref (x + 4), .int v_6, .long v_7, .ref (x + 5), .int (nI fl), .int v_8, .long v_9, .long v_10, .long v_11, .long v_12, .ref (x + 6), .ref (x + 7), .int (nI pe), .ref (x + 8), .int (nI le), .ref (x + 9), .ref (x + 10), .int (nI n_2), .ref (x + 11), .ref (x + 12), .ref (x + 13), .ref (x + 14), .ref (x + 15), .ref (x + 16), .int (nI n_3), .long v_13, .ref (x + 17), .ref (x + 18), .ref (x + 19), .ref (x + 20), .ref (x + 21), .ref (x + 22), .int (nI n_4), .ref (x + 23), .ref (x + 24), .int (nI (n_5 + 1)), .ref (x + 25), .int (nI il), .int (nI nx), .int ec, .int v_14, .int kn, .int v_15, .int v_16, .long v_17]) := fset_at hΦ12
        have hI13 : Im G x (rd, NN, fl, pe, le, nx, il, kn, ec) Φ13 := Im.put0 hI1 hΦ12 ⟨v_1, v_2, v_3, n_1, v_4, v_5, v_6, v_7, v_8, v_9, v_10, v_11, v_12, n_2, n_3, v_13, n_4, n_5 + 1, v_14, v_15, v_16, v_17, rfl, b_12, (show 1 ≤ n_1 by omega), (show n_1 ≤ 1024 by omega), (show fl ≤ 12 by omega), (show pe ≤ 24 by omega), (show le ≤ 700 by omega), (show n_2 ≤ 12 by omega), (show n_3 ≤ 8 by omega), (show n_4 ≤ 24 by omega), (show (n_5 + 1) ≤ 24 by omega), (show il ≤ 700 by omega), (show nx ≤ 701 by omega)⟩
        refine z_aload_n B dX12_remember_49 rfl 1 rfl ?_
        refine z_get (ref := "FlowExporterModel") (C := RX12) (T := TX12) (N := 54) (ci := 14) (v := .ref (x + 23)) B (by decide +kernel) rfl 42 (by decide) (by decide +kernel) rfl h_45 rfl dX12_remember_50 ?_
        refine z_iconst (v := 4) B dX12_remember_53 rfl ?_
        refine z_iload B dX12_remember_54 0 rfl ?_
        refine z_imul B dX12_remember_56 ?_
        refine z_top (st1 := [.int (nI (4 * n_5)), .ref (x + 23)]) (congrArg (fun w9 : Int32 => ([.int w9, .ref (x + 23)] : List Value)) (nI_mul 4 n_5)) ?_
        refine z_iload_n B dX12_remember_57 rfl 2 rfl ?_
        obtain ⟨f_11, h_46⟩ := imk (k := 23) hI13
        have h_47 : Φ13 (x + 23) = some (ai_ G 96 f_11) := h_46
        refine z_iast B h_47 (Nat.le_trans hx (Nat.le_add_right x 23)) (vp_in_nI (by omega) (by omega)) dX12_remember_58 (fun Φ14 hΦ13 => ?_)
        have h_48 : Φ14 (x + 23) = some (ai_ G 96 (upd f_11 (nI (4 * n_5)).toNatClampNeg a)) := fset_at hΦ13
        have hI14 : Im G x (rd, NN, fl, pe, le, nx, il, kn, ec) Φ14 := Im.put (k := 23) hI13 hΦ13 ⟨_, rfl⟩
        refine z_aload_n B dX12_remember_59 rfl 1 rfl ?_
        have h_49 : Φ14 x = some (o_ 14 [.int v_1, .ref (x + 1), .ref (x + 2), .int v_2, .int v_3, .int (nI n_1), .int v_4, .int v_5, .ref (x + 3), .ref (x + 4), .int v_6, .long v_7, .ref (x + 5), .int (nI fl), .int v_8, .long v_9, .long v_10, .long v_11, .long v_12, .ref (x + 6), .ref (x + 7), .int (nI pe), .ref (x + 8), .int (nI le), .ref (x + 9), .ref (x + 10), .int (nI n_2), .ref (x + 11), .ref (x + 12), .ref (x + 13), .ref (x + 14), .ref (x + 15), .ref (x + 16), .int (nI n_3), .long v_13, .ref (x + 17), .ref (x + 18), .ref (x + 19), .ref (x + 20), .ref (x + 21), .ref (x + 22), .int (nI n_4), .ref (x + 23), .ref (x + 24), .int (nI (n_5 + 1)), .ref (x + 25), .int (nI il), .int (nI nx), .int ec, .int v_14, .int kn, .int v_15, .int v_16, .long v_17]) := ((fset_fr hΦ13 (ne_off (x := x) (i := 0) (j := 23) rfl)).trans h_45)
        refine z_get (ref := "FlowExporterModel") (C := RX12) (T := TX12) (N := 54) (ci := 14) (v := .ref (x + 23)) B (by decide +kernel) rfl 42 (by decide) (by decide +kernel) rfl h_49 rfl dX12_remember_60 ?_
        refine z_iconst (v := 4) B dX12_remember_63 rfl ?_
        refine z_iload B dX12_remember_64 0 rfl ?_
        refine z_imul B dX12_remember_66 ?_
        refine z_top (st1 := [.int (nI (4 * n_5)), .ref (x + 23)]) (congrArg (fun w9 : Int32 => ([.int w9, .ref (x + 23)] : List Value)) (nI_mul 4 n_5)) ?_
        refine z_iconst (v := 1) B dX12_remember_67 rfl ?_
        refine z_iadd B dX12_remember_68 ?_
        refine z_top (st1 := [.int (nI (4 * n_5 + 1)), .ref (x + 23)]) (congrArg (fun w9 : Int32 => ([.int w9, .ref (x + 23)] : List Value)) (nI_add (4 * n_5) 1)) ?_
        refine z_iload_n B dX12_remember_69 rfl 3 rfl ?_
        obtain ⟨f_12, h_50⟩ := imk (k := 23) hI14
        have h_51 : Φ14 (x + 23) = some (ai_ G 96 f_12) := h_50
        refine z_iast B h_51 (Nat.le_trans hx (Nat.le_add_right x 23)) (vp_in_nI (by omega) (by omega)) dX12_remember_70 (fun Φ15 hΦ14 => ?_)
        have h_52 : Φ15 (x + 23) = some (ai_ G 96 (upd f_12 (nI (4 * n_5 + 1)).toNatClampNeg b)) := fset_at hΦ14
        have hI15 : Im G x (rd, NN, fl, pe, le, nx, il, kn, ec) Φ15 := Im.put (k := 23) hI14 hΦ14 ⟨_, rfl⟩
        refine z_aload_n B dX12_remember_71 rfl 1 rfl ?_
        have h_53 : Φ15 x = some (o_ 14 [.int v_1, .ref (x + 1), .ref (x + 2), .int v_2, .int v_3, .int (nI n_1), .int v_4, .int v_5, .ref (x + 3), .ref (x + 4), .int v_6, .long v_7, .ref (x + 5), .int (nI fl), .int v_8, .long v_9, .long v_10, .long v_11, .long v_12, .ref (x + 6), .ref (x + 7), .int (nI pe), .ref (x + 8), .int (nI le), .ref (x + 9), .ref (x + 10), .int (nI n_2), .ref (x + 11), .ref (x + 12), .ref (x + 13), .ref (x + 14), .ref (x + 15), .ref (x + 16), .int (nI n_3), .long v_13, .ref (x + 17), .ref (x + 18), .ref (x + 19), .ref (x + 20), .ref (x + 21), .ref (x + 22), .int (nI n_4), .ref (x + 23), .ref (x + 24), .int (nI (n_5 + 1)), .ref (x + 25), .int (nI il), .int (nI nx), .int ec, .int v_14, .int kn, .int v_15, .int v_16, .long v_17]) := ((fset_fr hΦ14 (ne_off (x := x) (i := 0) (j := 23) rfl)).trans h_49)
        refine z_get (ref := "FlowExporterModel") (C := RX12) (T := TX12) (N := 54) (ci := 14) (v := .ref (x + 23)) B (by decide +kernel) rfl 42 (by decide) (by decide +kernel) rfl h_53 rfl dX12_remember_72 ?_
        refine z_iconst (v := 4) B dX12_remember_75 rfl ?_
        refine z_iload B dX12_remember_76 0 rfl ?_
        refine z_imul B dX12_remember_78 ?_
        refine z_top (st1 := [.int (nI (4 * n_5)), .ref (x + 23)]) (congrArg (fun w9 : Int32 => ([.int w9, .ref (x + 23)] : List Value)) (nI_mul 4 n_5)) ?_
        refine z_iconst (v := 2) B dX12_remember_79 rfl ?_
        refine z_iadd B dX12_remember_80 ?_
        refine z_top (st1 := [.int (nI (4 * n_5 + 2)), .ref (x + 23)]) (congrArg (fun w9 : Int32 => ([.int w9, .ref (x + 23)] : List Value)) (nI_add (4 * n_5) 2)) ?_
        refine z_iload_n B dX12_remember_81 rfl 4 rfl ?_
        obtain ⟨f_13, h_54⟩ := imk (k := 23) hI15
        have h_55 : Φ15 (x + 23) = some (ai_ G 96 f_13) := h_54
        refine z_iast B h_55 (Nat.le_trans hx (Nat.le_add_right x 23)) (vp_in_nI (by omega) (by omega)) dX12_remember_82 (fun Φ16 hΦ15 => ?_)
        have h_56 : Φ16 (x + 23) = some (ai_ G 96 (upd f_13 (nI (4 * n_5 + 2)).toNatClampNeg d)) := fset_at hΦ15
        have hI16 : Im G x (rd, NN, fl, pe, le, nx, il, kn, ec) Φ16 := Im.put (k := 23) hI15 hΦ15 ⟨_, rfl⟩
        refine z_aload_n B dX12_remember_83 rfl 1 rfl ?_
        have h_57 : Φ16 x = some (o_ 14 [.int v_1, .ref (x + 1), .ref (x + 2), .int v_2, .int v_3, .int (nI n_1), .int v_4, .int v_5, .ref (x + 3), .ref (x + 4), .int v_6, .long v_7, .ref (x + 5), .int (nI fl), .int v_8, .long v_9, .long v_10, .long v_11, .long v_12, .ref (x + 6), .ref (x + 7), .int (nI pe), .ref (x + 8), .int (nI le), .ref (x + 9), .ref (x + 10), .int (nI n_2), .ref (x + 11), .ref (x + 12), .ref (x + 13), .ref (x + 14), .ref (x + 15), .ref (x + 16), .int (nI n_3), .long v_13, .ref (x + 17), .ref (x + 18), .ref (x + 19), .ref (x + 20), .ref (x + 21), .ref (x + 22), .int (nI n_4), .ref (x + 23), .ref (x + 24), .int (nI (n_5 + 1)), .ref (x + 25), .int (nI il), .int (nI nx), .int ec, .int v_14, .int kn, .int v_15, .int v_16, .long v_17]) := ((fset_fr hΦ15 (ne_off (x := x) (i := 0) (j := 23) rfl)).trans h_53)
        refine z_get (ref := "FlowExporterModel") (C := RX12) (T := TX12) (N := 54) (ci := 14) (v := .ref (x + 23)) B (by decide +kernel) rfl 42 (by decide) (by decide +kernel) rfl h_57 rfl dX12_remember_84 ?_
        refine z_iconst (v := 4) B dX12_remember_87 rfl ?_
        refine z_iload B dX12_remember_88 0 rfl ?_
        refine z_imul B dX12_remember_90 ?_
        refine z_top (st1 := [.int (nI (4 * n_5)), .ref (x + 23)]) (congrArg (fun w9 : Int32 => ([.int w9, .ref (x + 23)] : List Value)) (nI_mul 4 n_5)) ?_
        refine z_iconst (v := 3) B dX12_remember_91 rfl ?_
        refine z_iadd B dX12_remember_92 ?_
        refine z_top (st1 := [.int (nI (4 * n_5 + 3)), .ref (x + 23)]) (congrArg (fun w9 : Int32 => ([.int w9, .ref (x + 23)] : List Value)) (nI_add (4 * n_5) 3)) ?_
        refine z_iload B dX12_remember_93 5 rfl ?_
        obtain ⟨f_14, h_58⟩ := imk (k := 23) hI16
        have h_59 : Φ16 (x + 23) = some (ai_ G 96 f_14) := h_58
        refine z_iast B h_59 (Nat.le_trans hx (Nat.le_add_right x 23)) (vp_in_nI (by omega) (by omega)) dX12_remember_95 (fun Φ17 hΦ16 => ?_)
        have h_60 : Φ17 (x + 23) = some (ai_ G 96 (upd f_14 (nI (4 * n_5 + 3)).toNatClampNeg f)) := fset_at hΦ16
        have hI17 : Im G x (rd, NN, fl, pe, le, nx, il, kn, ec) Φ17 := Im.put (k := 23) hI16 hΦ16 ⟨_, rfl⟩
        refine z_aload_n B dX12_remember_96 rfl 1 rfl ?_
        have h_61 : Φ17 x = some (o_ 14 [.int v_1, .ref (x + 1), .ref (x + 2), .int v_2, .int v_3, .int (nI n_1), .int v_4, .int v_5, .ref (x + 3), .ref (x + 4), .int v_6, .long v_7, .ref (x + 5), .int (nI fl), .int v_8, .long v_9, .long v_10, .long v_11, .long v_12, .ref (x + 6), .ref (x + 7), .int (nI pe), .ref (x + 8), .int (nI le), .ref (x + 9), .ref (x + 10), .int (nI n_2), .ref (x + 11), .ref (x + 12), .ref (x + 13), .ref (x + 14), .ref (x + 15), .ref (x + 16), .int (nI n_3), .long v_13, .ref (x + 17), .ref (x + 18), .ref (x + 19), .ref (x + 20), .ref (x + 21), .ref (x + 22), .int (nI n_4), .ref (x + 23), .ref (x + 24), .int (nI (n_5 + 1)), .ref (x + 25), .int (nI il), .int (nI nx), .int ec, .int v_14, .int kn, .int v_15, .int v_16, .long v_17]) := ((fset_fr hΦ16 (ne_off (x := x) (i := 0) (j := 23) rfl)).trans h_57)
        refine z_get (ref := "FlowExporterModel") (C := RX12) (T := TX12) (N := 54) (ci := 14) (v := .ref (x + 24)) B (by decide +kernel) rfl 43 (by decide) (by decide +kernel) rfl h_61 rfl dX12_remember_97 ?_
        refine z_iconst (v := 2) B dX12_remember_100 rfl ?_
        refine z_iload B dX12_remember_101 0 rfl ?_
        refine z_imul B dX12_remember_103 ?_
        refine z_top (st1 := [.int (nI (2 * n_5)), .ref (x + 24)]) (congrArg (fun w9 : Int32 => ([.int w9, .ref (x + 24)] : List Value)) (nI_mul 2 n_5)) ?_
        refine z_lconst (v := 0) B dX12_remember_104 rfl ?_
        obtain ⟨f_15, h_62⟩ := imk (k := 24) hI17
        have h_63 : Φ17 (x + 24) = some (al_ G 48 f_15) := h_62
        refine z_last B h_63 (Nat.le_trans hx (Nat.le_add_right x 24)) (vp_in_nI (by omega) (by omega)) dX12_remember_105 (fun Φ18 hΦ17 => ?_)
        have h_64 : Φ18 (x + 24) = some (al_ G 48 (vp_updL f_15 (nI (2 * n_5)).toNatClampNeg 0)) := fset_at hΦ17
        have hI18 : Im G x (rd, NN, fl, pe, le, nx, il, kn, ec) Φ18 := Im.put (k := 24) hI17 hΦ17 ⟨_, rfl⟩
        refine z_aload_n B dX12_remember_106 rfl 1 rfl ?_
        have h_65 : Φ18 x = some (o_ 14 [.int v_1, .ref (x + 1), .ref (x + 2), .int v_2, .int v_3, .int (nI n_1), .int v_4, .int v_5, .ref (x + 3), .ref (x + 4), .int v_6, .long v_7, .ref (x + 5), .int (nI fl), .int v_8, .long v_9, .long v_10, .long v_11, .long v_12, .ref (x + 6), .ref (x + 7), .int (nI pe), .ref (x + 8), .int (nI le), .ref (x + 9), .ref (x + 10), .int (nI n_2), .ref (x + 11), .ref (x + 12), .ref (x + 13), .ref (x + 14), .ref (x + 15), .ref (x + 16), .int (nI n_3), .long v_13, .ref (x + 17), .ref (x + 18), .ref (x + 19), .ref (x + 20), .ref (x + 21), .ref (x + 22), .int (nI n_4), .ref (x + 23), .ref (x + 24), .int (nI (n_5 + 1)), .ref (x + 25), .int (nI il), .int (nI nx), .int ec, .int v_14, .int kn, .int v_15, .int v_16, .long v_17]) := ((fset_fr hΦ17 (ne_off (x := x) (i := 0) (j := 24) rfl)).trans h_61)
        refine z_get (ref := "FlowExporterModel") (C := RX12) (T := TX12) (N := 54) (ci := 14) (v := .ref (x + 24)) B (by decide +kernel) rfl 43 (by decide) (by decide +kernel) rfl h_65 rfl dX12_remember_107 ?_
        refine z_iconst (v := 2) B dX12_remember_110 rfl ?_
        refine z_iload B dX12_remember_111 0 rfl ?_
        refine z_imul B dX12_remember_113 ?_
        refine z_top (st1 := [.int (nI (2 * n_5)), .ref (x + 24)]) (congrArg (fun w9 : Int32 => ([.int w9, .ref (x + 24)] : List Value)) (nI_mul 2 n_5)) ?_
        refine z_iconst (v := 1) B dX12_remember_114 rfl ?_
        refine z_iadd B dX12_remember_115 ?_
        refine z_top (st1 := [.int (nI (2 * n_5 + 1)), .ref (x + 24)]) (congrArg (fun w9 : Int32 => ([.int w9, .ref (x + 24)] : List Value)) (nI_add (2 * n_5) 1)) ?_
        refine z_lconst (v := 0) B dX12_remember_116 rfl ?_
        obtain ⟨f_16, h_66⟩ := imk (k := 24) hI18
        have h_67 : Φ18 (x + 24) = some (al_ G 48 f_16) := h_66
        refine z_last B h_67 (Nat.le_trans hx (Nat.le_add_right x 24)) (vp_in_nI (by omega) (by omega)) dX12_remember_117 (fun Φ19 hΦ18 => ?_)
        have h_68 : Φ19 (x + 24) = some (al_ G 48 (vp_updL f_16 (nI (2 * n_5 + 1)).toNatClampNeg 0)) := fset_at hΦ18
        have hI19 : Im G x (rd, NN, fl, pe, le, nx, il, kn, ec) Φ19 := Im.put (k := 24) hI18 hΦ18 ⟨_, rfl⟩
        refine z_aload_n B dX12_remember_118 rfl 1 rfl ?_
        have h_69 : Φ19 x = some (o_ 14 [.int v_1, .ref (x + 1), .ref (x + 2), .int v_2, .int v_3, .int (nI n_1), .int v_4, .int v_5, .ref (x + 3), .ref (x + 4), .int v_6, .long v_7, .ref (x + 5), .int (nI fl), .int v_8, .long v_9, .long v_10, .long v_11, .long v_12, .ref (x + 6), .ref (x + 7), .int (nI pe), .ref (x + 8), .int (nI le), .ref (x + 9), .ref (x + 10), .int (nI n_2), .ref (x + 11), .ref (x + 12), .ref (x + 13), .ref (x + 14), .ref (x + 15), .ref (x + 16), .int (nI n_3), .long v_13, .ref (x + 17), .ref (x + 18), .ref (x + 19), .ref (x + 20), .ref (x + 21), .ref (x + 22), .int (nI n_4), .ref (x + 23), .ref (x + 24), .int (nI (n_5 + 1)), .ref (x + 25), .int (nI il), .int (nI nx), .int ec, .int v_14, .int kn, .int v_15, .int v_16, .long v_17]) := ((fset_fr hΦ18 (ne_off (x := x) (i := 0) (j := 24) rfl)).trans h_65)
        refine z_get (ref := "FlowExporterModel") (C := RX12) (T := TX12) (N := 54) (ci := 14) (v := .ref (x + 24)) B (by decide +kernel) rfl 43 (by decide) (by decide +kernel) rfl h_69 rfl dX12_remember_119 ?_
        refine z_iconst (v := 2) B dX12_remember_122 rfl ?_
        refine z_iload B dX12_remember_123 0 rfl ?_
        refine z_imul B dX12_remember_125 ?_
        refine z_top (st1 := [.int (nI (2 * n_5)), .ref (x + 24)]) (congrArg (fun w9 : Int32 => ([.int w9, .ref (x + 24)] : List Value)) (nI_mul 2 n_5)) ?_
        refine z_dup2_11 B dX12_remember_126 rfl rfl ?_
        obtain ⟨f_17, h_70⟩ := imk (k := 24) hI19
        have h_71 : Φ19 (x + 24) = some (al_ G 48 f_17) := h_70
        refine z_lald B h_71 (vp_in_nI (by omega) (by omega)) dX12_remember_127 ?_
        refine z_fl (fun v_26 => ?_)
        refine z_lconst (v := 1) B dX12_remember_128 rfl ?_
        refine z_ladd B dX12_remember_129 ?_
        refine z_fl (fun v_27 => ?_)
        refine z_last B h_71 (Nat.le_trans hx (Nat.le_add_right x 24)) (vp_in_nI (by omega) (by omega)) dX12_remember_130 (fun Φ20 hΦ19 => ?_)
        have h_72 : Φ20 (x + 24) = some (al_ G 48 (vp_updL f_17 (nI (2 * n_5)).toNatClampNeg v_27)) := fset_at hΦ19
        have hI20 : Im G x (rd, NN, fl, pe, le, nx, il, kn, ec) Φ20 := Im.put (k := 24) hI19 hΦ19 ⟨_, rfl⟩
        refine z_aload_n B dX12_remember_131 rfl 1 rfl ?_
        have h_73 : Φ20 x = some (o_ 14 [.int v_1, .ref (x + 1), .ref (x + 2), .int v_2, .int v_3, .int (nI n_1), .int v_4, .int v_5, .ref (x + 3), .ref (x + 4), .int v_6, .long v_7, .ref (x + 5), .int (nI fl), .int v_8, .long v_9, .long v_10, .long v_11, .long v_12, .ref (x + 6), .ref (x + 7), .int (nI pe), .ref (x + 8), .int (nI le), .ref (x + 9), .ref (x + 10), .int (nI n_2), .ref (x + 11), .ref (x + 12), .ref (x + 13), .ref (x + 14), .ref (x + 15), .ref (x + 16), .int (nI n_3), .long v_13, .ref (x + 17), .ref (x + 18), .ref (x + 19), .ref (x + 20), .ref (x + 21), .ref (x + 22), .int (nI n_4), .ref (x + 23), .ref (x + 24), .int (nI (n_5 + 1)), .ref (x + 25), .int (nI il), .int (nI nx), .int ec, .int v_14, .int kn, .int v_15, .int v_16, .long v_17]) := ((fset_fr hΦ19 (ne_off (x := x) (i := 0) (j := 24) rfl)).trans h_69)
        refine z_get (ref := "FlowExporterModel") (C := RX12) (T := TX12) (N := 54) (ci := 14) (v := .ref (x + 24)) B (by decide +kernel) rfl 43 (by decide) (by decide +kernel) rfl h_73 rfl dX12_remember_132 ?_
        refine z_iconst (v := 2) B dX12_remember_135 rfl ?_
        refine z_iload B dX12_remember_136 0 rfl ?_
        refine z_imul B dX12_remember_138 ?_
        refine z_top (st1 := [.int (nI (2 * n_5)), .ref (x + 24)]) (congrArg (fun w9 : Int32 => ([.int w9, .ref (x + 24)] : List Value)) (nI_mul 2 n_5)) ?_
        refine z_iconst (v := 1) B dX12_remember_139 rfl ?_
        refine z_iadd B dX12_remember_140 ?_
        refine z_top (st1 := [.int (nI (2 * n_5 + 1)), .ref (x + 24)]) (congrArg (fun w9 : Int32 => ([.int w9, .ref (x + 24)] : List Value)) (nI_add (2 * n_5) 1)) ?_
        refine z_dup2_11 B dX12_remember_141 rfl rfl ?_
        obtain ⟨f_18, h_74⟩ := imk (k := 24) hI20
        have h_75 : Φ20 (x + 24) = some (al_ G 48 f_18) := h_74
        refine z_lald B h_75 (vp_in_nI (by omega) (by omega)) dX12_remember_142 ?_
        refine z_fl (fun v_28 => ?_)
        refine z_iload B dX12_remember_143 6 rfl ?_
        refine z_i2l (v := g.toInt64) B dX12_remember_145 rfl ?_
        refine z_ladd B dX12_remember_146 ?_
        refine z_fl (fun v_29 => ?_)
        refine z_last B h_75 (Nat.le_trans hx (Nat.le_add_right x 24)) (vp_in_nI (by omega) (by omega)) dX12_remember_147 (fun Φ21 hΦ20 => ?_)
        have h_76 : Φ21 (x + 24) = some (al_ G 48 (vp_updL f_18 (nI (2 * n_5 + 1)).toNatClampNeg v_29)) := fset_at hΦ20
        have hI21 : Im G x (rd, NN, fl, pe, le, nx, il, kn, ec) Φ21 := Im.put (k := 24) hI20 hΦ20 ⟨_, rfl⟩
        exact z_ret_v B dX12_remember_148 ⟨rfl, rfl, hI21, (fun b9 h9 => ((fset_fr hΦ20 (fun h8 => h9 (24) h8 (show 24 = 0 ∨ 24 = 23 ∨ 24 = 24 by omega))).trans ((fset_fr hΦ19 (fun h8 => h9 (24) h8 (show 24 = 0 ∨ 24 = 23 ∨ 24 = 24 by omega))).trans ((fset_fr hΦ18 (fun h8 => h9 (24) h8 (show 24 = 0 ∨ 24 = 23 ∨ 24 = 24 by omega))).trans ((fset_fr hΦ17 (fun h8 => h9 (24) h8 (show 24 = 0 ∨ 24 = 23 ∨ 24 = 24 by omega))).trans ((fset_fr hΦ16 (fun h8 => h9 (23) h8 (show 23 = 0 ∨ 23 = 23 ∨ 23 = 24 by omega))).trans ((fset_fr hΦ15 (fun h8 => h9 (23) h8 (show 23 = 0 ∨ 23 = 23 ∨ 23 = 24 by omega))).trans ((fset_fr hΦ14 (fun h8 => h9 (23) h8 (show 23 = 0 ∨ 23 = 23 ∨ 23 = 24 by omega))).trans ((fset_fr hΦ13 (fun h8 => h9 (23) h8 (show 23 = 0 ∨ 23 = 23 ∨ 23 = 24 by omega))).trans ((fset_fr hΦ12 (fun h8 => h9 (0) h8 (show 0 = 0 ∨ 0 = 23 ∨ 0 = 24 by omega))).trans ((hF1 b9 (fun j9 h8 h7 => (show False from h7).elim)).trans rfl)))))))))))⟩
    · refine z_aload_n B dX12_remember_17 rfl 1 rfl ?_
      have h_77 : Φ1 x = some (o_ 14 [.int v_1, .ref (x + 1), .ref (x + 2), .int v_2, .int v_3, .int (nI n_1), .int v_4, .int v_5, .ref (x + 3), .ref (x + 4), .int v_6, .long v_7, .ref (x + 5), .int (nI fl), .int v_8, .long v_9, .long v_10, .long v_11, .long v_12, .ref (x + 6), .ref (x + 7), .int (nI pe), .ref (x + 8), .int (nI le), .ref (x + 9), .ref (x + 10), .int (nI n_2), .ref (x + 11), .ref (x + 12), .ref (x + 13), .ref (x + 14), .ref (x + 15), .ref (x + 16), .int (nI n_3), .long v_13, .ref (x + 17), .ref (x + 18), .ref (x + 19), .ref (x + 20), .ref (x + 21), .ref (x + 22), .int (nI n_4), .ref (x + 23), .ref (x + 24), .int (nI n_5), .ref (x + 25), .int (nI il), .int (nI nx), .int ec, .int v_14, .int kn, .int v_15, .int v_16, .long v_17]) := ((hF1 x (fun j9 h8 h7 => (show False from h7).elim)).trans h_2)
      refine z_get (ref := "FlowExporterModel") (C := RX12) (T := TX12) (N := 54) (ci := 14) (v := .int (nI n_5)) B (by decide +kernel) rfl 44 (by decide) (by decide +kernel) rfl h_77 rfl dX12_remember_18 ?_
      refine z_bipush (v := 24) B dX12_remember_21 rfl ?_
      refine z_icmp_ne (tgt := 27) B dX12_remember_23 rfl (fun c_6 => ?_) (fun c_6 => ?_)
      · have e_3 : ¬ (n_5 = 24) := fun h9 => c_6 ((nI_eq (a := n_5) (b := 24) (by omega) (by omega)).mpr h9)
        refine z_iload B dX12_remember_27 0 rfl ?_
        refine z_iconst (v := (-1)) B dX12_remember_29 rfl ?_
        refine z_icmp_ne (tgt := 118) B dX12_remember_30 rfl (fun c_7 => ?_) (fun c_7 => ?_)
        · refine z_aload_n B dX12_remember_118 rfl 1 rfl ?_
          refine z_get (ref := "FlowExporterModel") (C := RX12) (T := TX12) (N := 54) (ci := 14) (v := .ref (x + 24)) B (by decide +kernel) rfl 43 (by decide) (by decide +kernel) rfl h_77 rfl dX12_remember_119 ?_
          refine z_iconst (v := 2) B dX12_remember_122 rfl ?_
          refine z_iload B dX12_remember_123 0 rfl ?_
          refine z_imul B dX12_remember_125 ?_
          refine z_top (st1 := [.int (nI (2 * n_6)), .ref (x + 24)]) (congrArg (fun w9 : Int32 => ([.int w9, .ref (x + 24)] : List Value)) (nI_mul 2 n_6)) ?_
          refine z_dup2_11 B dX12_remember_126 rfl rfl ?_
          obtain ⟨f_19, h_78⟩ := imk (k := 24) hI1
          have h_79 : Φ1 (x + 24) = some (al_ G 48 f_19) := h_78
          refine z_lald B h_79 (vp_in_nI (by omega) (by omega)) dX12_remember_127 ?_
          refine z_fl (fun v_30 => ?_)
          refine z_lconst (v := 1) B dX12_remember_128 rfl ?_
          refine z_ladd B dX12_remember_129 ?_
          refine z_fl (fun v_31 => ?_)
          refine z_last B h_79 (Nat.le_trans hx (Nat.le_add_right x 24)) (vp_in_nI (by omega) (by omega)) dX12_remember_130 (fun Φ22 hΦ21 => ?_)
          have h_80 : Φ22 (x + 24) = some (al_ G 48 (vp_updL f_19 (nI (2 * n_6)).toNatClampNeg v_31)) := fset_at hΦ21
          have hI22 : Im G x (rd, NN, fl, pe, le, nx, il, kn, ec) Φ22 := Im.put (k := 24) hI1 hΦ21 ⟨_, rfl⟩
          refine z_aload_n B dX12_remember_131 rfl 1 rfl ?_
          have h_81 : Φ22 x = some (o_ 14 [.int v_1, .ref (x + 1), .ref (x + 2), .int v_2, .int v_3, .int (nI n_1), .int v_4, .int v_5, .ref (x + 3), .ref (x + 4), .int v_6, .long v_7, .ref (x + 5), .int (nI fl), .int v_8, .long v_9, .long v_10, .long v_11, .long v_12, .ref (x + 6), .ref (x + 7), .int (nI pe), .ref (x + 8), .int (nI le), .ref (x + 9), .ref (x + 10), .int (nI n_2), .ref (x + 11), .ref (x + 12), .ref (x + 13), .ref (x + 14), .ref (x + 15), .ref (x + 16), .int (nI n_3), .long v_13, .ref (x + 17), .ref (x + 18), .ref (x + 19), .ref (x + 20), .ref (x + 21), .ref (x + 22), .int (nI n_4), .ref (x + 23), .ref (x + 24), .int (nI n_5), .ref (x + 25), .int (nI il), .int (nI nx), .int ec, .int v_14, .int kn, .int v_15, .int v_16, .long v_17]) := ((fset_fr hΦ21 (ne_off (x := x) (i := 0) (j := 24) rfl)).trans h_77)
          refine z_get (ref := "FlowExporterModel") (C := RX12) (T := TX12) (N := 54) (ci := 14) (v := .ref (x + 24)) B (by decide +kernel) rfl 43 (by decide) (by decide +kernel) rfl h_81 rfl dX12_remember_132 ?_
          refine z_iconst (v := 2) B dX12_remember_135 rfl ?_
          refine z_iload B dX12_remember_136 0 rfl ?_
          refine z_imul B dX12_remember_138 ?_
          refine z_top (st1 := [.int (nI (2 * n_6)), .ref (x + 24)]) (congrArg (fun w9 : Int32 => ([.int w9, .ref (x + 24)] : List Value)) (nI_mul 2 n_6)) ?_
          refine z_iconst (v := 1) B dX12_remember_139 rfl ?_
          refine z_iadd B dX12_remember_140 ?_
          refine z_top (st1 := [.int (nI (2 * n_6 + 1)), .ref (x + 24)]) (congrArg (fun w9 : Int32 => ([.int w9, .ref (x + 24)] : List Value)) (nI_add (2 * n_6) 1)) ?_
          refine z_dup2_11 B dX12_remember_141 rfl rfl ?_
          obtain ⟨f_20, h_82⟩ := imk (k := 24) hI22
          have h_83 : Φ22 (x + 24) = some (al_ G 48 f_20) := h_82
          refine z_lald B h_83 (vp_in_nI (by omega) (by omega)) dX12_remember_142 ?_
          refine z_fl (fun v_32 => ?_)
          refine z_iload B dX12_remember_143 6 rfl ?_
          refine z_i2l (v := g.toInt64) B dX12_remember_145 rfl ?_
          refine z_ladd B dX12_remember_146 ?_
          refine z_fl (fun v_33 => ?_)
          refine z_last B h_83 (Nat.le_trans hx (Nat.le_add_right x 24)) (vp_in_nI (by omega) (by omega)) dX12_remember_147 (fun Φ23 hΦ22 => ?_)
          have h_84 : Φ23 (x + 24) = some (al_ G 48 (vp_updL f_20 (nI (2 * n_6 + 1)).toNatClampNeg v_33)) := fset_at hΦ22
          have hI23 : Im G x (rd, NN, fl, pe, le, nx, il, kn, ec) Φ23 := Im.put (k := 24) hI22 hΦ22 ⟨_, rfl⟩
          exact z_ret_v B dX12_remember_148 ⟨rfl, rfl, hI23, (fun b9 h9 => ((fset_fr hΦ22 (fun h8 => h9 (24) h8 (show 24 = 0 ∨ 24 = 23 ∨ 24 = 24 by omega))).trans ((fset_fr hΦ21 (fun h8 => h9 (24) h8 (show 24 = 0 ∨ 24 = 23 ∨ 24 = 24 by omega))).trans ((hF1 b9 (fun j9 h8 h7 => (show False from h7).elim)).trans rfl))))⟩
        · refine z_aload_n B dX12_remember_33 rfl 1 rfl ?_
          refine z_get (ref := "FlowExporterModel") (C := RX12) (T := TX12) (N := 54) (ci := 14) (v := .int (nI n_5)) B (by decide +kernel) rfl 44 (by decide) (by decide +kernel) rfl h_77 rfl dX12_remember_34 ?_
          refine z_istore (lv' := [(6, .int (nI n_5)), (0, .ref x), (1, .int a), (2, .int b), (3, .int d), (4, .int f), (5, .int g)]) B dX12_remember_37 (Nat.le_of_ble_eq_true rfl) rfl ?_
          refine z_aload_n B dX12_remember_39 rfl 1 rfl ?_
          refine z_dup B dX12_remember_40 rfl ?_
          refine z_get (ref := "FlowExporterModel") (C := RX12) (T := TX12) (N := 54) (ci := 14) (v := .int (nI n_5)) B (by decide +kernel) rfl 44 (by decide) (by decide +kernel) rfl h_77 rfl dX12_remember_41 ?_
          refine z_iconst (v := 1) B dX12_remember_44 rfl ?_
          refine z_iadd B dX12_remember_45 ?_
          refine z_top (st1 := [.int (nI (n_5 + 1)), .ref x]) (congrArg (fun w9 : Int32 => ([.int w9, .ref x] : List Value)) (nI_add n_5 1)) ?_
          refine z_put (ref := "FlowExporterModel") (C := RX12) (T := TX12) (N := 54) (ci := 14) (v := .int (nI (n_5 + 1))) B (by decide +kernel) tyX12 tyX12_ok nmX12 rfl 44 (by decide) (by decide +kernel) rfl (Or.inl rfl) h_77 hx rfl rfl (Nat.le_of_ble_eq_true rfl) dX12_remember_46 (fun Φ24 hΦ23 => ?_)
          have h_85 : Φ24 x = some (o_ 14 [.int v_1, .ref (x + 1), .ref (x + 2), .int v_2, .int v_3, .int (nI n_1), .int v_4, .int v_5, .ref (x + 3), .ref (x + 4), .int v_6, .long v_7, .ref (x + 5), .int (nI fl), .int v_8, .long v_9, .long v_10, .long v_11, .long v_12, .ref (x + 6), .ref (x + 7), .int (nI pe), .ref (x + 8), .int (nI le), .ref (x + 9), .ref (x + 10), .int (nI n_2), .ref (x + 11), .ref (x + 12), .ref (x + 13), .ref (x + 14), .ref (x + 15), .ref (x + 16), .int (nI n_3), .long v_13, .ref (x + 17), .ref (x + 18), .ref (x + 19), .ref (x + 20), .ref (x + 21), .ref (x + 22), .int (nI n_4), .ref (x + 23), .ref (x + 24), .int (nI (n_5 + 1)), .ref (x + 25), .int (nI il), .int (nI nx), .int ec, .int v_14, .int kn, .int v_15, .int v_16, .long v_17]) := fset_at hΦ23
          have hI24 : Im G x (rd, NN, fl, pe, le, nx, il, kn, ec) Φ24 := Im.put0 hI1 hΦ23 ⟨v_1, v_2, v_3, n_1, v_4, v_5, v_6, v_7, v_8, v_9, v_10, v_11, v_12, n_2, n_3, v_13, n_4, n_5 + 1, v_14, v_15, v_16, v_17, rfl, b_12, (show 1 ≤ n_1 by omega), (show n_1 ≤ 1024 by omega), (show fl ≤ 12 by omega), (show pe ≤ 24 by omega), (show le ≤ 700 by omega), (show n_2 ≤ 12 by omega), (show n_3 ≤ 8 by omega), (show n_4 ≤ 24 by omega), (show (n_5 + 1) ≤ 24 by omega), (show il ≤ 700 by omega), (show nx ≤ 701 by omega)⟩
          refine z_aload_n B dX12_remember_49 rfl 1 rfl ?_
          refine z_get (ref := "FlowExporterModel") (C := RX12) (T := TX12) (N := 54) (ci := 14) (v := .ref (x + 23)) B (by decide +kernel) rfl 42 (by decide) (by decide +kernel) rfl h_85 rfl dX12_remember_50 ?_
          refine z_iconst (v := 4) B dX12_remember_53 rfl ?_
          refine z_iload B dX12_remember_54 0 rfl ?_
          refine z_imul B dX12_remember_56 ?_
          refine z_top (st1 := [.int (nI (4 * n_5)), .ref (x + 23)]) (congrArg (fun w9 : Int32 => ([.int w9, .ref (x + 23)] : List Value)) (nI_mul 4 n_5)) ?_
          refine z_iload_n B dX12_remember_57 rfl 2 rfl ?_
          obtain ⟨f_21, h_86⟩ := imk (k := 23) hI24
          have h_87 : Φ24 (x + 23) = some (ai_ G 96 f_21) := h_86
          refine z_iast B h_87 (Nat.le_trans hx (Nat.le_add_right x 23)) (vp_in_nI (by omega) (by omega)) dX12_remember_58 (fun Φ25 hΦ24 => ?_)
          have h_88 : Φ25 (x + 23) = some (ai_ G 96 (upd f_21 (nI (4 * n_5)).toNatClampNeg a)) := fset_at hΦ24
          have hI25 : Im G x (rd, NN, fl, pe, le, nx, il, kn, ec) Φ25 := Im.put (k := 23) hI24 hΦ24 ⟨_, rfl⟩
          refine z_aload_n B dX12_remember_59 rfl 1 rfl ?_
          have h_89 : Φ25 x = some (o_ 14 [.int v_1, .ref (x + 1), .ref (x + 2), .int v_2, .int v_3, .int (nI n_1), .int v_4, .int v_5, .ref (x + 3), .ref (x + 4), .int v_6, .long v_7, .ref (x + 5), .int (nI fl), .int v_8, .long v_9, .long v_10, .long v_11, .long v_12, .ref (x + 6), .ref (x + 7), .int (nI pe), .ref (x + 8), .int (nI le), .ref (x + 9), .ref (x + 10), .int (nI n_2), .ref (x + 11), .ref (x + 12), .ref (x + 13), .ref (x + 14), .ref (x + 15), .ref (x + 16), .int (nI n_3), .long v_13, .ref (x + 17), .ref (x + 18), .ref (x + 19), .ref (x + 20), .ref (x + 21), .ref (x + 22), .int (nI n_4), .ref (x + 23), .ref (x + 24), .int (nI (n_5 + 1)), .ref (x + 25), .int (nI il), .int (nI nx), .int ec, .int v_14, .int kn, .int v_15, .int v_16, .long v_17]) := ((fset_fr hΦ24 (ne_off (x := x) (i := 0) (j := 23) rfl)).trans h_85)
          refine z_get (ref := "FlowExporterModel") (C := RX12) (T := TX12) (N := 54) (ci := 14) (v := .ref (x + 23)) B (by decide +kernel) rfl 42 (by decide) (by decide +kernel) rfl h_89 rfl dX12_remember_60 ?_
          refine z_iconst (v := 4) B dX12_remember_63 rfl ?_
          refine z_iload B dX12_remember_64 0 rfl ?_
          refine z_imul B dX12_remember_66 ?_
          refine z_top (st1 := [.int (nI (4 * n_5)), .ref (x + 23)]) (congrArg (fun w9 : Int32 => ([.int w9, .ref (x + 23)] : List Value)) (nI_mul 4 n_5)) ?_
          refine z_iconst (v := 1) B dX12_remember_67 rfl ?_
          refine z_iadd B dX12_remember_68 ?_
          refine z_top (st1 := [.int (nI (4 * n_5 + 1)), .ref (x + 23)]) (congrArg (fun w9 : Int32 => ([.int w9, .ref (x + 23)] : List Value)) (nI_add (4 * n_5) 1)) ?_
          refine z_iload_n B dX12_remember_69 rfl 3 rfl ?_
          obtain ⟨f_22, h_90⟩ := imk (k := 23) hI25
          have h_91 : Φ25 (x + 23) = some (ai_ G 96 f_22) := h_90
          refine z_iast B h_91 (Nat.le_trans hx (Nat.le_add_right x 23)) (vp_in_nI (by omega) (by omega)) dX12_remember_70 (fun Φ26 hΦ25 => ?_)
          have h_92 : Φ26 (x + 23) = some (ai_ G 96 (upd f_22 (nI (4 * n_5 + 1)).toNatClampNeg b)) := fset_at hΦ25
          have hI26 : Im G x (rd, NN, fl, pe, le, nx, il, kn, ec) Φ26 := Im.put (k := 23) hI25 hΦ25 ⟨_, rfl⟩
          refine z_aload_n B dX12_remember_71 rfl 1 rfl ?_
          have h_93 : Φ26 x = some (o_ 14 [.int v_1, .ref (x + 1), .ref (x + 2), .int v_2, .int v_3, .int (nI n_1), .int v_4, .int v_5, .ref (x + 3), .ref (x + 4), .int v_6, .long v_7, .ref (x + 5), .int (nI fl), .int v_8, .long v_9, .long v_10, .long v_11, .long v_12, .ref (x + 6), .ref (x + 7), .int (nI pe), .ref (x + 8), .int (nI le), .ref (x + 9), .ref (x + 10), .int (nI n_2), .ref (x + 11), .ref (x + 12), .ref (x + 13), .ref (x + 14), .ref (x + 15), .ref (x + 16), .int (nI n_3), .long v_13, .ref (x + 17), .ref (x + 18), .ref (x + 19), .ref (x + 20), .ref (x + 21), .ref (x + 22), .int (nI n_4), .ref (x + 23), .ref (x + 24), .int (nI (n_5 + 1)), .ref (x + 25), .int (nI il), .int (nI nx), .int ec, .int v_14, .int kn, .int v_15, .int v_16, .long v_17]) := ((fset_fr hΦ25 (ne_off (x := x) (i := 0) (j := 23) rfl)).trans h_89)
          refine z_get (ref := "FlowExporterModel") (C := RX12) (T := TX12) (N := 54) (ci := 14) (v := .ref (x + 23)) B (by decide +kernel) rfl 42 (by decide) (by decide +kernel) rfl h_93 rfl dX12_remember_72 ?_
          refine z_iconst (v := 4) B dX12_remember_75 rfl ?_
          refine z_iload B dX12_remember_76 0 rfl ?_
          refine z_imul B dX12_remember_78 ?_
          refine z_top (st1 := [.int (nI (4 * n_5)), .ref (x + 23)]) (congrArg (fun w9 : Int32 => ([.int w9, .ref (x + 23)] : List Value)) (nI_mul 4 n_5)) ?_
          refine z_iconst (v := 2) B dX12_remember_79 rfl ?_
          refine z_iadd B dX12_remember_80 ?_
          refine z_top (st1 := [.int (nI (4 * n_5 + 2)), .ref (x + 23)]) (congrArg (fun w9 : Int32 => ([.int w9, .ref (x + 23)] : List Value)) (nI_add (4 * n_5) 2)) ?_
          refine z_iload_n B dX12_remember_81 rfl 4 rfl ?_
          obtain ⟨f_23, h_94⟩ := imk (k := 23) hI26
          have h_95 : Φ26 (x + 23) = some (ai_ G 96 f_23) := h_94
          refine z_iast B h_95 (Nat.le_trans hx (Nat.le_add_right x 23)) (vp_in_nI (by omega) (by omega)) dX12_remember_82 (fun Φ27 hΦ26 => ?_)
          have h_96 : Φ27 (x + 23) = some (ai_ G 96 (upd f_23 (nI (4 * n_5 + 2)).toNatClampNeg d)) := fset_at hΦ26
          have hI27 : Im G x (rd, NN, fl, pe, le, nx, il, kn, ec) Φ27 := Im.put (k := 23) hI26 hΦ26 ⟨_, rfl⟩
          refine z_aload_n B dX12_remember_83 rfl 1 rfl ?_
          have h_97 : Φ27 x = some (o_ 14 [.int v_1, .ref (x + 1), .ref (x + 2), .int v_2, .int v_3, .int (nI n_1), .int v_4, .int v_5, .ref (x + 3), .ref (x + 4), .int v_6, .long v_7, .ref (x + 5), .int (nI fl), .int v_8, .long v_9, .long v_10, .long v_11, .long v_12, .ref (x + 6), .ref (x + 7), .int (nI pe), .ref (x + 8), .int (nI le), .ref (x + 9), .ref (x + 10), .int (nI n_2), .ref (x + 11), .ref (x + 12), .ref (x + 13), .ref (x + 14), .ref (x + 15), .ref (x + 16), .int (nI n_3), .long v_13, .ref (x + 17), .ref (x + 18), .ref (x + 19), .ref (x + 20), .ref (x + 21), .ref (x + 22), .int (nI n_4), .ref (x + 23), .ref (x + 24), .int (nI (n_5 + 1)), .ref (x + 25), .int (nI il), .int (nI nx), .int ec, .int v_14, .int kn, .int v_15, .int v_16, .long v_17]) := ((fset_fr hΦ26 (ne_off (x := x) (i := 0) (j := 23) rfl)).trans h_93)
          refine z_get (ref := "FlowExporterModel") (C := RX12) (T := TX12) (N := 54) (ci := 14) (v := .ref (x + 23)) B (by decide +kernel) rfl 42 (by decide) (by decide +kernel) rfl h_97 rfl dX12_remember_84 ?_
          refine z_iconst (v := 4) B dX12_remember_87 rfl ?_
          refine z_iload B dX12_remember_88 0 rfl ?_
          refine z_imul B dX12_remember_90 ?_
          refine z_top (st1 := [.int (nI (4 * n_5)), .ref (x + 23)]) (congrArg (fun w9 : Int32 => ([.int w9, .ref (x + 23)] : List Value)) (nI_mul 4 n_5)) ?_
          refine z_iconst (v := 3) B dX12_remember_91 rfl ?_
          refine z_iadd B dX12_remember_92 ?_
          refine z_top (st1 := [.int (nI (4 * n_5 + 3)), .ref (x + 23)]) (congrArg (fun w9 : Int32 => ([.int w9, .ref (x + 23)] : List Value)) (nI_add (4 * n_5) 3)) ?_
          refine z_iload B dX12_remember_93 5 rfl ?_
          obtain ⟨f_24, h_98⟩ := imk (k := 23) hI27
          have h_99 : Φ27 (x + 23) = some (ai_ G 96 f_24) := h_98
          refine z_iast B h_99 (Nat.le_trans hx (Nat.le_add_right x 23)) (vp_in_nI (by omega) (by omega)) dX12_remember_95 (fun Φ28 hΦ27 => ?_)
          have h_100 : Φ28 (x + 23) = some (ai_ G 96 (upd f_24 (nI (4 * n_5 + 3)).toNatClampNeg f)) := fset_at hΦ27
          have hI28 : Im G x (rd, NN, fl, pe, le, nx, il, kn, ec) Φ28 := Im.put (k := 23) hI27 hΦ27 ⟨_, rfl⟩
          refine z_aload_n B dX12_remember_96 rfl 1 rfl ?_
          have h_101 : Φ28 x = some (o_ 14 [.int v_1, .ref (x + 1), .ref (x + 2), .int v_2, .int v_3, .int (nI n_1), .int v_4, .int v_5, .ref (x + 3), .ref (x + 4), .int v_6, .long v_7, .ref (x + 5), .int (nI fl), .int v_8, .long v_9, .long v_10, .long v_11, .long v_12, .ref (x + 6), .ref (x + 7), .int (nI pe), .ref (x + 8), .int (nI le), .ref (x + 9), .ref (x + 10), .int (nI n_2), .ref (x + 11), .ref (x + 12), .ref (x + 13), .ref (x + 14), .ref (x + 15), .ref (x + 16), .int (nI n_3), .long v_13, .ref (x + 17), .ref (x + 18), .ref (x + 19), .ref (x + 20), .ref (x + 21), .ref (x + 22), .int (nI n_4), .ref (x + 23), .ref (x + 24), .int (nI (n_5 + 1)), .ref (x + 25), .int (nI il), .int (nI nx), .int ec, .int v_14, .int kn, .int v_15, .int v_16, .long v_17]) := ((fset_fr hΦ27 (ne_off (x := x) (i := 0) (j := 23) rfl)).trans h_97)
          refine z_get (ref := "FlowExporterModel") (C := RX12) (T := TX12) (N := 54) (ci := 14) (v := .ref (x + 24)) B (by decide +kernel) rfl 43 (by decide) (by decide +kernel) rfl h_101 rfl dX12_remember_97 ?_
          refine z_iconst (v := 2) B dX12_remember_100 rfl ?_
          refine z_iload B dX12_remember_101 0 rfl ?_
          refine z_imul B dX12_remember_103 ?_
          refine z_top (st1 := [.int (nI (2 * n_5)), .ref (x + 24)]) (congrArg (fun w9 : Int32 => ([.int w9, .ref (x + 24)] : List Value)) (nI_mul 2 n_5)) ?_
          refine z_lconst (v := 0) B dX12_remember_104 rfl ?_
          obtain ⟨f_25, h_102⟩ := imk (k := 24) hI28
          have h_103 : Φ28 (x + 24) = some (al_ G 48 f_25) := h_102
          refine z_last B h_103 (Nat.le_trans hx (Nat.le_add_right x 24)) (vp_in_nI (by omega) (by omega)) dX12_remember_105 (fun Φ29 hΦ28 => ?_)
          have h_104 : Φ29 (x + 24) = some (al_ G 48 (vp_updL f_25 (nI (2 * n_5)).toNatClampNeg 0)) := fset_at hΦ28
          have hI29 : Im G x (rd, NN, fl, pe, le, nx, il, kn, ec) Φ29 := Im.put (k := 24) hI28 hΦ28 ⟨_, rfl⟩
          refine z_aload_n B dX12_remember_106 rfl 1 rfl ?_
          have h_105 : Φ29 x = some (o_ 14 [.int v_1, .ref (x + 1), .ref (x + 2), .int v_2, .int v_3, .int (nI n_1), .int v_4, .int v_5, .ref (x + 3), .ref (x + 4), .int v_6, .long v_7, .ref (x + 5), .int (nI fl), .int v_8, .long v_9, .long v_10, .long v_11, .long v_12, .ref (x + 6), .ref (x + 7), .int (nI pe), .ref (x + 8), .int (nI le), .ref (x + 9), .ref (x + 10), .int (nI n_2), .ref (x + 11), .ref (x + 12), .ref (x + 13), .ref (x + 14), .ref (x + 15), .ref (x + 16), .int (nI n_3), .long v_13, .ref (x + 17), .ref (x + 18), .ref (x + 19), .ref (x + 20), .ref (x + 21), .ref (x + 22), .int (nI n_4), .ref (x + 23), .ref (x + 24), .int (nI (n_5 + 1)), .ref (x + 25), .int (nI il), .int (nI nx), .int ec, .int v_14, .int kn, .int v_15, .int v_16, .long v_17]) := ((fset_fr hΦ28 (ne_off (x := x) (i := 0) (j := 24) rfl)).trans h_101)
          refine z_get (ref := "FlowExporterModel") (C := RX12) (T := TX12) (N := 54) (ci := 14) (v := .ref (x + 24)) B (by decide +kernel) rfl 43 (by decide) (by decide +kernel) rfl h_105 rfl dX12_remember_107 ?_
          refine z_iconst (v := 2) B dX12_remember_110 rfl ?_
          refine z_iload B dX12_remember_111 0 rfl ?_
          refine z_imul B dX12_remember_113 ?_
          refine z_top (st1 := [.int (nI (2 * n_5)), .ref (x + 24)]) (congrArg (fun w9 : Int32 => ([.int w9, .ref (x + 24)] : List Value)) (nI_mul 2 n_5)) ?_
          refine z_iconst (v := 1) B dX12_remember_114 rfl ?_
          refine z_iadd B dX12_remember_115 ?_
          refine z_top (st1 := [.int (nI (2 * n_5 + 1)), .ref (x + 24)]) (congrArg (fun w9 : Int32 => ([.int w9, .ref (x + 24)] : List Value)) (nI_add (2 * n_5) 1)) ?_
          refine z_lconst (v := 0) B dX12_remember_116 rfl ?_
          obtain ⟨f_26, h_106⟩ := imk (k := 24) hI29
          have h_107 : Φ29 (x + 24) = some (al_ G 48 f_26) := h_106
          refine z_last B h_107 (Nat.le_trans hx (Nat.le_add_right x 24)) (vp_in_nI (by omega) (by omega)) dX12_remember_117 (fun Φ30 hΦ29 => ?_)
          have h_108 : Φ30 (x + 24) = some (al_ G 48 (vp_updL f_26 (nI (2 * n_5 + 1)).toNatClampNeg 0)) := fset_at hΦ29
          have hI30 : Im G x (rd, NN, fl, pe, le, nx, il, kn, ec) Φ30 := Im.put (k := 24) hI29 hΦ29 ⟨_, rfl⟩
          refine z_aload_n B dX12_remember_118 rfl 1 rfl ?_
          have h_109 : Φ30 x = some (o_ 14 [.int v_1, .ref (x + 1), .ref (x + 2), .int v_2, .int v_3, .int (nI n_1), .int v_4, .int v_5, .ref (x + 3), .ref (x + 4), .int v_6, .long v_7, .ref (x + 5), .int (nI fl), .int v_8, .long v_9, .long v_10, .long v_11, .long v_12, .ref (x + 6), .ref (x + 7), .int (nI pe), .ref (x + 8), .int (nI le), .ref (x + 9), .ref (x + 10), .int (nI n_2), .ref (x + 11), .ref (x + 12), .ref (x + 13), .ref (x + 14), .ref (x + 15), .ref (x + 16), .int (nI n_3), .long v_13, .ref (x + 17), .ref (x + 18), .ref (x + 19), .ref (x + 20), .ref (x + 21), .ref (x + 22), .int (nI n_4), .ref (x + 23), .ref (x + 24), .int (nI (n_5 + 1)), .ref (x + 25), .int (nI il), .int (nI nx), .int ec, .int v_14, .int kn, .int v_15, .int v_16, .long v_17]) := ((fset_fr hΦ29 (ne_off (x := x) (i := 0) (j := 24) rfl)).trans h_105)
          refine z_get (ref := "FlowExporterModel") (C := RX12) (T := TX12) (N := 54) (ci := 14) (v := .ref (x + 24)) B (by decide +kernel) rfl 43 (by decide) (by decide +kernel) rfl h_109 rfl dX12_remember_119 ?_
          refine z_iconst (v := 2) B dX12_remember_122 rfl ?_
          refine z_iload B dX12_remember_123 0 rfl ?_
          refine z_imul B dX12_remember_125 ?_
          refine z_top (st1 := [.int (nI (2 * n_5)), .ref (x + 24)]) (congrArg (fun w9 : Int32 => ([.int w9, .ref (x + 24)] : List Value)) (nI_mul 2 n_5)) ?_
          refine z_dup2_11 B dX12_remember_126 rfl rfl ?_
          obtain ⟨f_27, h_110⟩ := imk (k := 24) hI30
          have h_111 : Φ30 (x + 24) = some (al_ G 48 f_27) := h_110
          refine z_lald B h_111 (vp_in_nI (by omega) (by omega)) dX12_remember_127 ?_
          refine z_fl (fun v_34 => ?_)
          refine z_lconst (v := 1) B dX12_remember_128 rfl ?_
          refine z_ladd B dX12_remember_129 ?_
          refine z_fl (fun v_35 => ?_)
          refine z_last B h_111 (Nat.le_trans hx (Nat.le_add_right x 24)) (vp_in_nI (by omega) (by omega)) dX12_remember_130 (fun Φ31 hΦ30 => ?_)
          have h_112 : Φ31 (x + 24) = some (al_ G 48 (vp_updL f_27 (nI (2 * n_5)).toNatClampNeg v_35)) := fset_at hΦ30
          have hI31 : Im G x (rd, NN, fl, pe, le, nx, il, kn, ec) Φ31 := Im.put (k := 24) hI30 hΦ30 ⟨_, rfl⟩
          refine z_aload_n B dX12_remember_131 rfl 1 rfl ?_
          have h_113 : Φ31 x = some (o_ 14 [.int v_1, .ref (x + 1), .ref (x + 2), .int v_2, .int v_3, .int (nI n_1), .int v_4, .int v_5, .ref (x + 3), .ref (x + 4), .int v_6, .long v_7, .ref (x + 5), .int (nI fl), .int v_8, .long v_9, .long v_10, .long v_11, .long v_12, .ref (x + 6), .ref (x + 7), .int (nI pe), .ref (x + 8), .int (nI le), .ref (x + 9), .ref (x + 10), .int (nI n_2), .ref (x + 11), .ref (x + 12), .ref (x + 13), .ref (x + 14), .ref (x + 15), .ref (x + 16), .int (nI n_3), .long v_13, .ref (x + 17), .ref (x + 18), .ref (x + 19), .ref (x + 20), .ref (x + 21), .ref (x + 22), .int (nI n_4), .ref (x + 23), .ref (x + 24), .int (nI (n_5 + 1)), .ref (x + 25), .int (nI il), .int (nI nx), .int ec, .int v_14, .int kn, .int v_15, .int v_16, .long v_17]) := ((fset_fr hΦ30 (ne_off (x := x) (i := 0) (j := 24) rfl)).trans h_109)
          refine z_get (ref := "FlowExporterModel") (C := RX12) (T := TX12) (N := 54) (ci := 14) (v := .ref (x + 24)) B (by decide +kernel) rfl 43 (by decide) (by decide +kernel) rfl h_113 rfl dX12_remember_132 ?_
          refine z_iconst (v := 2) B dX12_remember_135 rfl ?_
          refine z_iload B dX12_remember_136 0 rfl ?_
          refine z_imul B dX12_remember_138 ?_
          refine z_top (st1 := [.int (nI (2 * n_5)), .ref (x + 24)]) (congrArg (fun w9 : Int32 => ([.int w9, .ref (x + 24)] : List Value)) (nI_mul 2 n_5)) ?_
          refine z_iconst (v := 1) B dX12_remember_139 rfl ?_
          refine z_iadd B dX12_remember_140 ?_
          refine z_top (st1 := [.int (nI (2 * n_5 + 1)), .ref (x + 24)]) (congrArg (fun w9 : Int32 => ([.int w9, .ref (x + 24)] : List Value)) (nI_add (2 * n_5) 1)) ?_
          refine z_dup2_11 B dX12_remember_141 rfl rfl ?_
          obtain ⟨f_28, h_114⟩ := imk (k := 24) hI31
          have h_115 : Φ31 (x + 24) = some (al_ G 48 f_28) := h_114
          refine z_lald B h_115 (vp_in_nI (by omega) (by omega)) dX12_remember_142 ?_
          refine z_fl (fun v_36 => ?_)
          refine z_iload B dX12_remember_143 6 rfl ?_
          refine z_i2l (v := g.toInt64) B dX12_remember_145 rfl ?_
          refine z_ladd B dX12_remember_146 ?_
          refine z_fl (fun v_37 => ?_)
          refine z_last B h_115 (Nat.le_trans hx (Nat.le_add_right x 24)) (vp_in_nI (by omega) (by omega)) dX12_remember_147 (fun Φ32 hΦ31 => ?_)
          have h_116 : Φ32 (x + 24) = some (al_ G 48 (vp_updL f_28 (nI (2 * n_5 + 1)).toNatClampNeg v_37)) := fset_at hΦ31
          have hI32 : Im G x (rd, NN, fl, pe, le, nx, il, kn, ec) Φ32 := Im.put (k := 24) hI31 hΦ31 ⟨_, rfl⟩
          exact z_ret_v B dX12_remember_148 ⟨rfl, rfl, hI32, (fun b9 h9 => ((fset_fr hΦ31 (fun h8 => h9 (24) h8 (show 24 = 0 ∨ 24 = 23 ∨ 24 = 24 by omega))).trans ((fset_fr hΦ30 (fun h8 => h9 (24) h8 (show 24 = 0 ∨ 24 = 23 ∨ 24 = 24 by omega))).trans ((fset_fr hΦ29 (fun h8 => h9 (24) h8 (show 24 = 0 ∨ 24 = 23 ∨ 24 = 24 by omega))).trans ((fset_fr hΦ28 (fun h8 => h9 (24) h8 (show 24 = 0 ∨ 24 = 23 ∨ 24 = 24 by omega))).trans ((fset_fr hΦ27 (fun h8 => h9 (23) h8 (show 23 = 0 ∨ 23 = 23 ∨ 23 = 24 by omega))).trans ((fset_fr hΦ26 (fun h8 => h9 (23) h8 (show 23 = 0 ∨ 23 = 23 ∨ 23 = 24 by omega))).trans ((fset_fr hΦ25 (fun h8 => h9 (23) h8 (show 23 = 0 ∨ 23 = 23 ∨ 23 = 24 by omega))).trans ((fset_fr hΦ24 (fun h8 => h9 (23) h8 (show 23 = 0 ∨ 23 = 23 ∨ 23 = 24 by omega))).trans ((fset_fr hΦ23 (fun h8 => h9 (0) h8 (show 0 = 0 ∨ 0 = 23 ∨ 0 = 24 by omega))).trans ((hF1 b9 (fun j9 h8 h7 => (show False from h7).elim)).trans rfl)))))))))))⟩
      · have e_4 : n_5 = 24 := (nI_eq (a := n_5) (b := 24) (by omega) (by omega)).mp c_6
        exact z_ret_v B dX12_remember_26 ⟨rfl, rfl, hI1, (fun b9 h9 => ((hF1 b9 (fun j9 h8 h7 => (show False from h7).elim)).trans rfl))⟩

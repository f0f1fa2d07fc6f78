set_option maxRecDepth 20000 in
theorem ggX12_areFields_X12_get : GoodIn wsX12_areFields wsX12_get := goodIn_ca (goodIn_r _ [7, 8, 15, 16, 17, 18, 19, 20, 21, 22, 23, 24, 25, 26, 27, 28, 29, 30, 31, 32, 33, 34, 35, 36, 37, 38, 39, 40, 41, 42, 43, 44, 45, 46, 47, 48, 49, 50, 51, 52, 53, 54, 55, 56, 57, 58, 59, 60, 61, 62, 63, 64, 65, 66, 67, 68] rfl (by decide +kernel)) (goodIn_sub (fun _ h => List.mem_cons_of_mem _ (List.mem_append_right _ h)) (by decide +kernel))
set_option maxRecDepth 20000 in
theorem gX12_areFields_X12_get : GoodIn wsX12_areFields (wsV RX12 339 RX12 yX12_get wsX12_get) := goodIn_app (goodIn_of _ (by decide +kernel)) ggX12_areFields_X12_get
set_option maxRecDepth 20000 in
theorem ggX12_areFields_X12_inRange : GoodIn wsX12_areFields wsX12_inRange := goodIn_r _ [11] rfl (by decide +kernel)
set_option maxRecDepth 20000 in
theorem gX12_areFields_X12_inRange : GoodIn wsX12_areFields (va_wsS RX12 169 yX12_inRange wsX12_inRange) := goodIn_app (goodIn_of _ (by decide +kernel)) ggX12_areFields_X12_inRange
set_option maxRecDepth 20000 in
theorem ggX12_areFields_X12_lengthOf : GoodIn wsX12_areFields wsX12_lengthOf := goodIn_r _ [14] rfl (by decide +kernel)
set_option maxRecDepth 20000 in
theorem gX12_areFields_X12_lengthOf : GoodIn wsX12_areFields (va_wsS RX12 195 yX12_lengthOf wsX12_lengthOf) := goodIn_app (goodIn_of _ (by decide +kernel)) ggX12_areFields_X12_lengthOf
theorem dX12_areFields_0 : decode cX12_areFields 0 = .ok (.iconst 0, 1) := by decide +kernel
theorem dX12_areFields_1 : decode cX12_areFields 1 = .ok (.istore_n 3, 1) := by decide +kernel
theorem dX12_areFields_2 : decode cX12_areFields 2 = .ok (.iconst 0, 1) := by decide +kernel
theorem dX12_areFields_3 : decode cX12_areFields 3 = .ok (.istore 4, 2) := by decide +kernel
theorem dX12_areFields_5 : decode cX12_areFields 5 = .ok (.iload 4, 2) := by decide +kernel
theorem dX12_areFields_7 : decode cX12_areFields 7 = .ok (.iload_n 2, 1) := by decide +kernel
theorem dX12_areFields_8 : decode cX12_areFields 8 = .ok (.if_icmp .ge 87, 3) := by decide +kernel
theorem dX12_areFields_11 : decode cX12_areFields 11 = .ok (.aload_n 0, 1) := by decide +kernel
theorem dX12_areFields_12 : decode cX12_areFields 12 = .ok (.iload_n 1, 1) := by decide +kernel
theorem dX12_areFields_13 : decode cX12_areFields 13 = .ok (.iconst 4, 1) := by decide +kernel
theorem dX12_areFields_14 : decode cX12_areFields 14 = .ok (.iload 4, 2) := by decide +kernel
theorem dX12_areFields_16 : decode cX12_areFields 16 = .ok (.imul, 1) := by decide +kernel
theorem dX12_areFields_17 : decode cX12_areFields 17 = .ok (.iadd, 1) := by decide +kernel
theorem dX12_areFields_18 : decode cX12_areFields 18 = .ok (.iconst 2, 1) := by decide +kernel
theorem dX12_areFields_19 : decode cX12_areFields 19 = .ok (.invokevirtual 339, 3) := by decide +kernel
theorem dX12_areFields_22 : decode cX12_areFields 22 = .ok (.l2i, 1) := by decide +kernel
theorem dX12_areFields_23 : decode cX12_areFields 23 = .ok (.istore 5, 2) := by decide +kernel
theorem dX12_areFields_25 : decode cX12_areFields 25 = .ok (.iload 5, 2) := by decide +kernel
theorem dX12_areFields_27 : decode cX12_areFields 27 = .ok (.i2l, 1) := by decide +kernel
theorem dX12_areFields_28 : decode cX12_areFields 28 = .ok (.lconst 0, 1) := by decide +kernel
theorem dX12_areFields_29 : decode cX12_areFields 29 = .ok (.ldc2_w 204, 3) := by decide +kernel
theorem dX12_areFields_32 : decode cX12_areFields 32 = .ok (.invokestatic 169, 3) := by decide +kernel
theorem dX12_areFields_35 : decode cX12_areFields 35 = .ok (.ifCond .eq 36, 3) := by decide +kernel
theorem dX12_areFields_38 : decode cX12_areFields 38 = .ok (.aload_n 0, 1) := by decide +kernel
theorem dX12_areFields_39 : decode cX12_areFields 39 = .ok (.iload_n 1, 1) := by decide +kernel
theorem dX12_areFields_40 : decode cX12_areFields 40 = .ok (.iconst 4, 1) := by decide +kernel
theorem dX12_areFields_41 : decode cX12_areFields 41 = .ok (.iload 4, 2) := by decide +kernel
theorem dX12_areFields_43 : decode cX12_areFields 43 = .ok (.imul, 1) := by decide +kernel
theorem dX12_areFields_44 : decode cX12_areFields 44 = .ok (.iadd, 1) := by decide +kernel
theorem dX12_areFields_45 : decode cX12_areFields 45 = .ok (.iconst 2, 1) := by decide +kernel
theorem dX12_areFields_46 : decode cX12_areFields 46 = .ok (.iadd, 1) := by decide +kernel
theorem dX12_areFields_47 : decode cX12_areFields 47 = .ok (.iconst 2, 1) := by decide +kernel
theorem dX12_areFields_48 : decode cX12_areFields 48 = .ok (.invokevirtual 339, 3) := by decide +kernel
theorem dX12_areFields_51 : decode cX12_areFields 51 = .ok (.iload 5, 2) := by decide +kernel
theorem dX12_areFields_53 : decode cX12_areFields 53 = .ok (.invokestatic 195, 3) := by decide +kernel
theorem dX12_areFields_56 : decode cX12_areFields 56 = .ok (.i2l, 1) := by decide +kernel
theorem dX12_areFields_57 : decode cX12_areFields 57 = .ok (.lcmp, 1) := by decide +kernel
theorem dX12_areFields_58 : decode cX12_areFields 58 = .ok (.ifCond .ne 13, 3) := by decide +kernel
theorem dX12_areFields_61 : decode cX12_areFields 61 = .ok (.iload_n 3, 1) := by decide +kernel
theorem dX12_areFields_62 : decode cX12_areFields 62 = .ok (.iload 5, 2) := by decide +kernel
theorem dX12_areFields_64 : decode cX12_areFields 64 = .ok (.ishr, 1) := by decide +kernel
theorem dX12_areFields_65 : decode cX12_areFields 65 = .ok (.iconst 1, 1) := by decide +kernel
theorem dX12_areFields_66 : decode cX12_areFields 66 = .ok (.iand, 1) := by decide +kernel
theorem dX12_areFields_67 : decode cX12_areFields 67 = .ok (.iconst 1, 1) := by decide +kernel
theorem dX12_areFields_68 : decode cX12_areFields 68 = .ok (.if_icmp .ne 5, 3) := by decide +kernel
theorem dX12_areFields_71 : decode cX12_areFields 71 = .ok (.iconst 0, 1) := by decide +kernel
theorem dX12_areFields_72 : decode cX12_areFields 72 = .ok (.ireturn, 1) := by decide +kernel
theorem dX12_areFields_73 : decode cX12_areFields 73 = .ok (.iload_n 3, 1) := by decide +kernel
theorem dX12_areFields_74 : decode cX12_areFields 74 = .ok (.iconst 1, 1) := by decide +kernel
theorem dX12_areFields_75 : decode cX12_areFields 75 = .ok (.iload 5, 2) := by decide +kernel
theorem dX12_areFields_77 : decode cX12_areFields 77 = .ok (.ishl, 1) := by decide +kernel
theorem dX12_areFields_78 : decode cX12_areFields 78 = .ok (.ior, 1) := by decide +kernel
theorem dX12_areFields_79 : decode cX12_areFields 79 = .ok (.istore_n 3, 1) := by decide +kernel
theorem dX12_areFields_80 : decode cX12_areFields 80 = .ok (.aload_n 0, 1) := by decide +kernel
theorem dX12_areFields_81 : decode cX12_areFields 81 = .ok (.getfield 63, 3) := by decide +kernel
theorem dX12_areFields_84 : decode cX12_areFields 84 = .ok (.iload 4, 2) := by decide +kernel
theorem dX12_areFields_86 : decode cX12_areFields 86 = .ok (.iload 5, 2) := by decide +kernel
theorem dX12_areFields_88 : decode cX12_areFields 88 = .ok (.iastore, 1) := by decide +kernel
theorem dX12_areFields_89 : decode cX12_areFields 89 = .ok (.iinc 4 1, 3) := by decide +kernel
theorem dX12_areFields_92 : decode cX12_areFields 92 = .ok (.goto (-87), 3) := by decide +kernel
theorem dX12_areFields_95 : decode cX12_areFields 95 = .ok (.iconst 1, 1) := by decide +kernel
theorem dX12_areFields_96 : decode cX12_areFields 96 = .ok (.ireturn, 1) := by decide +kernel
set_option maxHeartbeats 4000000 in
set_option maxRecDepth 100000 in
theorem r_areFields (G : EnvG) (l : Launch) (Φ : Hm) (sz x : Nat) (rd : (Nat → Int32) → Prop) (fl : Nat) (pe : Nat) (le : Nat) (nx : Nat) (il : Nat) (qu : Nat) (kn : Int32) (ec : Int32) (nu : Int32) (va : Int64) (q : Nat) (n : Nat) (hx : G.2.2.2 ≤ x) (hI : Im G x (rd, NN, fl, pe, le, nx, il, qu, kn, ec, nu, va) Φ) (hn : n ≤ 9) (hq : q + 4 * n ≤ 700) : Ct G l yX12_areFields wsX12_areFields ({ frames := 1, cells := 0, slots := 0, locals := 25 }) 0 0 [.ref x, .int (nI q), .int (nI n)] Φ sz (fun v Φ1 sz1 => (∃ r9 : Int32, v = some (.int r9) ∧ (r9 = 0 ∨ r9 = 1)) ∧ sz1 = sz ∧ (Im G x (rd, NN, fl, pe, le, nx, il, qu, kn, ec, nu, va) Φ1) ∧ Fr x (fun j9 => j9 = 17) Φ Φ1) := by
  refine Ct.of (cc := cX12_areFields) (maxL := 6) (ret := (some .boolean)) (by decide) rfl (Nat.le_of_ble_eq_true rfl) ?_
  intro p9 e9 s9 m9 w9 t9 k9 B
  show Z p9 l e9 _ s9 m9 _ w9 t9 k9 _ G 6 0 [(0, .ref x), (1, .int (nI q)), (2, .int (nI n))] [] Φ sz 0 0
  refine z_iconst (v := 0) B dX12_areFields_0 rfl ?_
  refine z_istore_n (lv' := [(3, .int 0), (0, .ref x), (1, .int (nI q)), (2, .int (nI n))]) B dX12_areFields_1 rfl (Nat.le_of_ble_eq_true rfl) rfl ?_
  refine z_iconst (v := 0) B dX12_areFields_2 rfl ?_
  refine z_istore (lv' := [(4, .int 0), (3, .int 0), (0, .ref x), (1, .int (nI q)), (2, .int (nI n))]) B dX12_areFields_3 (Nat.le_of_ble_eq_true rfl) rfl ?_
  refine z_lv [0, 1, 2, 3, 4] rfl ?_
  refine z_loop (α := Nat × Int32) (fun (a9 : Nat × Int32) Φi => Im G x (rd, NN, fl, pe, le, nx, il, qu, kn, ec, nu, va) Φi ∧ Fr x (fun j9 => j9 = 17) Φ Φi ∧ (a9.1 ≤ 9) ∧ True) (fun a9 => [(4, .int (nI (a9.1))), (3, .int a9.2), (0, .ref x), (1, .int (nI q)), (2, .int (nI n))]) (fun a9 => 9 - a9.1) ?_ (0, 0) ⟨hI, fun _ _ => rfl, (show 0 ≤ 9 by omega), trivial⟩
  rintro ⟨i_1, i_2⟩ Φl1 ⟨hI1, hF1, b_1, -⟩ ih1
  replace hI1 : Im G x (rd, NN, fl, pe, le, nx, il, qu, kn, ec, nu, va) Φl1 := hI1
  replace b_1 : i_1 ≤ 9 := b_1
  show Z p9 l e9 _ s9 m9 _ w9 t9 k9 _ G 6 5 [(4, .int (nI i_1)), (3, .int i_2), (0, .ref x), (1, .int (nI q)), (2, .int (nI n))] [] Φl1 _ _ _
  refine z_iload B dX12_areFields_5 0 rfl ?_
  refine z_iload_n B dX12_areFields_7 rfl 4 rfl ?_
  refine z_icmp_ge (tgt := 95) B dX12_areFields_8 rfl (fun c_1 => ?_) (fun c_1 => ?_)
  · have e_1 : n ≤ i_1 := (nI_leI (a := n) (b := i_1) (by omega) (by omega)).mp c_1
    refine z_iconst (v := 1) B dX12_areFields_95 rfl ?_
    exact z_ret_z B dX12_areFields_96 (by decide) ⟨⟨_, rfl, by decide⟩, rfl, hI1, (fun b9 h9 => ((hF1 b9 (fun j9 h8 h7 => h9 j9 h8 (show j9 = 17 by have h6 : j9 = 17 := h7; omega))).trans rfl))⟩
  · have e_2 : ¬ (n ≤ i_1) := fun h9 => c_1 ((nI_leI (a := n) (b := i_1) (by omega) (by omega)).mpr h9)
    refine z_aload_n B dX12_areFields_11 rfl 2 rfl ?_
    refine z_iload_n B dX12_areFields_12 rfl 3 rfl ?_
    refine z_iconst (v := 4) B dX12_areFields_13 rfl ?_
    refine z_iload B dX12_areFields_14 0 rfl ?_
    refine z_imul B dX12_areFields_16 ?_
    refine z_top (st1 := [.int (nI (4 * i_1)), .int (nI q), .ref x]) (congrArg (fun w9 : Int32 => ([.int w9, .int (nI q), .ref x] : List Value)) (nI_mul 4 i_1)) ?_
    refine z_iadd B dX12_areFields_17 ?_
    refine z_top (st1 := [.int (nI (q + 4 * i_1)), .ref x]) (congrArg (fun w9 : Int32 => ([.int w9, .ref x] : List Value)) (nI_add q (4 * i_1))) ?_
    refine z_iconst (v := 2) B dX12_areFields_18 rfl ?_
    obtain ⟨v_1, v_2, v_3, n_1, v_4, v_5, v_6, v_7, v_8, v_9, v_10, v_11, v_12, n_2, v_13, n_3, n_4, v_14, v_15, h_1, b_13, b_2, b_3, b_4, b_5, b_6, b_7, b_8, b_9, b_10, b_11, b_12⟩ := im0 hI1
    replace b_2 : 1 ≤ n_1 := b_2
    replace b_3 : n_1 ≤ 1024 := b_3
    replace b_4 : fl ≤ 12 := b_4
    replace b_5 : pe ≤ 24 := b_5
    replace b_6 : le ≤ 700 := b_6
    replace b_7 : qu ≤ 12 := b_7
    replace b_8 : n_2 ≤ 8 := b_8
    replace b_9 : n_3 ≤ 24 := b_9
    replace b_10 : n_4 ≤ 24 := b_10
    replace b_11 : il ≤ 700 := b_11
    replace b_12 : nx ≤ 701 := b_12
    have h_2 : Φl1 x = some (o_ 14 [.int v_1, .ref (x + 1), .ref (x + 2), .int v_2, .int v_3, .int (nI n_1), .int v_4, .int v_5, .ref (x + 3), .ref (x + 4), .int v_6, .long v_7, .ref (x + 5), .int (nI fl), .int v_8, .long v_9, .long v_10, .long v_11, .long v_12, .ref (x + 6), .ref (x + 7), .int (nI pe), .ref (x + 8), .int (nI le), .ref (x + 9), .ref (x + 10), .int (nI qu), .ref (x + 11), .ref (x + 12), .ref (x + 13), .ref (x + 14), .ref (x + 15), .ref (x + 16), .int (nI n_2), .long v_13, .ref (x + 17), .ref (x + 18), .ref (x + 19), .ref (x + 20), .ref (x + 21), .ref (x + 22), .int (nI n_3), .ref (x + 23), .ref (x + 24), .int (nI n_4), .ref (x + 25), .int (nI il), .int (nI nx), .int ec, .int v_14, .int kn, .int v_15, .int nu, .long va]) := h_1
    refine z_callV (As := [.int (nI (q + 4 * i_1)), .int 2]) (rest := []) B (r_get G l Φl1 sz x rd fl pe le nx il qu kn ec nu va (q + 4 * i_1) 2 hx hI1 (show 2 ≤ 8 by omega) (show (q + 4 * i_1) + 2 ≤ 700 by omega)) (cwV 2 B.1.2.2.2.2 gX12_areFields_X12_get rfl rfl rfl (by decide +kernel) ⟨Nat.le_of_ble_eq_true rfl, Nat.le_of_ble_eq_true rfl⟩) h_2 rfl rfl rfl rfl (Nat.le_of_ble_eq_true rfl) dX12_areFields_19 ⟨Nat.le_of_ble_eq_true rfl, Nat.le_of_ble_eq_true rfl⟩ (fun r_1 Φ1 sz1 st1 hp1 hs1 => ?_)
    obtain ⟨⟨v_16, rfl, q_1⟩, hq1, hI2, hF2⟩ := hp1
    subst sz1
    replace hs1 : st1 = [.long v_16] := hs1
    subst st1
    replace q_1 : np 2 v_16 := q_1
    replace hI2 : Im G x (rd, NN, fl, pe, le, nx, il, qu, kn, ec, nu, va) Φ1 := hI2
    refine z_l2i (v := v_16.toInt32) B dX12_areFields_22 rfl ?_
    obtain ⟨n_5, b_14, e_3, -⟩ := np2 q_1
    refine z_top (st1 := [.int (nI n_5)]) (congrArg (fun w9 : Int32 => ([.int w9] : List Value)) (e_3)) ?_
    refine z_istore (lv' := [(5, .int (nI n_5)), (4, .int (nI i_1)), (3, .int i_2), (0, .ref x), (1, .int (nI q)), (2, .int (nI n))]) B dX12_areFields_23 (Nat.le_of_ble_eq_true rfl) rfl ?_
    refine z_iload B dX12_areFields_25 0 rfl ?_
    refine z_i2l (v := (nI n_5).toInt64) B dX12_areFields_27 rfl ?_
    refine z_lconst (v := 0) B dX12_areFields_28 rfl ?_
    refine z_ldc2 (v := 8) B (by decide +kernel) dX12_areFields_29 ?_
    by_cases hR1 : inP ((nI n_5).toInt64) 0 8
    · have e_4 := (in_nat (m := n_5) (L := 0) (H := 8) (by decide) (by decide) (by omega)).mp hR1
      refine z_callS (As := [.long ((nI n_5).toInt64), .long 0, .long 8]) (rest := []) B (c_inR1 G l Φ1 sz ((nI n_5).toInt64) 0 8 hR1 (fun v8 Φ8 sz8 => v8 = some (.int 1) ∧ sz8 = sz ∧ Im G x (rd, NN, fl, pe, le, nx, il, qu, kn, ec, nu, va) Φ8 ∧ Fr x (fun j9 => False) Φ1 Φ8) ⟨rfl, rfl, hI2, fun _ _ => rfl⟩) (va_cwS 3 B.1.2.2.2.2 gX12_areFields_X12_inRange rfl rfl rfl (by decide +kernel) ⟨Nat.le_of_ble_eq_true rfl, Nat.le_of_ble_eq_true rfl⟩) rfl rfl (Nat.le_of_ble_eq_true rfl) dX12_areFields_32 ⟨Nat.le_of_ble_eq_true rfl, Nat.le_of_ble_eq_true rfl⟩ (fun r_2 Φ2 sz2 st2 hp2 hs2 => ?_)
      obtain ⟨rfl, hq2, hI3, hF3⟩ := hp2
      subst sz2
      replace hs2 : st2 = [.int 1] := hs2
      subst st2
      refine z_if_eq (tgt := 71) B dX12_areFields_35 rfl (fun h9 => absurd h9 (by decide)) (fun c_2 => ?_)
      refine z_aload_n B dX12_areFields_38 rfl 3 rfl ?_
      refine z_iload_n B dX12_areFields_39 rfl 4 rfl ?_
      refine z_iconst (v := 4) B dX12_areFields_40 rfl ?_
      refine z_iload B dX12_areFields_41 1 rfl ?_
      refine z_imul B dX12_areFields_43 ?_
      refine z_top (st1 := [.int (nI (4 * i_1)), .int (nI q), .ref x]) (congrArg (fun w9 : Int32 => ([.int w9, .int (nI q), .ref x] : List Value)) (nI_mul 4 i_1)) ?_
      refine z_iadd B dX12_areFields_44 ?_
      refine z_top (st1 := [.int (nI (q + 4 * i_1)), .ref x]) (congrArg (fun w9 : Int32 => ([.int w9, .ref x] : List Value)) (nI_add q (4 * i_1))) ?_
      refine z_iconst (v := 2) B dX12_areFields_45 rfl ?_
      refine z_iadd B dX12_areFields_46 ?_
      refine z_top (st1 := [.int (nI (q + 4 * i_1 + 2)), .ref x]) (congrArg (fun w9 : Int32 => ([.int w9, .ref x] : List Value)) (nI_add (q + 4 * i_1) 2)) ?_
      refine z_iconst (v := 2) B dX12_areFields_47 rfl ?_
      have h_3 : Φ2 x = some (o_ 14 [.int v_1, .ref (x + 1), .ref (x + 2), .int v_2, .int v_3, .int (nI n_1), .int v_4, .int v_5, .ref (x + 3), .ref (x + 4), .int v_6, .long v_7, .ref (x + 5), .int (nI fl), .int v_8, .long v_9, .long v_10, .long v_11, .long v_12, .ref (x + 6), .ref (x + 7), .int (nI pe), .ref (x + 8), .int (nI le), .ref (x + 9), .ref (x + 10), .int (nI qu), .ref (x + 11), .ref (x + 12), .ref (x + 13), .ref (x + 14), .ref (x + 15), .ref (x + 16), .int (nI n_2), .long v_13, .ref (x + 17), .ref (x + 18), .ref (x + 19), .ref (x + 20), .ref (x + 21), .ref (x + 22), .int (nI n_3), .ref (x + 23), .ref (x + 24), .int (nI n_4), .ref (x + 25), .int (nI il), .int (nI nx), .int ec, .int v_14, .int kn, .int v_15, .int nu, .long va]) := ((hF3 x (fun j9 h8 h7 => (show False from h7).elim)).trans ((hF2 x (fun j9 h8 h7 => (show False from h7).elim)).trans h_2))
      refine z_callV (As := [.int (nI (q + 4 * i_1 + 2)), .int 2]) (rest := []) B (r_get G l Φ2 sz x rd fl pe le nx il qu kn ec nu va (q + 4 * i_1 + 2) 2 hx hI3 (show 2 ≤ 8 by omega) (show (q + 4 * i_1 + 2) + 2 ≤ 700 by omega)) (cwV 2 B.1.2.2.2.2 gX12_areFields_X12_get rfl rfl rfl (by decide +kernel) ⟨Nat.le_of_ble_eq_true rfl, Nat.le_of_ble_eq_true rfl⟩) h_3 rfl rfl rfl rfl (Nat.le_of_ble_eq_true rfl) dX12_areFields_48 ⟨Nat.le_of_ble_eq_true rfl, Nat.le_of_ble_eq_true rfl⟩ (fun r_3 Φ3 sz3 st3 hp3 hs3 => ?_)
      obtain ⟨⟨v_17, rfl, q_2⟩, hq3, hI4, hF4⟩ := hp3
      subst sz3
      replace hs3 : st3 = [.long v_17] := hs3
      subst st3
      replace q_2 : np 2 v_17 := q_2
      replace hI4 : Im G x (rd, NN, fl, pe, le, nx, il, qu, kn, ec, nu, va) Φ3 := hI4
      refine z_iload B dX12_areFields_51 0 rfl ?_
      refine z_callS (As := [.int (nI n_5)]) (rest := [.long v_17]) B (r_lengthOf G l Φ3 sz x rd fl pe le nx il qu kn ec nu va n_5 hx hI4 (show n_5 < 2 ^ 31 by omega)) (va_cwS 1 B.1.2.2.2.2 gX12_areFields_X12_lengthOf rfl rfl rfl (by decide +kernel) ⟨Nat.le_of_ble_eq_true rfl, Nat.le_of_ble_eq_true rfl⟩) rfl rfl (Nat.le_of_ble_eq_true rfl) dX12_areFields_53 ⟨Nat.le_of_ble_eq_true rfl, Nat.le_of_ble_eq_true rfl⟩ (fun r_4 Φ4 sz4 st4 hp4 hs4 => ?_)
      obtain ⟨rfl, hq4, hI5, hF5⟩ := hp4
      subst sz4
      replace hs4 : st4 = [.int (nI (lnN n_5)), .long v_17] := hs4
      subst st4
      have b_15 := lnN_pos n_5
      have b_16 := lnN_le n_5
      replace hI5 : Im G x (rd, NN, fl, pe, le, nx, il, qu, kn, ec, nu, va) Φ4 := hI5
      refine z_i2l (v := (nI (lnN n_5)).toInt64) B dX12_areFields_56 rfl ?_
      refine z_lcmp B dX12_areFields_57 ?_
      refine z_fi (fun v_18 => ?_)
      refine z_if_ne (tgt := 71) B dX12_areFields_58 rfl (fun c_3 => ?_) (fun c_3 => ?_)
      · refine z_iconst (v := 0) B dX12_areFields_71 rfl ?_
        exact z_ret_z B dX12_areFields_72 (by decide) ⟨⟨_, rfl, by decide⟩, rfl, hI5, (fun b9 h9 => ((hF5 b9 (fun j9 h8 h7 => (show False from h7).elim)).trans ((hF4 b9 (fun j9 h8 h7 => (show False from h7).elim)).trans ((hF3 b9 (fun j9 h8 h7 => (show False from h7).elim)).trans ((hF2 b9 (fun j9 h8 h7 => (show False from h7).elim)).trans ((hF1 b9 (fun j9 h8 h7 => h9 j9 h8 (show j9 = 17 by have h6 : j9 = 17 := h7; omega))).trans rfl))))))⟩
      · refine z_iload_n B dX12_areFields_61 rfl 2 rfl ?_
        refine z_iload B dX12_areFields_62 0 rfl ?_
        refine z_ishr B dX12_areFields_64 ?_
        refine z_fi (fun v_19 => ?_)
        refine z_iconst (v := 1) B dX12_areFields_65 rfl ?_
        refine z_iand B dX12_areFields_66 ?_
        refine z_fi (fun v_20 => ?_)
        refine z_iconst (v := 1) B dX12_areFields_67 rfl ?_
        refine z_icmp_ne (tgt := 73) B dX12_areFields_68 rfl (fun c_4 => ?_) (fun c_4 => ?_)
        · refine z_iload_n B dX12_areFields_73 rfl 2 rfl ?_
          refine z_iconst (v := 1) B dX12_areFields_74 rfl ?_
          refine z_iload B dX12_areFields_75 0 rfl ?_
          refine z_ishl B dX12_areFields_77 ?_
          refine z_fi (fun v_21 => ?_)
          refine z_ior B dX12_areFields_78 ?_
          refine z_fi (fun v_22 => ?_)
          refine z_istore_n (lv' := [(3, .int v_22), (5, .int (nI n_5)), (4, .int (nI i_1)), (0, .ref x), (1, .int (nI q)), (2, .int (nI n))]) B dX12_areFields_79 rfl (Nat.le_of_ble_eq_true rfl) rfl ?_
          refine z_aload_n B dX12_areFields_80 rfl 3 rfl ?_
          have h_4 : Φ4 x = some (o_ 14 [.int v_1, .ref (x + 1), .ref (x + 2), .int v_2, .int v_3, .int (nI n_1), .int v_4, .int v_5, .ref (x + 3), .ref (x + 4), .int v_6, .long v_7, .ref (x + 5), .int (nI fl), .int v_8, .long v_9, .long v_10, .long v_11, .long v_12, .ref (x + 6), .ref (x + 7), .int (nI pe), .ref (x + 8), .int (nI le), .ref (x + 9), .ref (x + 10), .int (nI qu), .ref (x + 11), .ref (x + 12), .ref (x + 13), .ref (x + 14), .ref (x + 15), .ref (x + 16), .int (nI n_2), .long v_13, .ref (x + 17), .ref (x + 18), .ref (x + 19), .ref (x + 20), .ref (x + 21), .ref (x + 22), .int (nI n_3), .ref (x + 23), .ref (x + 24), .int (nI n_4), .ref (x + 25), .int (nI il), .int (nI nx), .int ec, .int v_14, .int kn, .int v_15, .int nu, .long va]) := ((hF5 x (fun j9 h8 h7 => (show False from h7).elim)).trans ((hF4 x (fun j9 h8 h7 => (show False from h7).elim)).trans h_3))
          refine z_get (ref := "FlowExporterModel") (C := RX12) (T := TX12) (N := 54) (ci := 14) (v := .ref (x + 17)) B (by decide +kernel) rfl 35 (by decide) (by decide +kernel) rfl h_4 rfl dX12_areFields_81 ?_
          refine z_iload B dX12_areFields_84 2 rfl ?_
          refine z_iload B dX12_areFields_86 1 rfl ?_
          obtain ⟨f_1, h_5, r_5⟩ := imk (k := 17) hI5
          replace r_5 : Rw 8 f_1 := r_5
          have h_6 : Φ4 (x + 17) = some (ai_ G 9 f_1) := h_5
          refine z_iast B h_6 (Nat.le_trans hx (Nat.le_add_right x 17)) (vp_in_nI (by omega) (by omega)) dX12_areFields_88 (fun Φ5 hΦ1 => ?_)
          have h_7 : Φ5 (x + 17) = some (ai_ G 9 (upd f_1 (nI i_1).toNatClampNeg (nI n_5))) := fset_at hΦ1
          have hI6 : Im G x (rd, NN, fl, pe, le, nx, il, qu, kn, ec, nu, va) Φ5 := Im.put (k := 17) hI5 hΦ1 ⟨_, rfl, Rw.up (n := n_5) r_5 (show n_5 ≤ 8 by omega)⟩
          refine z_iinc (k := 2) (v := nI (i_1 + 1)) (lv' := [(4, .int (nI (i_1 + 1))), (3, .int v_22), (5, .int (nI n_5)), (0, .ref x), (1, .int (nI q)), (2, .int (nI n))]) B dX12_areFields_89 rfl (nI_add i_1 1) (Nat.le_of_ble_eq_true rfl) rfl ?_
          refine z_goto (tgt := 5) B dX12_areFields_92 rfl ?_
          refine z_lv [0, 1, 3, 4, 5] rfl ?_
          exact ih1 (i_1 + 1, v_22) Φ5 (show 9 - (i_1 + 1) < 9 - i_1 by omega) ⟨hI6, (fun b9 h9 => ((fset_fr hΦ1 (fun h8 => h9 (17) h8 (show 17 = 17 by omega))).trans ((hF5 b9 (fun j9 h8 h7 => (show False from h7).elim)).trans ((hF4 b9 (fun j9 h8 h7 => (show False from h7).elim)).trans ((hF3 b9 (fun j9 h8 h7 => (show False from h7).elim)).trans ((hF2 b9 (fun j9 h8 h7 => (show False from h7).elim)).trans ((hF1 b9 (fun j9 h8 h7 => h9 j9 h8 (show j9 = 17 by have h6 : j9 = 17 := h7; omega))).trans rfl))))))), (show (i_1 + 1) ≤ 9 by omega), trivial⟩
        · refine z_iconst (v := 0) B dX12_areFields_71 rfl ?_
          exact z_ret_z B dX12_areFields_72 (by decide) ⟨⟨_, rfl, by decide⟩, rfl, hI5, (fun b9 h9 => ((hF5 b9 (fun j9 h8 h7 => (show False from h7).elim)).trans ((hF4 b9 (fun j9 h8 h7 => (show False from h7).elim)).trans ((hF3 b9 (fun j9 h8 h7 => (show False from h7).elim)).trans ((hF2 b9 (fun j9 h8 h7 => (show False from h7).elim)).trans ((hF1 b9 (fun j9 h8 h7 => h9 j9 h8 (show j9 = 17 by have h6 : j9 = 17 := h7; omega))).trans rfl))))))⟩
    · have e_7 := fun h9 => hR1 ((in_nat (m := n_5) (L := 0) (H := 8) (by decide) (by decide) (by omega)).mpr h9)
      refine z_callS (As := [.long ((nI n_5).toInt64), .long 0, .long 8]) (rest := []) B (c_inR0 G l Φ1 sz ((nI n_5).toInt64) 0 8 hR1 (fun v8 Φ8 sz8 => v8 = some (.int 0) ∧ sz8 = sz ∧ Im G x (rd, NN, fl, pe, le, nx, il, qu, kn, ec, nu, va) Φ8 ∧ Fr x (fun j9 => False) Φ1 Φ8) ⟨rfl, rfl, hI2, fun _ _ => rfl⟩) (va_cwS 3 B.1.2.2.2.2 gX12_areFields_X12_inRange rfl rfl rfl (by decide +kernel) ⟨Nat.le_of_ble_eq_true rfl, Nat.le_of_ble_eq_true rfl⟩) rfl rfl (Nat.le_of_ble_eq_true rfl) dX12_areFields_32 ⟨Nat.le_of_ble_eq_true rfl, Nat.le_of_ble_eq_true rfl⟩ (fun r_6 Φ6 sz5 st5 hp5 hs5 => ?_)
      obtain ⟨rfl, hq5, hI7, hF6⟩ := hp5
      subst sz5
      replace hs5 : st5 = [.int 0] := hs5
      subst st5
      refine z_if_eq (tgt := 71) B dX12_areFields_35 rfl (fun c_5 => ?_) (fun h9 => absurd (by decide) h9)
      refine z_iconst (v := 0) B dX12_areFields_71 rfl ?_
      exact z_ret_z B dX12_areFields_72 (by decide) ⟨⟨_, rfl, by decide⟩, rfl, hI7, (fun b9 h9 => ((hF6 b9 (fun j9 h8 h7 => (show False from h7).elim)).trans ((hF2 b9 (fun j9 h8 h7 => (show False from h7).elim)).trans ((hF1 b9 (fun j9 h8 h7 => h9 j9 h8 (show j9 = 17 by have h6 : j9 = 17 := h7; omega))).trans rfl))))⟩

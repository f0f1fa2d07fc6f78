theorem dX12_flowOf_0 : decode cX12_flowOf 0 = .ok (.iconst 0, 1) := by decide +kernel
theorem dX12_flowOf_1 : decode cX12_flowOf 1 = .ok (.istore 5, 2) := by decide +kernel
theorem dX12_flowOf_3 : decode cX12_flowOf 3 = .ok (.iload 5, 2) := by decide +kernel
theorem dX12_flowOf_5 : decode cX12_flowOf 5 = .ok (.aload_n 0, 1) := by decide +kernel
theorem dX12_flowOf_6 : decode cX12_flowOf 6 = .ok (.getfield 133, 3) := by decide +kernel
theorem dX12_flowOf_9 : decode cX12_flowOf 9 = .ok (.if_icmp .ge 83, 3) := by decide +kernel
theorem dX12_flowOf_12 : decode cX12_flowOf 12 = .ok (.aload_n 0, 1) := by decide +kernel
theorem dX12_flowOf_13 : decode cX12_flowOf 13 = .ok (.getfield 26, 3) := by decide +kernel
theorem dX12_flowOf_16 : decode cX12_flowOf 16 = .ok (.bipush 8, 2) := by decide +kernel
theorem dX12_flowOf_18 : decode cX12_flowOf 18 = .ok (.iload 5, 2) := by decide +kernel
theorem dX12_flowOf_20 : decode cX12_flowOf 20 = .ok (.imul, 1) := by decide +kernel
theorem dX12_flowOf_21 : decode cX12_flowOf 21 = .ok (.laload, 1) := by decide +kernel
theorem dX12_flowOf_22 : decode cX12_flowOf 22 = .ok (.iload_n 1, 1) := by decide +kernel
theorem dX12_flowOf_23 : decode cX12_flowOf 23 = .ok (.i2l, 1) := by decide +kernel
theorem dX12_flowOf_24 : decode cX12_flowOf 24 = .ok (.lcmp, 1) := by decide +kernel
theorem dX12_flowOf_25 : decode cX12_flowOf 25 = .ok (.ifCond .ne 61, 3) := by decide +kernel
theorem dX12_flowOf_28 : decode cX12_flowOf 28 = .ok (.aload_n 0, 1) := by decide +kernel
theorem dX12_flowOf_29 : decode cX12_flowOf 29 = .ok (.getfield 26, 3) := by decide +kernel
theorem dX12_flowOf_32 : decode cX12_flowOf 32 = .ok (.bipush 8, 2) := by decide +kernel
theorem dX12_flowOf_34 : decode cX12_flowOf 34 = .ok (.iload 5, 2) := by decide +kernel
theorem dX12_flowOf_36 : decode cX12_flowOf 36 = .ok (.imul, 1) := by decide +kernel
theorem dX12_flowOf_37 : decode cX12_flowOf 37 = .ok (.iconst 1, 1) := by decide +kernel
theorem dX12_flowOf_38 : decode cX12_flowOf 38 = .ok (.iadd, 1) := by decide +kernel
theorem dX12_flowOf_39 : decode cX12_flowOf 39 = .ok (.laload, 1) := by decide +kernel
theorem dX12_flowOf_40 : decode cX12_flowOf 40 = .ok (.iload_n 2, 1) := by decide +kernel
theorem dX12_flowOf_41 : decode cX12_flowOf 41 = .ok (.i2l, 1) := by decide +kernel
theorem dX12_flowOf_42 : decode cX12_flowOf 42 = .ok (.lcmp, 1) := by decide +kernel
theorem dX12_flowOf_43 : decode cX12_flowOf 43 = .ok (.ifCond .ne 43, 3) := by decide +kernel
theorem dX12_flowOf_46 : decode cX12_flowOf 46 = .ok (.aload_n 0, 1) := by decide +kernel
theorem dX12_flowOf_47 : decode cX12_flowOf 47 = .ok (.getfield 26, 3) := by decide +kernel
theorem dX12_flowOf_50 : decode cX12_flowOf 50 = .ok (.bipush 8, 2) := by decide +kernel
theorem dX12_flowOf_52 : decode cX12_flowOf 52 = .ok (.iload 5, 2) := by decide +kernel
theorem dX12_flowOf_54 : decode cX12_flowOf 54 = .ok (.imul, 1) := by decide +kernel
theorem dX12_flowOf_55 : decode cX12_flowOf 55 = .ok (.iconst 2, 1) := by decide +kernel
theorem dX12_flowOf_56 : decode cX12_flowOf 56 = .ok (.iadd, 1) := by decide +kernel
theorem dX12_flowOf_57 : decode cX12_flowOf 57 = .ok (.laload, 1) := by decide +kernel
theorem dX12_flowOf_58 : decode cX12_flowOf 58 = .ok (.iload_n 3, 1) := by decide +kernel
theorem dX12_flowOf_59 : decode cX12_flowOf 59 = .ok (.i2l, 1) := by decide +kernel
theorem dX12_flowOf_60 : decode cX12_flowOf 60 = .ok (.lcmp, 1) := by decide +kernel
theorem dX12_flowOf_61 : decode cX12_flowOf 61 = .ok (.ifCond .ne 25, 3) := by decide +kernel
theorem dX12_flowOf_64 : decode cX12_flowOf 64 = .ok (.aload_n 0, 1) := by decide +kernel
theorem dX12_flowOf_65 : decode cX12_flowOf 65 = .ok (.getfield 26, 3) := by decide +kernel
theorem dX12_flowOf_68 : decode cX12_flowOf 68 = .ok (.bipush 8, 2) := by decide +kernel
theorem dX12_flowOf_70 : decode cX12_flowOf 70 = .ok (.iload 5, 2) := by decide +kernel
theorem dX12_flowOf_72 : decode cX12_flowOf 72 = .ok (.imul, 1) := by decide +kernel
theorem dX12_flowOf_73 : decode cX12_flowOf 73 = .ok (.iconst 3, 1) := by decide +kernel
theorem dX12_flowOf_74 : decode cX12_flowOf 74 = .ok (.iadd, 1) := by decide +kernel
theorem dX12_flowOf_75 : decode cX12_flowOf 75 = .ok (.laload, 1) := by decide +kernel
theorem dX12_flowOf_76 : decode cX12_flowOf 76 = .ok (.iload 4, 2) := by decide +kernel
theorem dX12_flowOf_78 : decode cX12_flowOf 78 = .ok (.i2l, 1) := by decide +kernel
theorem dX12_flowOf_79 : decode cX12_flowOf 79 = .ok (.lcmp, 1) := by decide +kernel
theorem dX12_flowOf_80 : decode cX12_flowOf 80 = .ok (.ifCond .ne 6, 3) := by decide +kernel
theorem dX12_flowOf_83 : decode cX12_flowOf 83 = .ok (.iload 5, 2) := by decide +kernel
theorem dX12_flowOf_85 : decode cX12_flowOf 85 = .ok (.ireturn, 1) := by decide +kernel
theorem dX12_flowOf_86 : decode cX12_flowOf 86 = .ok (.iinc 5 1, 3) := by decide +kernel
theorem dX12_flowOf_89 : decode cX12_flowOf 89 = .ok (.goto (-86), 3) := by decide +kernel
theorem dX12_flowOf_92 : decode cX12_flowOf 92 = .ok (.iconst (-1), 1) := by decide +kernel
theorem dX12_flowOf_93 : decode cX12_flowOf 93 = .ok (.ireturn, 1) := by decide +kernel
theorem dX12_put_0 : decode cX12_put 0 = .ok (.bipush 8, 2) := by decide +kernel
theorem dX12_put_2 : decode cX12_put 2 = .ok (.iload_n 3, 1) := by decide +kernel
theorem dX12_put_3 : decode cX12_put 3 = .ok (.imul, 1) := by decide +kernel
theorem dX12_put_4 : decode cX12_put 4 = .ok (.bipush 8, 2) := by decide +kernel
theorem dX12_put_6 : decode cX12_put 6 = .ok (.isub, 1) := by decide +kernel
theorem dX12_put_7 : decode cX12_put 7 = .ok (.istore 4, 2) := by decide +kernel
theorem dX12_put_9 : decode cX12_put 9 = .ok (.iload 4, 2) := by decide +kernel
theorem dX12_put_11 : decode cX12_put 11 = .ok (.ifCond .lt 37, 3) := by decide +kernel
theorem dX12_put_14 : decode cX12_put 14 = .ok (.aload_n 0, 1) := by decide +kernel
theorem dX12_put_15 : decode cX12_put 15 = .ok (.getfield 36, 3) := by decide +kernel
theorem dX12_put_18 : decode cX12_put 18 = .ok (.aload_n 0, 1) := by decide +kernel
theorem dX12_put_19 : decode cX12_put 19 = .ok (.getfield 280, 3) := by decide +kernel
theorem dX12_put_22 : decode cX12_put 22 = .ok (.lload_n 1, 1) := by decide +kernel
theorem dX12_put_23 : decode cX12_put 23 = .ok (.iload 4, 2) := by decide +kernel
theorem dX12_put_25 : decode cX12_put 25 = .ok (.lshr, 1) := by decide +kernel
theorem dX12_put_26 : decode cX12_put 26 = .ok (.ldc2_w 218, 3) := by decide +kernel
theorem dX12_put_29 : decode cX12_put 29 = .ok (.land, 1) := by decide +kernel
theorem dX12_put_30 : decode cX12_put 30 = .ok (.l2i, 1) := by decide +kernel
theorem dX12_put_31 : decode cX12_put 31 = .ok (.iastore, 1) := by decide +kernel
theorem dX12_put_32 : decode cX12_put 32 = .ok (.aload_n 0, 1) := by decide +kernel
theorem dX12_put_33 : decode cX12_put 33 = .ok (.dup, 1) := by decide +kernel
theorem dX12_put_34 : decode cX12_put 34 = .ok (.getfield 280, 3) := by decide +kernel
theorem dX12_put_37 : decode cX12_put 37 = .ok (.iconst 1, 1) := by decide +kernel
theorem dX12_put_38 : decode cX12_put 38 = .ok (.iadd, 1) := by decide +kernel
theorem dX12_put_39 : decode cX12_put 39 = .ok (.putfield 280, 3) := by decide +kernel
theorem dX12_put_42 : decode cX12_put 42 = .ok (.iinc 4 (-8), 3) := by decide +kernel
theorem dX12_put_45 : decode cX12_put 45 = .ok (.goto (-36), 3) := by decide +kernel
theorem dX12_put_48 : decode cX12_put 48 = .ok (.return_, 1) := by decide +kernel
theorem dX12_putAt_0 : decode cX12_putAt 0 = .ok (.aload_n 0, 1) := by decide +kernel
theorem dX12_putAt_1 : decode cX12_putAt 1 = .ok (.getfield 36, 3) := by decide +kernel
theorem dX12_putAt_4 : decode cX12_putAt 4 = .ok (.iload_n 1, 1) := by decide +kernel
theorem dX12_putAt_5 : decode cX12_putAt 5 = .ok (.iload_n 2, 1) := by decide +kernel
theorem dX12_putAt_6 : decode cX12_putAt 6 = .ok (.bipush 8, 2) := by decide +kernel
theorem dX12_putAt_8 : decode cX12_putAt 8 = .ok (.ishr, 1) := by decide +kernel
theorem dX12_putAt_9 : decode cX12_putAt 9 = .ok (.iastore, 1) := by decide +kernel
theorem dX12_putAt_10 : decode cX12_putAt 10 = .ok (.aload_n 0, 1) := by decide +kernel
theorem dX12_putAt_11 : decode cX12_putAt 11 = .ok (.getfield 36, 3) := by decide +kernel
theorem dX12_putAt_14 : decode cX12_putAt 14 = .ok (.iload_n 1, 1) := by decide +kernel
theorem dX12_putAt_15 : decode cX12_putAt 15 = .ok (.iconst 1, 1) := by decide +kernel
theorem dX12_putAt_16 : decode cX12_putAt 16 = .ok (.iadd, 1) := by decide +kernel
theorem dX12_putAt_17 : decode cX12_putAt 17 = .ok (.iload_n 2, 1) := by decide +kernel
theorem dX12_putAt_18 : decode cX12_putAt 18 = .ok (.sipush 255, 3) := by decide +kernel
theorem dX12_putAt_21 : decode cX12_putAt 21 = .ok (.iand, 1) := by decide +kernel
theorem dX12_putAt_22 : decode cX12_putAt 22 = .ok (.iastore, 1) := by decide +kernel
theorem dX12_putAt_23 : decode cX12_putAt 23 = .ok (.return_, 1) := by decide +kernel
theorem dX12_bitCount_0 : decode cX12_bitCount 0 = .ok (.iconst 0, 1) := by decide +kernel
theorem dX12_bitCount_1 : decode cX12_bitCount 1 = .ok (.istore_n 1, 1) := by decide +kernel
theorem dX12_bitCount_2 : decode cX12_bitCount 2 = .ok (.iload_n 0, 1) := by decide +kernel
theorem dX12_bitCount_3 : decode cX12_bitCount 3 = .ok (.istore_n 2, 1) := by decide +kernel
theorem dX12_bitCount_4 : decode cX12_bitCount 4 = .ok (.iload_n 2, 1) := by decide +kernel
theorem dX12_bitCount_5 : decode cX12_bitCount 5 = .ok (.ifCond .eq 15, 3) := by decide +kernel
theorem dX12_bitCount_8 : decode cX12_bitCount 8 = .ok (.iinc 1 1, 3) := by decide +kernel
theorem dX12_bitCount_11 : decode cX12_bitCount 11 = .ok (.iload_n 2, 1) := by decide +kernel
theorem dX12_bitCount_12 : decode cX12_bitCount 12 = .ok (.iload_n 2, 1) := by decide +kernel
theorem dX12_bitCount_13 : decode cX12_bitCount 13 = .ok (.iconst 1, 1) := by decide +kernel
theorem dX12_bitCount_14 : decode cX12_bitCount 14 = .ok (.isub, 1) := by decide +kernel
theorem dX12_bitCount_15 : decode cX12_bitCount 15 = .ok (.iand, 1) := by decide +kernel
theorem dX12_bitCount_16 : decode cX12_bitCount 16 = .ok (.istore_n 2, 1) := by decide +kernel
theorem dX12_bitCount_17 : decode cX12_bitCount 17 = .ok (.goto (-13), 3) := by decide +kernel
theorem dX12_bitCount_20 : decode cX12_bitCount 20 = .ok (.iload_n 1, 1) := by decide +kernel
theorem dX12_bitCount_21 : decode cX12_bitCount 21 = .ok (.ireturn, 1) := by decide +kernel
set_option maxRecDepth 20000 in
theorem ggX12_keyOf_X12_isSame : GoodIn wsX12_keyOf wsX12_isSame := goodIn_ca ((goodIn_r _ [6] rfl (by decide +kernel))) (goodIn_sub (fun _ h => List.mem_cons_of_mem _ (List.mem_append_right _ h)) (all_fg _))
set_option maxRecDepth 20000 in
theorem gX12_keyOf_X12_isSame : GoodIn wsX12_keyOf (va_wsS RX12 386 yX12_isSame wsX12_isSame) := goodIn_app (goodIn_m (mem_cA (List.mem_cons_of_mem _ (List.mem_append_left _ (List.mem_append_left _ (List.mem_of_getElem? (i := 2) rfl)))) (mem_cA (List.mem_cons_of_mem _ (List.mem_append_left _ (List.mem_append_left _ (List.mem_of_getElem? (i := 3) rfl)))) (mem_cA (List.mem_cons_of_mem _ (List.mem_append_left _ (List.mem_append_left _ (List.mem_of_getElem? (i := 4) rfl)))) mem_cZ))) (by decide +kernel)) ggX12_keyOf_X12_isSame
theorem dX12_keyOf_0 : decode cX12_keyOf 0 = .ok (.iconst 0, 1) := by decide +kernel
theorem dX12_keyOf_1 : decode cX12_keyOf 1 = .ok (.istore 9, 2) := by decide +kernel
theorem dX12_keyOf_3 : decode cX12_keyOf 3 = .ok (.iload 9, 2) := by decide +kernel
theorem dX12_keyOf_5 : decode cX12_keyOf 5 = .ok (.aload_n 0, 1) := by decide +kernel
theorem dX12_keyOf_6 : decode cX12_keyOf 6 = .ok (.getfield 148, 3) := by decide +kernel
theorem dX12_keyOf_9 : decode cX12_keyOf 9 = .ok (.if_icmp .ge 30, 3) := by decide +kernel
theorem dX12_keyOf_12 : decode cX12_keyOf 12 = .ok (.aload_n 0, 1) := by decide +kernel
theorem dX12_keyOf_13 : decode cX12_keyOf 13 = .ok (.getfield 69, 3) := by decide +kernel
theorem dX12_keyOf_16 : decode cX12_keyOf 16 = .ok (.iload 9, 2) := by decide +kernel
theorem dX12_keyOf_18 : decode cX12_keyOf 18 = .ok (.lload_n 1, 1) := by decide +kernel
theorem dX12_keyOf_19 : decode cX12_keyOf 19 = .ok (.lload_n 3, 1) := by decide +kernel
theorem dX12_keyOf_20 : decode cX12_keyOf 20 = .ok (.lload 5, 2) := by decide +kernel
theorem dX12_keyOf_22 : decode cX12_keyOf 22 = .ok (.lload 7, 2) := by decide +kernel
theorem dX12_keyOf_24 : decode cX12_keyOf 24 = .ok (.invokestatic 386, 3) := by decide +kernel
theorem dX12_keyOf_27 : decode cX12_keyOf 27 = .ok (.ifCond .eq 6, 3) := by decide +kernel
theorem dX12_keyOf_30 : decode cX12_keyOf 30 = .ok (.iload 9, 2) := by decide +kernel
theorem dX12_keyOf_32 : decode cX12_keyOf 32 = .ok (.ireturn, 1) := by decide +kernel
theorem dX12_keyOf_33 : decode cX12_keyOf 33 = .ok (.iinc 9 1, 3) := by decide +kernel
theorem dX12_keyOf_36 : decode cX12_keyOf 36 = .ok (.goto (-33), 3) := by decide +kernel
theorem dX12_keyOf_39 : decode cX12_keyOf 39 = .ok (.iconst (-1), 1) := by decide +kernel
theorem dX12_keyOf_40 : decode cX12_keyOf 40 = .ok (.ireturn, 1) := by decide +kernel
set_option maxHeartbeats 4000000 in
set_option maxRecDepth 100000 in
theorem r_keyOf (G : EnvG) (l : Launch) (Φ : Hm) (sz x : Nat) (rd : (Nat → Int32) → Prop) (nw : (Nat → Int32) → Prop) (cr : (Nat → Int64) → Prop) (tp : (Nat → Int32) → Prop) (tt : (Nat → Int64) → Prop) (sI : (Nat → Int32) → Prop) (sT : (Nat → Int32) → Prop) (pt : (Nat → Int32) → Prop) (ql : (Nat → Int32) → Prop) (fl : Nat) (pe : Nat) (le : Nat) (nx : Nat) (il : Nat) (qu : Nat) (kn : Int32) (ec : Int32) (nu : Int32) (va : Int64) (st : Nat) (ep : Int32) (ti : Int32) (ad : Int32) (ob : Int64) (ra : Int32) (rt : Nat) (ex : Int32) (sa : Int64) (us : Int64) (tk : Nat) (th : Int32) (me : Int32) (dr : Int32) (se : Int64) (sn : Int64) (a : Int64) (b : Int64) (d : Int64) (f : Int64) (hx : G.2.2.2 ≤ x) (hI : Im G x (rd, nw, cr, tp, tt, sI, sT, pt, ql, fl, pe, le, nx, il, qu, kn, ec, nu, va, st, ep, ti, ad, ob, ra, rt, ex, sa, us, tk, th, me, dr, se, sn) Φ) (hnw : ∀ f9 : Nat → Int32, nw f9 → NN f9) : Ct G l yX12_keyOf wsX12_keyOf ({ frames := 1, cells := 0, slots := 0, locals := 29 }) 0 0 [.ref x, .long a, .long b, .long d, .long f] Φ sz (fun v Φ1 sz1 => (v = some (.int (-1)) ∨ ∃ n9 : Nat, n9 < 24 ∧ v = some (.int (nI n9))) ∧ sz1 = sz ∧ (Im G x (rd, nw, cr, tp, tt, sI, sT, pt, ql, fl, pe, le, nx, il, qu, kn, ec, nu, va, st, ep, ti, ad, ob, ra, rt, ex, sa, us, tk, th, me, dr, se, sn) Φ1) ∧ Fr x (fun j9 => False) Φ Φ1) := by
  refine Ct.of (cc := cX12_keyOf) (maxL := 10) (ret := (some .int)) (by decide) rfl (Nat.le_of_ble_eq_true rfl) ?_
  intro p9 e9 s9 m9 w9 t9 k9 B
  show Z p9 l e9 _ s9 m9 _ w9 t9 k9 _ G 10 0 [(0, .ref x), (1, .long a), (3, .long b), (5, .long d), (7, .long f)] [] Φ sz 0 0
  refine z_iconst (v := 0) B dX12_keyOf_0 rfl ?_
  refine z_istore (lv' := [(9, .int 0), (0, .ref x), (1, .long a), (3, .long b), (5, .long d), (7, .long f)]) B dX12_keyOf_1 (Nat.le_of_ble_eq_true rfl) rfl ?_
  refine z_lv [0, 1, 2, 3, 4, 5] rfl ?_
  refine z_loop (α := Nat) (fun (a9 : Nat) Φi => Im G x (rd, nw, cr, tp, tt, sI, sT, pt, ql, fl, pe, le, nx, il, qu, kn, ec, nu, va, st, ep, ti, ad, ob, ra, rt, ex, sa, us, tk, th, me, dr, se, sn) Φi ∧ Fr x (fun j9 => False) Φ Φi ∧ (a9 ≤ 24) ∧ True) (fun a9 => [(9, .int (nI a9)), (0, .ref x), (1, .long a), (3, .long b), (5, .long d), (7, .long f)]) (fun a9 => 24 - a9) ?_ (0) ⟨hI, fun _ _ => rfl, (show 0 ≤ 24 by omega), trivial⟩
  rintro i_1 Φl1 ⟨hI1, hF1, b_1, -⟩ ih1
  replace hI1 : Im G x (rd, nw, cr, tp, tt, sI, sT, pt, ql, fl, pe, le, nx, il, qu, kn, ec, nu, va, st, ep, ti, ad, ob, ra, rt, ex, sa, us, tk, th, me, dr, se, sn) Φl1 := hI1
  replace b_1 : i_1 ≤ 24 := b_1
  show Z p9 l e9 _ s9 m9 _ w9 t9 k9 _ G 10 3 [(9, .int (nI i_1)), (0, .ref x), (1, .long a), (3, .long b), (5, .long d), (7, .long f)] [] Φl1 _ _ _
  refine z_iload B dX12_keyOf_3 0 rfl ?_
  refine z_aload_n B dX12_keyOf_5 rfl 1 rfl ?_
  obtain ⟨n_1, v_1, n_2, h_1, b_14, b_2, b_3, b_4, b_5, b_6, b_7, b_8, b_9, b_10, b_11, b_12, b_13⟩ := im0 hI1
  replace b_2 : 1 ≤ rt := b_2
  replace b_3 : rt ≤ 1024 := b_3
  replace b_4 : fl ≤ 12 := b_4
  replace b_5 : pe ≤ 24 := b_5
  replace b_6 : le ≤ 700 := b_6
  replace b_7 : qu ≤ 12 := b_7
  replace b_8 : n_1 ≤ 8 := b_8
  replace b_9 : n_2 ≤ 24 := b_9
  replace b_10 : tk ≤ 24 := b_10
  replace b_11 : il ≤ 700 := b_11
  replace b_12 : nx ≤ 701 := b_12
  replace b_13 : st ≤ 701 := b_13
  have h_2 : Φl1 x = some (o_ 14 [.int th, .ref (x + 1), .ref (x + 2), .int ti, .int ra, .int (nI rt), .int ex, .int ad, .ref (x + 3), .ref (x + 4), .int me, .long se, .ref (x + 5), .int (nI fl), .int dr, .long ob, .long sa, .long sn, .long us, .ref (x + 6), .ref (x + 7), .int (nI pe), .ref (x + 8), .int (nI le), .ref (x + 9), .ref (x + 10), .int (nI qu), .ref (x + 11), .ref (x + 12), .ref (x + 13), .ref (x + 14), .ref (x + 15), .ref (x + 16), .int (nI n_1), .long v_1, .ref (x + 17), .ref (x + 18), .ref (x + 19), .ref (x + 20), .ref (x + 21), .ref (x + 22), .int (nI n_2), .ref (x + 23), .ref (x + 24), .int (nI tk), .ref (x + 25), .int (nI il), .int (nI nx), .int ec, .int ep, .int kn, .int (nI st), .int nu, .long va]) := h_1
  refine z_get (ref := "FlowExporterModel") (C := RX12) (T := TX12) (N := 54) (ci := 14) (v := .int (nI n_2)) B hu_X12_keyOf_X12 rfl 41 (Nat.le_of_ble_eq_true rfl) hv_X12_keyOf_148 rfl h_2 rfl dX12_keyOf_6 ?_
  refine z_icmp_ge (tgt := 39) B dX12_keyOf_9 rfl (fun c_1 => ?_) (fun c_1 => ?_)
  · have e_1 : n_2 ≤ i_1 := (nI_leI (a := n_2) (b := i_1) (by omega) (by omega)).mp c_1
    refine z_iconst (v := (-1)) B dX12_keyOf_39 rfl ?_
    exact z_ret_i B dX12_keyOf_40 ⟨(Or.inl rfl), rfl, hI1, (fun b9 h9 => ((hF1 b9 (fun j9 h8 h7 => (show False from h7).elim)).trans rfl))⟩
  · have e_2 : ¬ (n_2 ≤ i_1) := fun h9 => c_1 ((nI_leI (a := n_2) (b := i_1) (by omega) (by omega)).mpr h9)
    refine z_aload_n B dX12_keyOf_12 rfl 1 rfl ?_
    refine z_get (ref := "FlowExporterModel") (C := RX12) (T := TX12) (N := 54) (ci := 14) (v := .ref (x + 19)) B hu_X12_keyOf_X12 rfl 37 (Nat.le_of_ble_eq_true rfl) hv_X12_keyOf_69 rfl h_2 rfl dX12_keyOf_13 ?_
    refine z_iload B dX12_keyOf_16 0 rfl ?_
    refine z_lload_n B dX12_keyOf_18 rfl 2 rfl ?_
    refine z_lload_n B dX12_keyOf_19 rfl 3 rfl ?_
    refine z_lload B dX12_keyOf_20 4 rfl ?_
    refine z_lload B dX12_keyOf_22 5 rfl ?_
    refine z_callS (As := [.ref (x + 19), .int (nI i_1), .long a, .long b, .long d, .long f]) (rest := []) B (r_isSame_19 G l Φl1 sz x rd nw cr tp tt sI sT pt ql fl pe le nx il qu kn ec nu va st ep ti ad ob ra rt ex sa us tk th me dr se sn i_1 a b d f hx hI1 (show i_1 < 24 by omega) hnw) (va_cwS 6 B.1.2.2.2.2 gX12_keyOf_X12_isSame rfl rfl rfl (by decide +kernel) ⟨Nat.le_of_ble_eq_true rfl, Nat.le_of_ble_eq_true rfl⟩) rfl rfl (Nat.le_of_ble_eq_true rfl) dX12_keyOf_24 ⟨Nat.le_of_ble_eq_true rfl, Nat.le_of_ble_eq_true rfl⟩ (fun r_1 Φ1 sz1 st1 hp1 hs1 => ?_)
    obtain ⟨⟨v_2, rfl, b_15⟩, hq1, hI2, hF2⟩ := hp1
    subst sz1
    replace hs1 : st1 = [.int v_2] := hs1
    subst st1
    replace hI2 : Im G x (rd, nw, cr, tp, tt, sI, sT, pt, ql, fl, pe, le, nx, il, qu, kn, ec, nu, va, st, ep, ti, ad, ob, ra, rt, ex, sa, us, tk, th, me, dr, se, sn) Φ1 := hI2
    refine z_if_eq (tgt := 33) B dX12_keyOf_27 rfl (fun c_2 => ?_) (fun c_2 => ?_)
    · refine z_iinc (k := 0) (v := nI (i_1 + 1)) (lv' := [(9, .int (nI (i_1 + 1))), (0, .ref x), (1, .long a), (3, .long b), (5, .long d), (7, .long f)]) B dX12_keyOf_33 rfl (nI_add i_1 1) (Nat.le_of_ble_eq_true rfl) rfl ?_
      refine z_goto (tgt := 3) B dX12_keyOf_36 rfl ?_
      refine z_lv [0, 1, 2, 3, 4, 5] rfl ?_
      exact ih1 (i_1 + 1) Φ1 (show 24 - (i_1 + 1) < 24 - i_1 by omega) ⟨hI2, (fun b9 h9 => ((hF2 b9 (fun j9 h8 h7 => (show False from h7).elim)).trans ((hF1 b9 (fun j9 h8 h7 => (show False from h7).elim)).trans rfl))), (show (i_1 + 1) ≤ 24 by omega), trivial⟩
    · refine z_iload B dX12_keyOf_30 0 rfl ?_
      exact z_ret_i B dX12_keyOf_32 ⟨(Or.inr ⟨i_1, (show i_1 < 24 by omega), rfl⟩), rfl, hI2, (fun b9 h9 => ((hF2 b9 (fun j9 h8 h7 => (show False from h7).elim)).trans ((hF1 b9 (fun j9 h8 h7 => (show False from h7).elim)).trans rfl)))⟩

theorem hu_X12_flowOf_X12 : ∀ w ∈ u_ws RX12 TX12 54, w ∈ wsX12_flowOf := fun _ h => List.mem_cons_of_mem _ (List.mem_append_left _ (List.mem_append_right _ (h)))

theorem hv_X12_flowOf_133 : Cond.fieldLink RX12 133 "FlowExporterModel" (TX12 13).2.1 (TX12 13).2.2.1 ∈ wsX12_flowOf := List.mem_cons_of_mem _ (List.mem_append_left _ (List.mem_append_left _ (List.mem_of_getElem? (i := 0) rfl)))

theorem hv_X12_flowOf_26 : Cond.fieldLink RX12 26 "FlowExporterModel" (TX12 12).2.1 (TX12 12).2.2.1 ∈ wsX12_flowOf := List.mem_cons_of_mem _ (List.mem_append_left _ (List.mem_append_left _ (List.mem_of_getElem? (i := 1) rfl)))

set_option maxHeartbeats 4000000 in
set_option maxRecDepth 100000 in
theorem r_flowOf (G : EnvG) (l : Launch) (Φ : Hm) (sz x : Nat) (rd : (Nat → Int32) → Prop) (nw : (Nat → Int32) → Prop) (cr : (Nat → Int64) → Prop) (tp : (Nat → Int32) → Prop) (tt : (Nat → Int64) → Prop) (sI : (Nat → Int32) → Prop) (sT : (Nat → Int32) → Prop) (pt : (Nat → Int32) → Prop) (ql : (Nat → Int32) → Prop) (fl : Nat) (pe : Nat) (le : Nat) (nx : Nat) (il : Nat) (qu : Nat) (kn : Int32) (ec : Int32) (nu : Int32) (va : Int64) (st : Nat) (ep : Int32) (ti : Int32) (ad : Int32) (ob : Int64) (ra : Int32) (rt : Nat) (ex : Int32) (sa : Int64) (us : Int64) (tk : Nat) (th : Int32) (me : Int32) (dr : Int32) (se : Int64) (sn : Int64) (fC : Nat → Int64) (a : Int32) (b : Int32) (d : Int32) (f : Int32) (hx : G.2.2.2 ≤ x) (hI : Im G x (rd, nw, cr, tp, tt, sI, sT, pt, ql, fl, pe, le, nx, il, qu, kn, ec, nu, va, st, ep, ti, ad, ob, ra, rt, ex, sa, us, tk, th, me, dr, se, sn) Φ) (hc0 : Φ (x + 5) = some (al_ G 96 fC)) (hnw : ∀ f9 : Nat → Int32, nw f9 → NN f9) : Ct G l yX12_flowOf wsX12_flowOf ({ frames := 0, cells := 0, slots := 0, locals := 0 }) 0 0 [.ref x, .int a, .int b, .int d, .int f] Φ sz (fun v Φ1 sz1 => ((v = some (.int (-1)) ∧ ¬ InC fC fl a b d f) ∨ ∃ n9 : Nat, n9 < fl ∧ rK fC n9 a b d f ∧ v = some (.int (nI n9))) ∧ sz1 = sz ∧ (Im G x (rd, nw, cr, tp, tt, sI, sT, pt, ql, fl, pe, le, nx, il, qu, kn, ec, nu, va, st, ep, ti, ad, ob, ra, rt, ex, sa, us, tk, th, me, dr, se, sn) Φ1) ∧ Fr x (fun j9 => False) Φ Φ1) := by
  refine Ct.of (cc := cX12_flowOf) (maxL := 6) (ret := (some .int)) (by decide) rfl (Nat.le_of_ble_eq_true rfl) ?_
  intro p9 e9 s9 m9 w9 t9 k9 B
  show Z p9 l e9 _ s9 m9 _ w9 t9 k9 _ G 6 0 [(0, .ref x), (1, .int a), (2, .int b), (3, .int d), (4, .int f)] [] Φ sz 0 0
  refine z_iconst (v := 0) B dX12_flowOf_0 rfl ?_
  refine z_istore (lv' := [(5, .int 0), (0, .ref x), (1, .int a), (2, .int b), (3, .int d), (4, .int f)]) B dX12_flowOf_1 (Nat.le_of_ble_eq_true rfl) rfl ?_
  refine z_lv [0, 1, 2, 3, 4, 5] rfl ?_
  refine z_loop (α := Nat) (fun (a9 : Nat) Φi => Im G x (rd, nw, cr, tp, tt, sI, sT, pt, ql, fl, pe, le, nx, il, qu, kn, ec, nu, va, st, ep, ti, ad, ob, ra, rt, ex, sa, us, tk, th, me, dr, se, sn) Φi ∧ Fr x (fun j9 => False) Φ Φi ∧ (a9 ≤ 12) ∧ (∀ j9, j9 < a9 → ¬ rK fC j9 a b d f) ∧ True) (fun a9 => [(5, .int (nI a9)), (0, .ref x), (1, .int a), (2, .int b), (3, .int d), (4, .int f)]) (fun a9 => 12 - a9) ?_ (0) ⟨hI, fun _ _ => rfl, (show 0 ≤ 12 by omega), (fun j9 h9 => absurd h9 (Nat.not_lt_zero _)), trivial⟩
  rintro i_1 Φl1 ⟨hI1, hF1, b_1, b_2, -⟩ ih1
  replace hI1 : Im G x (rd, nw, cr, tp, tt, sI, sT, pt, ql, fl, pe, le, nx, il, qu, kn, ec, nu, va, st, ep, ti, ad, ob, ra, rt, ex, sa, us, tk, th, me, dr, se, sn) Φl1 := hI1
  replace b_1 : i_1 ≤ 12 := b_1
  replace b_2 : ∀ j9, j9 < i_1 → ¬ rK fC j9 a b d f := b_2
  show Z p9 l e9 _ s9 m9 _ w9 t9 k9 _ G 6 3 [(5, .int (nI i_1)), (0, .ref x), (1, .int a), (2, .int b), (3, .int d), (4, .int f)] [] Φl1 _ _ _
  refine z_iload B dX12_flowOf_3 0 rfl ?_
  refine z_aload_n B dX12_flowOf_5 rfl 1 rfl ?_
  obtain ⟨n_1, v_1, n_2, h_1, b_15, b_3, b_4, b_5, b_6, b_7, b_8, b_9, b_10, b_11, b_12, b_13, b_14⟩ := im0 hI1
  replace b_3 : 1 ≤ rt := b_3
  replace b_4 : rt ≤ 1024 := b_4
  replace b_5 : fl ≤ 12 := b_5
  replace b_6 : pe ≤ 24 := b_6
  replace b_7 : le ≤ 700 := b_7
  replace b_8 : qu ≤ 12 := b_8
  replace b_9 : n_1 ≤ 8 := b_9
  replace b_10 : n_2 ≤ 24 := b_10
  replace b_11 : tk ≤ 24 := b_11
  replace b_12 : il ≤ 700 := b_12
  replace b_13 : nx ≤ 701 := b_13
  replace b_14 : st ≤ 701 := b_14
  have h_2 : Φl1 x = some (o_ 14 [.int th, .ref (x + 1), .ref (x + 2), .int ti, .int ra, .int (nI rt), .int ex, .int ad, .ref (x + 3), .ref (x + 4), .int me, .long se, .ref (x + 5), .int (nI fl), .int dr, .long ob, .long sa, .long sn, .long us, .ref (x + 6), .ref (x + 7), .int (nI pe), .ref (x + 8), .int (nI le), .ref (x + 9), .ref (x + 10), .int (nI qu), .ref (x + 11), .ref (x + 12), .ref (x + 13), .ref (x + 14), .ref (x + 15), .ref (x + 16), .int (nI n_1), .long v_1, .ref (x + 17), .ref (x + 18), .ref (x + 19), .ref (x + 20), .ref (x + 21), .ref (x + 22), .int (nI n_2), .ref (x + 23), .ref (x + 24), .int (nI tk), .ref (x + 25), .int (nI il), .int (nI nx), .int ec, .int ep, .int kn, .int (nI st), .int nu, .long va]) := h_1
  refine z_get (ref := "FlowExporterModel") (C := RX12) (T := TX12) (N := 54) (ci := 14) (v := .int (nI fl)) B hu_X12_flowOf_X12 rfl 13 (Nat.le_of_ble_eq_true rfl) hv_X12_flowOf_133 rfl h_2 rfl dX12_flowOf_6 ?_
  refine z_icmp_ge (tgt := 92) B dX12_flowOf_9 rfl (fun c_1 => ?_) (fun c_1 => ?_)
  · have e_1 : fl ≤ i_1 := (nI_leI (a := fl) (b := i_1) (by omega) (by omega)).mp c_1
    refine z_iconst (v := (-1)) B dX12_flowOf_92 rfl ?_
    exact z_ret_i B dX12_flowOf_93 ⟨(Or.inl ⟨rfl, fun ⟨n9, q1, q2⟩ => b_2 n9 (by omega) q2⟩), rfl, hI1, (fun b9 h9 => ((hF1 b9 (fun j9 h8 h7 => (show False from h7).elim)).trans rfl))⟩
  · have e_2 : ¬ (fl ≤ i_1) := fun h9 => c_1 ((nI_leI (a := fl) (b := i_1) (by omega) (by omega)).mpr h9)
    refine z_aload_n B dX12_flowOf_12 rfl 1 rfl ?_
    refine z_get (ref := "FlowExporterModel") (C := RX12) (T := TX12) (N := 54) (ci := 14) (v := .ref (x + 5)) B hu_X12_flowOf_X12 rfl 12 (Nat.le_of_ble_eq_true rfl) hv_X12_flowOf_26 rfl h_2 rfl dX12_flowOf_13 ?_
    refine z_bipush (v := 8) B dX12_flowOf_16 rfl ?_
    refine z_iload B dX12_flowOf_18 0 rfl ?_
    refine z_imul B dX12_flowOf_20 ?_
    refine z_top (st1 := [.int (nI (8 * i_1)), .ref (x + 5)]) (congrArg (fun w9 : Int32 => ([.int w9, .ref (x + 5)] : List Value)) (nI_mul 8 i_1)) ?_
    have h_3 : Φl1 (x + 5) = some (al_ G 96 fC) := ((hF1 (x + 5) (fun j9 h8 h7 => (show False from h7).elim)).trans hc0)
    refine z_lald B h_3 (vp_in_nI (by omega) (by omega)) dX12_flowOf_21 ?_
    refine z_iload_n B dX12_flowOf_22 rfl 2 rfl ?_
    refine z_i2l (v := a.toInt64) B dX12_flowOf_23 rfl ?_
    refine z_lcmp B dX12_flowOf_24 ?_
    refine z_if_ne (tgt := 86) B dX12_flowOf_25 rfl (fun c_2 => ?_) (fun c_2 => ?_)
    · refine z_iinc (k := 0) (v := nI (i_1 + 1)) (lv' := [(5, .int (nI (i_1 + 1))), (0, .ref x), (1, .int a), (2, .int b), (3, .int d), (4, .int f)]) B dX12_flowOf_86 rfl (nI_add i_1 1) (Nat.le_of_ble_eq_true rfl) rfl ?_
      refine z_goto (tgt := 3) B dX12_flowOf_89 rfl ?_
      refine z_lv [0, 1, 2, 3, 4, 5] rfl ?_
      exact ih1 (i_1 + 1) Φl1 (show 12 - (i_1 + 1) < 12 - i_1 by omega) ⟨hI1, (fun b9 h9 => ((hF1 b9 (fun j9 h8 h7 => (show False from h7).elim)).trans rfl)), (show (i_1 + 1) ≤ 12 by omega), (no_s b_2 (fun q9 => c_2 ((lg_cmp_eq _ _).mpr ((congrArg fC (nI_clamp (by omega))).trans q9.1)))), trivial⟩
    · refine z_aload_n B dX12_flowOf_28 rfl 1 rfl ?_
      refine z_get (ref := "FlowExporterModel") (C := RX12) (T := TX12) (N := 54) (ci := 14) (v := .ref (x + 5)) B hu_X12_flowOf_X12 rfl 12 (Nat.le_of_ble_eq_true rfl) hv_X12_flowOf_26 rfl h_2 rfl dX12_flowOf_29 ?_
      refine z_bipush (v := 8) B dX12_flowOf_32 rfl ?_
      refine z_iload B dX12_flowOf_34 0 rfl ?_
      refine z_imul B dX12_flowOf_36 ?_
      refine z_top (st1 := [.int (nI (8 * i_1)), .ref (x + 5)]) (congrArg (fun w9 : Int32 => ([.int w9, .ref (x + 5)] : List Value)) (nI_mul 8 i_1)) ?_
      refine z_iconst (v := 1) B dX12_flowOf_37 rfl ?_
      refine z_iadd B dX12_flowOf_38 ?_
      refine z_top (st1 := [.int (nI (8 * i_1 + 1)), .ref (x + 5)]) (congrArg (fun w9 : Int32 => ([.int w9, .ref (x + 5)] : List Value)) (nI_add (8 * i_1) 1)) ?_
      refine z_lald B h_3 (vp_in_nI (by omega) (by omega)) dX12_flowOf_39 ?_
      refine z_iload_n B dX12_flowOf_40 rfl 3 rfl ?_
      refine z_i2l (v := b.toInt64) B dX12_flowOf_41 rfl ?_
      refine z_lcmp B dX12_flowOf_42 ?_
      refine z_if_ne (tgt := 86) B dX12_flowOf_43 rfl (fun c_3 => ?_) (fun c_3 => ?_)
      · refine z_iinc (k := 0) (v := nI (i_1 + 1)) (lv' := [(5, .int (nI (i_1 + 1))), (0, .ref x), (1, .int a), (2, .int b), (3, .int d), (4, .int f)]) B dX12_flowOf_86 rfl (nI_add i_1 1) (Nat.le_of_ble_eq_true rfl) rfl ?_
        refine z_goto (tgt := 3) B dX12_flowOf_89 rfl ?_
        refine z_lv [0, 1, 2, 3, 4, 5] rfl ?_
        exact ih1 (i_1 + 1) Φl1 (show 12 - (i_1 + 1) < 12 - i_1 by omega) ⟨hI1, (fun b9 h9 => ((hF1 b9 (fun j9 h8 h7 => (show False from h7).elim)).trans rfl)), (show (i_1 + 1) ≤ 12 by omega), (no_s b_2 (fun q9 => c_3 ((lg_cmp_eq _ _).mpr ((congrArg fC (nI_clamp (by omega))).trans q9.2.1)))), trivial⟩
      · refine z_aload_n B dX12_flowOf_46 rfl 1 rfl ?_
        refine z_get (ref := "FlowExporterModel") (C := RX12) (T := TX12) (N := 54) (ci := 14) (v := .ref (x + 5)) B hu_X12_flowOf_X12 rfl 12 (Nat.le_of_ble_eq_true rfl) hv_X12_flowOf_26 rfl h_2 rfl dX12_flowOf_47 ?_
        refine z_bipush (v := 8) B dX12_flowOf_50 rfl ?_
        refine z_iload B dX12_flowOf_52 0 rfl ?_
        refine z_imul B dX12_flowOf_54 ?_
        refine z_top (st1 := [.int (nI (8 * i_1)), .ref (x + 5)]) (congrArg (fun w9 : Int32 => ([.int w9, .ref (x + 5)] : List Value)) (nI_mul 8 i_1)) ?_
        refine z_iconst (v := 2) B dX12_flowOf_55 rfl ?_
        refine z_iadd B dX12_flowOf_56 ?_
        refine z_top (st1 := [.int (nI (8 * i_1 + 2)), .ref (x + 5)]) (congrArg (fun w9 : Int32 => ([.int w9, .ref (x + 5)] : List Value)) (nI_add (8 * i_1) 2)) ?_
        refine z_lald B h_3 (vp_in_nI (by omega) (by omega)) dX12_flowOf_57 ?_
        refine z_iload_n B dX12_flowOf_58 rfl 4 rfl ?_
        refine z_i2l (v := d.toInt64) B dX12_flowOf_59 rfl ?_
        refine z_lcmp B dX12_flowOf_60 ?_
        refine z_if_ne (tgt := 86) B dX12_flowOf_61 rfl (fun c_4 => ?_) (fun c_4 => ?_)
        · refine z_iinc (k := 0) (v := nI (i_1 + 1)) (lv' := [(5, .int (nI (i_1 + 1))), (0, .ref x), (1, .int a), (2, .int b), (3, .int d), (4, .int f)]) B dX12_flowOf_86 rfl (nI_add i_1 1) (Nat.le_of_ble_eq_true rfl) rfl ?_
          refine z_goto (tgt := 3) B dX12_flowOf_89 rfl ?_
          refine z_lv [0, 1, 2, 3, 4, 5] rfl ?_
          exact ih1 (i_1 + 1) Φl1 (show 12 - (i_1 + 1) < 12 - i_1 by omega) ⟨hI1, (fun b9 h9 => ((hF1 b9 (fun j9 h8 h7 => (show False from h7).elim)).trans rfl)), (show (i_1 + 1) ≤ 12 by omega), (no_s b_2 (fun q9 => c_4 ((lg_cmp_eq _ _).mpr ((congrArg fC (nI_clamp (by omega))).trans q9.2.2.1)))), trivial⟩
        · refine z_aload_n B dX12_flowOf_64 rfl 1 rfl ?_
          refine z_get (ref := "FlowExporterModel") (C := RX12) (T := TX12) (N := 54) (ci := 14) (v := .ref (x + 5)) B hu_X12_flowOf_X12 rfl 12 (Nat.le_of_ble_eq_true rfl) hv_X12_flowOf_26 rfl h_2 rfl dX12_flowOf_65 ?_
          refine z_bipush (v := 8) B dX12_flowOf_68 rfl ?_
          refine z_iload B dX12_flowOf_70 0 rfl ?_
          refine z_imul B dX12_flowOf_72 ?_
          refine z_top (st1 := [.int (nI (8 * i_1)), .ref (x + 5)]) (congrArg (fun w9 : Int32 => ([.int w9, .ref (x + 5)] : List Value)) (nI_mul 8 i_1)) ?_
          refine z_iconst (v := 3) B dX12_flowOf_73 rfl ?_
          refine z_iadd B dX12_flowOf_74 ?_
          refine z_top (st1 := [.int (nI (8 * i_1 + 3)), .ref (x + 5)]) (congrArg (fun w9 : Int32 => ([.int w9, .ref (x + 5)] : List Value)) (nI_add (8 * i_1) 3)) ?_
          refine z_lald B h_3 (vp_in_nI (by omega) (by omega)) dX12_flowOf_75 ?_
          refine z_iload B dX12_flowOf_76 5 rfl ?_
          refine z_i2l (v := f.toInt64) B dX12_flowOf_78 rfl ?_
          refine z_lcmp B dX12_flowOf_79 ?_
          refine z_if_ne (tgt := 86) B dX12_flowOf_80 rfl (fun c_5 => ?_) (fun c_5 => ?_)
          · refine z_iinc (k := 0) (v := nI (i_1 + 1)) (lv' := [(5, .int (nI (i_1 + 1))), (0, .ref x), (1, .int a), (2, .int b), (3, .int d), (4, .int f)]) B dX12_flowOf_86 rfl (nI_add i_1 1) (Nat.le_of_ble_eq_true rfl) rfl ?_
            refine z_goto (tgt := 3) B dX12_flowOf_89 rfl ?_
            refine z_lv [0, 1, 2, 3, 4, 5] rfl ?_
            exact ih1 (i_1 + 1) Φl1 (show 12 - (i_1 + 1) < 12 - i_1 by omega) ⟨hI1, (fun b9 h9 => ((hF1 b9 (fun j9 h8 h7 => (show False from h7).elim)).trans rfl)), (show (i_1 + 1) ≤ 12 by omega), (no_s b_2 (fun q9 => c_5 ((lg_cmp_eq _ _).mpr ((congrArg fC (nI_clamp (by omega))).trans q9.2.2.2)))), trivial⟩
          · refine z_iload B dX12_flowOf_83 0 rfl ?_
            exact z_ret_i B dX12_flowOf_85 ⟨(Or.inr ⟨i_1, by omega, ⟨(congrArg fC (nI_clamp (by omega))).symm.trans (lcmp_eq c_2), (congrArg fC (nI_clamp (by omega))).symm.trans (lcmp_eq c_3), (congrArg fC (nI_clamp (by omega))).symm.trans (lcmp_eq c_4), (congrArg fC (nI_clamp (by omega))).symm.trans (lcmp_eq c_5)⟩, rfl⟩), rfl, hI1, (fun b9 h9 => ((hF1 b9 (fun j9 h8 h7 => (show False from h7).elim)).trans rfl))⟩

theorem and255L (v : Int64) : ∃ n : Nat, n ≤ 255 ∧ (v &&& 255).toInt32 = nI n := by
  refine ⟨(v &&& 255).toBitVec.toNat, ?_, ?_⟩
  · show (v.toBitVec &&& (255 : Int64).toBitVec).toNat ≤ 255
    rw [BitVec.toNat_and]
    exact Nat.le_trans Nat.and_le_right (by decide)
  · have h : (v &&& 255).toBitVec.toNat ≤ 255 := by
      show (v.toBitVec &&& (255 : Int64).toBitVec).toNat ≤ 255
      rw [BitVec.toNat_and]
      exact Nat.le_trans Nat.and_le_right (by decide)
    generalize v &&& 255 = w at h
    have e : w = Int64.ofNat w.toBitVec.toNat := by
      apply Int64.toBitVec_inj.mp
      apply BitVec.eq_of_toNat_eq
      show w.toBitVec.toNat = (BitVec.ofNat 64 w.toBitVec.toNat).toNat
      rw [BitVec.toNat_ofNat]
      exact (Nat.mod_eq_of_lt w.toBitVec.isLt).symm
    have e2 := congrArg Int64.toInt32 e
    rw [ofL (by omega)] at e2
    exact e2
theorem shr8_all : ∀ v, v < 701 → nI v >>> ((8 : Int32) &&& 31) = nI (v / 256) := by decide +kernel
theorem shr8 {v : Nat} (h : v ≤ 700) : ∃ n : Nat, n ≤ 255 ∧ nI v >>> ((8 : Int32) &&& 31) = nI n := ⟨v / 256, by omega, shr8_all v (by omega)⟩
theorem and_dec {x : Int32} (h : ¬ x = 0) : (x &&& (x - 1)).toBitVec.toNat < x.toBitVec.toNat := by
  have h0 : x.toBitVec.toNat ≠ 0 := by
    intro e
    apply h
    apply Int32.toBitVec_inj.mp
    apply BitVec.eq_of_toNat_eq
    rw [e]
    rfl
  have h1 : (x &&& (x - 1)).toBitVec.toNat ≤ (x - 1).toBitVec.toNat := by
    show (x.toBitVec &&& (x - 1).toBitVec).toNat ≤ _
    rw [BitVec.toNat_and]
    exact Nat.and_le_right
  have h2 : (x - 1).toBitVec.toNat = x.toBitVec.toNat - 1 := by
    show (x.toBitVec - (1 : BitVec 32)).toNat = _
    rw [BitVec.toNat_sub]
    have h3 := x.toBitVec.isLt
    have h4 : (1 : BitVec 32).toNat = 1 := rfl
    rw [h4]
    omega
  omega

theorem hu_X12_put_X12 : ∀ w ∈ u_ws RX12 TX12 54, w ∈ wsX12_put := fun _ h => List.mem_cons_of_mem _ (List.mem_append_left _ (List.mem_append_right _ (h)))

theorem hv_X12_put_36 : Cond.fieldLink RX12 36 "FlowExporterModel" (TX12 22).2.1 (TX12 22).2.2.1 ∈ wsX12_put := List.mem_cons_of_mem _ (List.mem_append_left _ (List.mem_append_left _ (List.mem_of_getElem? (i := 0) rfl)))

theorem hv_X12_put_280 : Cond.fieldLink RX12 280 "FlowExporterModel" (TX12 23).2.1 (TX12 23).2.2.1 ∈ wsX12_put := List.mem_cons_of_mem _ (List.mem_append_left _ (List.mem_append_left _ (List.mem_of_getElem? (i := 1) rfl)))

set_option maxHeartbeats 4000000 in
set_option maxRecDepth 100000 in
theorem r_put (G : EnvG) (l : Launch) (Φ : Hm) (sz x : Nat) (rd : (Nat → Int32) → Prop) (nw : (Nat → Int32) → Prop) (cr : (Nat → Int64) → Prop) (tp : (Nat → Int32) → Prop) (tt : (Nat → Int64) → Prop) (sI : (Nat → Int32) → Prop) (sT : (Nat → Int32) → Prop) (pt : (Nat → Int32) → Prop) (ql : (Nat → Int32) → Prop) (fl : Nat) (pe : Nat) (le : Nat) (nx : Nat) (il : Nat) (qu : Nat) (kn : Int32) (ec : Int32) (nu : Int32) (va : Int64) (st : Nat) (ep : Int32) (ti : Int32) (ad : Int32) (ob : Int64) (ra : Int32) (rt : Nat) (ex : Int32) (sa : Int64) (us : Int64) (tk : Nat) (th : Int32) (me : Int32) (dr : Int32) (se : Int64) (sn : Int64) (a : Int64) (n : Nat) (hx : G.2.2.2 ≤ x) (hI : Im G x (rd, nw, cr, tp, tt, sI, sT, pt, ql, fl, pe, le, nx, il, qu, kn, ec, nu, va, st, ep, ti, ad, ob, ra, rt, ex, sa, us, tk, th, me, dr, se, sn) Φ) (hn : n ≤ 8) (hl : le + n ≤ 700) (hnw : ∀ f9 : Nat → Int32, nw f9 → NN f9) : Ct G l yX12_put wsX12_put ({ frames := 0, cells := 0, slots := 0, locals := 0 }) 0 0 [.ref x, .long a, .int (nI n)] Φ sz (fun v Φ1 sz1 => (v = none) ∧ sz1 = sz ∧ (∃ (le1 : Nat), (le1 = le + n) ∧ Im G x (rd, nw, cr, tp, tt, sI, sT, pt, ql, fl, pe, le1, nx, il, qu, kn, ec, nu, va, st, ep, ti, ad, ob, ra, rt, ex, sa, us, tk, th, me, dr, se, sn) Φ1) ∧ Fr x (fun j9 => j9 = 0 ∨ j9 = 8) Φ Φ1) := by
  refine Ct.of (cc := cX12_put) (maxL := 5) (ret := none) (by decide) rfl (Nat.le_of_ble_eq_true rfl) ?_
  intro p9 e9 s9 m9 w9 t9 k9 B
  show Z p9 l e9 _ s9 m9 _ w9 t9 k9 _ G 5 0 [(0, .ref x), (1, .long a), (3, .int (nI n))] [] Φ sz 0 0
  refine z_bipush (v := 8) B dX12_put_0 rfl ?_
  refine z_iload_n B dX12_put_2 rfl 2 rfl ?_
  refine z_imul B dX12_put_3 ?_
  refine z_top (st1 := [.int (nI (8 * n))]) (congrArg (fun w9 : Int32 => ([.int w9] : List Value)) (nI_mul 8 n)) ?_
  refine z_bipush (v := 8) B dX12_put_4 rfl ?_
  refine z_isub B dX12_put_6 ?_
  refine z_istore (lv' := [(4, .int (nI (8 * n) - 8)), (0, .ref x), (1, .long a), (3, .int (nI n))]) B dX12_put_7 (Nat.le_of_ble_eq_true rfl) rfl ?_
  refine z_lv [0, 1, 2, 3] rfl ?_
  refine z_loop (α := Nat × Nat) (fun (a9 : Nat × Nat) Φi => Im G x (rd, nw, cr, tp, tt, sI, sT, pt, ql, fl, pe, a9.2, nx, il, qu, kn, ec, nu, va, st, ep, ti, ad, ob, ra, rt, ex, sa, us, tk, th, me, dr, se, sn) Φi ∧ Fr x (fun j9 => j9 = 0 ∨ j9 = 8) Φ Φi ∧ (a9.1 ≤ 8) ∧ (a9.2 + a9.1 = le + n) ∧ True) (fun a9 => [(4, .int (nI (8 * (a9.1)) - 8)), (0, .ref x), (1, .long a), (3, .int (nI n))]) (fun a9 => a9.1) ?_ (n, le) ⟨hI, fun _ _ => rfl, (show n ≤ 8 by omega), (show le + n = le + n by omega), trivial⟩
  rintro ⟨i_1, i_2⟩ Φl1 ⟨hI1, hF1, b_1, b_2, -⟩ ih1
  replace hI1 : Im G x (rd, nw, cr, tp, tt, sI, sT, pt, ql, fl, pe, i_2, nx, il, qu, kn, ec, nu, va, st, ep, ti, ad, ob, ra, rt, ex, sa, us, tk, th, me, dr, se, sn) Φl1 := hI1
  replace b_1 : i_1 ≤ 8 := b_1
  replace b_2 : i_2 + i_1 = le + n := b_2
  show Z p9 l e9 _ s9 m9 _ w9 t9 k9 _ G 5 9 [(4, .int (nI (8 * i_1) - 8)), (0, .ref x), (1, .long a), (3, .int (nI n))] [] Φl1 _ _ _
  refine z_iload B dX12_put_9 0 rfl ?_
  refine z_if_lt (tgt := 48) B dX12_put_11 rfl (fun c_1 => ?_) (fun c_1 => ?_)
  · have e_1 : i_1 = 0 := (m8_lt (j := i_1) (by omega)).1 c_1
    exact z_ret_v B dX12_put_48 ⟨rfl, rfl, ⟨i_2, (show i_2 = le + n by omega), hI1⟩, (fun b9 h9 => ((hF1 b9 h9).trans rfl))⟩
  · have e_2 : 1 ≤ i_1 := (m8_lt (j := i_1) (by omega)).2 c_1
    refine z_aload_n B dX12_put_14 rfl 1 rfl ?_
    obtain ⟨n_1, v_1, n_2, h_1, b_15, b_3, b_4, b_5, b_6, b_7, b_8, b_9, b_10, b_11, b_12, b_13, b_14⟩ := im0 hI1
    replace b_3 : 1 ≤ rt := b_3
    replace b_4 : rt ≤ 1024 := b_4
    replace b_5 : fl ≤ 12 := b_5
    replace b_6 : pe ≤ 24 := b_6
    replace b_7 : i_2 ≤ 700 := b_7
    replace b_8 : qu ≤ 12 := b_8
    replace b_9 : n_1 ≤ 8 := b_9
    replace b_10 : n_2 ≤ 24 := b_10
    replace b_11 : tk ≤ 24 := b_11
    replace b_12 : il ≤ 700 := b_12
    replace b_13 : nx ≤ 701 := b_13
    replace b_14 : st ≤ 701 := b_14
    have h_2 : Φl1 x = some (o_ 14 [.int th, .ref (x + 1), .ref (x + 2), .int ti, .int ra, .int (nI rt), .int ex, .int ad, .ref (x + 3), .ref (x + 4), .int me, .long se, .ref (x + 5), .int (nI fl), .int dr, .long ob, .long sa, .long sn, .long us, .ref (x + 6), .ref (x + 7), .int (nI pe), .ref (x + 8), .int (nI i_2), .ref (x + 9), .ref (x + 10), .int (nI qu), .ref (x + 11), .ref (x + 12), .ref (x + 13), .ref (x + 14), .ref (x + 15), .ref (x + 16), .int (nI n_1), .long v_1, .ref (x + 17), .ref (x + 18), .ref (x + 19), .ref (x + 20), .ref (x + 21), .ref (x + 22), .int (nI n_2), .ref (x + 23), .ref (x + 24), .int (nI tk), .ref (x + 25), .int (nI il), .int (nI nx), .int ec, .int ep, .int kn, .int (nI st), .int nu, .long va]) := h_1
    refine z_get (ref := "FlowExporterModel") (C := RX12) (T := TX12) (N := 54) (ci := 14) (v := .ref (x + 8)) B hu_X12_put_X12 rfl 22 (Nat.le_of_ble_eq_true rfl) hv_X12_put_36 rfl h_2 rfl dX12_put_15 ?_
    refine z_aload_n B dX12_put_18 rfl 1 rfl ?_
    refine z_get (ref := "FlowExporterModel") (C := RX12) (T := TX12) (N := 54) (ci := 14) (v := .int (nI i_2)) B hu_X12_put_X12 rfl 23 (Nat.le_of_ble_eq_true rfl) hv_X12_put_280 rfl h_2 rfl dX12_put_19 ?_
    refine z_lload_n B dX12_put_22 rfl 2 rfl ?_
    refine z_iload B dX12_put_23 0 rfl ?_
    refine z_lshr (v := a >>> ((nI (8 * i_1) - 8 : Int32).toInt64 &&& 63)) B dX12_put_25 rfl ?_
    refine z_fl (fun v_2 => ?_)
    refine z_ldc2 (v := 255) B (by decide +kernel) dX12_put_26 ?_
    refine z_land B dX12_put_29 ?_
    refine z_l2i (v := (v_2 &&& 255).toInt32) B dX12_put_30 rfl ?_
    obtain ⟨n_3, b_16, e_3⟩ := and255L v_2
    refine z_top (st1 := [.int (nI n_3), .int (nI i_2), .ref (x + 8)]) (congrArg (fun w9 : Int32 => ([.int w9, .int (nI i_2), .ref (x + 8)] : List Value)) (e_3)) ?_
    obtain ⟨f_1, h_3, r_1⟩ := imk (k := 8) hI1
    replace r_1 : Rw 255 f_1 := r_1
    have h_4 : Φl1 (x + 8) = some (ai_ G 700 f_1) := h_3
    refine z_iast B h_4 (Nat.le_trans hx (Nat.le_add_right x 8)) (vp_in_nI (by omega) (by omega)) dX12_put_31 (fun Φ1 hΦ1 => ?_)
    have h_5 : Φ1 (x + 8) = some (ai_ G 700 (upd f_1 (nI i_2).toNatClampNeg (nI n_3))) := fset_at hΦ1
    have hI2 : Im G x (rd, nw, cr, tp, tt, sI, sT, pt, ql, fl, pe, i_2, nx, il, qu, kn, ec, nu, va, st, ep, ti, ad, ob, ra, rt, ex, sa, us, tk, th, me, dr, se, sn) Φ1 := Im.put (k := 8) hI1 hΦ1 ⟨_, rfl, Rw.up (n := n_3) r_1 (show n_3 ≤ 255 by omega)⟩
    refine z_aload_n B dX12_put_32 rfl 1 rfl ?_
    refine z_dup B dX12_put_33 rfl ?_
    have h_6 : Φ1 x = some (o_ 14 [.int th, .ref (x + 1), .ref (x + 2), .int ti, .int ra, .int (nI rt), .int ex, .int ad, .ref (x + 3), .ref (x + 4), .int me, .long se, .ref (x + 5), .int (nI fl), .int dr, .long ob, .long sa, .long sn, .long us, .ref (x + 6), .ref (x + 7), .int (nI pe), .ref (x + 8), .int (nI i_2), .ref (x + 9), .ref (x + 10), .int (nI qu), .ref (x + 11), .ref (x + 12), .ref (x + 13), .ref (x + 14), .ref (x + 15), .ref (x + 16), .int (nI n_1), .long v_1, .ref (x + 17), .ref (x + 18), .ref (x + 19), .ref (x + 20), .ref (x + 21), .ref (x + 22), .int (nI n_2), .ref (x + 23), .ref (x + 24), .int (nI tk), .ref (x + 25), .int (nI il), .int (nI nx), .int ec, .int ep, .int kn, .int (nI st), .int nu, .long va]) := ((fset_fr hΦ1 (ne_off (x := x) (i := 0) (j := 8) rfl)).trans h_2)
    refine z_get (ref := "FlowExporterModel") (C := RX12) (T := TX12) (N := 54) (ci := 14) (v := .int (nI i_2)) B hu_X12_put_X12 rfl 23 (Nat.le_of_ble_eq_true rfl) hv_X12_put_280 rfl h_6 rfl dX12_put_34 ?_
    refine z_iconst (v := 1) B dX12_put_37 rfl ?_
    refine z_iadd B dX12_put_38 ?_
    refine z_top (st1 := [.int (nI (i_2 + 1)), .ref x]) (congrArg (fun w9 : Int32 => ([.int w9, .ref x] : List Value)) (nI_add i_2 1)) ?_
    refine z_put (ref := "FlowExporterModel") (C := RX12) (T := TX12) (N := 54) (ci := 14) (v := .int (nI (i_2 + 1))) B hu_X12_put_X12 tyX12 tyX12_ok nmX12 rfl 23 (Nat.le_of_ble_eq_true rfl) hv_X12_put_280 rfl (Or.inl rfl) h_6 hx rfl rfl (Nat.le_of_ble_eq_true rfl) dX12_put_39 (fun Φ2 hΦ2 => ?_)
    have h_7 : Φ2 x = some (o_ 14 [.int th, .ref (x + 1), .ref (x + 2), .int ti, .int ra, .int (nI rt), .int ex, .int ad, .ref (x + 3), .ref (x + 4), .int me, .long se, .ref (x + 5), .int (nI fl), .int dr, .long ob, .long sa, .long sn, .long us, .ref (x + 6), .ref (x + 7), .int (nI pe), .ref (x + 8), .int (nI (i_2 + 1)), .ref (x + 9), .ref (x + 10), .int (nI qu), .ref (x + 11), .ref (x + 12), .ref (x + 13), .ref (x + 14), .ref (x + 15), .ref (x + 16), .int (nI n_1), .long v_1, .ref (x + 17), .ref (x + 18), .ref (x + 19), .ref (x + 20), .ref (x + 21), .ref (x + 22), .int (nI n_2), .ref (x + 23), .ref (x + 24), .int (nI tk), .ref (x + 25), .int (nI il), .int (nI nx), .int ec, .int ep, .int kn, .int (nI st), .int nu, .long va]) := fset_at hΦ2
    have hI3 : Im G x (rd, nw, cr, tp, tt, sI, sT, pt, ql, fl, pe, i_2 + 1, nx, il, qu, kn, ec, nu, va, st, ep, ti, ad, ob, ra, rt, ex, sa, us, tk, th, me, dr, se, sn) Φ2 := Im.put0 hI2 hΦ2 ⟨n_1, v_1, n_2, rfl, b_15, b_3, b_4, b_5, b_6, (show (i_2 + 1) ≤ 700 by omega), b_8, b_9, b_10, b_11, b_12, b_13, b_14⟩
    refine z_iinc (k := 0) (v := nI (8 * (i_1 - 1)) - 8) (lv' := [(4, .int (nI (8 * (i_1 - 1)) - 8)), (0, .ref x), (1, .long a), (3, .int (nI n))]) B dX12_put_42 rfl (m8_dec (show 1 ≤ i_1 by omega)) (Nat.le_of_ble_eq_true rfl) rfl ?_
    refine z_goto (tgt := 9) B dX12_put_45 rfl ?_
    refine z_lv [0, 1, 2, 3] rfl ?_
    exact ih1 (i_1 - 1, i_2 + 1) Φ2 (show (i_1 - 1) < i_1 by omega) ⟨hI3, (fun b9 h9 => ((fset_fr hΦ2 (fun h8 => h9 (0) h8 (show 0 = 0 ∨ 0 = 8 by decide))).trans ((fset_fr hΦ1 (fun h8 => h9 (8) h8 (show 8 = 0 ∨ 8 = 8 by decide))).trans ((hF1 b9 h9).trans rfl)))), (show (i_1 - 1) ≤ 8 by omega), (show (i_2 + 1) + (i_1 - 1) = le + n by omega), trivial⟩

theorem hu_X12_putAt_X12 : ∀ w ∈ u_ws RX12 TX12 54, w ∈ wsX12_putAt := fun _ h => List.mem_cons_of_mem _ (List.mem_append_left _ (List.mem_append_right _ (h)))

theorem hv_X12_putAt_36 : Cond.fieldLink RX12 36 "FlowExporterModel" (TX12 22).2.1 (TX12 22).2.2.1 ∈ wsX12_putAt := List.mem_cons_of_mem _ (List.mem_append_left _ (List.mem_append_left _ (List.mem_of_getElem? (i := 0) rfl)))

set_option maxHeartbeats 4000000 in
set_option maxRecDepth 100000 in
theorem r_putAt (G : EnvG) (l : Launch) (Φ : Hm) (sz x : Nat) (rd : (Nat → Int32) → Prop) (nw : (Nat → Int32) → Prop) (cr : (Nat → Int64) → Prop) (tp : (Nat → Int32) → Prop) (tt : (Nat → Int64) → Prop) (sI : (Nat → Int32) → Prop) (sT : (Nat → Int32) → Prop) (pt : (Nat → Int32) → Prop) (ql : (Nat → Int32) → Prop) (fl : Nat) (pe : Nat) (le : Nat) (nx : Nat) (il : Nat) (qu : Nat) (kn : Int32) (ec : Int32) (nu : Int32) (va : Int64) (st : Nat) (ep : Int32) (ti : Int32) (ad : Int32) (ob : Int64) (ra : Int32) (rt : Nat) (ex : Int32) (sa : Int64) (us : Int64) (tk : Nat) (th : Int32) (me : Int32) (dr : Int32) (se : Int64) (sn : Int64) (a : Nat) (b : Nat) (hx : G.2.2.2 ≤ x) (hI : Im G x (rd, nw, cr, tp, tt, sI, sT, pt, ql, fl, pe, le, nx, il, qu, kn, ec, nu, va, st, ep, ti, ad, ob, ra, rt, ex, sa, us, tk, th, me, dr, se, sn) Φ) (ha : a + 1 < 700) (hb : b ≤ 700) (hnw : ∀ f9 : Nat → Int32, nw f9 → NN f9) : Ct G l yX12_putAt wsX12_putAt ({ frames := 0, cells := 0, slots := 0, locals := 0 }) 0 0 [.ref x, .int (nI a), .int (nI b)] Φ sz (fun v Φ1 sz1 => (v = none) ∧ sz1 = sz ∧ (Im G x (rd, nw, cr, tp, tt, sI, sT, pt, ql, fl, pe, le, nx, il, qu, kn, ec, nu, va, st, ep, ti, ad, ob, ra, rt, ex, sa, us, tk, th, me, dr, se, sn) Φ1) ∧ Fr x (fun j9 => j9 = 8) Φ Φ1) := by
  refine Ct.of (cc := cX12_putAt) (maxL := 3) (ret := none) (by decide) rfl (Nat.le_of_ble_eq_true rfl) ?_
  intro p9 e9 s9 m9 w9 t9 k9 B
  show Z p9 l e9 _ s9 m9 _ w9 t9 k9 _ G 3 0 [(0, .ref x), (1, .int (nI a)), (2, .int (nI b))] [] Φ sz 0 0
  refine z_aload_n B dX12_putAt_0 rfl 0 rfl ?_
  obtain ⟨n_1, v_1, n_2, h_1, b_13, b_1, b_2, b_3, b_4, b_5, b_6, b_7, b_8, b_9, b_10, b_11, b_12⟩ := im0 hI
  replace b_1 : 1 ≤ rt := b_1
  replace b_2 : rt ≤ 1024 := b_2
  replace b_3 : fl ≤ 12 := b_3
  replace b_4 : pe ≤ 24 := b_4
  replace b_5 : le ≤ 700 := b_5
  replace b_6 : qu ≤ 12 := b_6
  replace b_7 : n_1 ≤ 8 := b_7
  replace b_8 : n_2 ≤ 24 := b_8
  replace b_9 : tk ≤ 24 := b_9
  replace b_10 : il ≤ 700 := b_10
  replace b_11 : nx ≤ 701 := b_11
  replace b_12 : st ≤ 701 := b_12
  have h_2 : Φ x = some (o_ 14 [.int th, .ref (x + 1), .ref (x + 2), .int ti, .int ra, .int (nI rt), .int ex, .int ad, .ref (x + 3), .ref (x + 4), .int me, .long se, .ref (x + 5), .int (nI fl), .int dr, .long ob, .long sa, .long sn, .long us, .ref (x + 6), .ref (x + 7), .int (nI pe), .ref (x + 8), .int (nI le), .ref (x + 9), .ref (x + 10), .int (nI qu), .ref (x + 11), .ref (x + 12), .ref (x + 13), .ref (x + 14), .ref (x + 15), .ref (x + 16), .int (nI n_1), .long v_1, .ref (x + 17), .ref (x + 18), .ref (x + 19), .ref (x + 20), .ref (x + 21), .ref (x + 22), .int (nI n_2), .ref (x + 23), .ref (x + 24), .int (nI tk), .ref (x + 25), .int (nI il), .int (nI nx), .int ec, .int ep, .int kn, .int (nI st), .int nu, .long va]) := h_1
  refine z_get (ref := "FlowExporterModel") (C := RX12) (T := TX12) (N := 54) (ci := 14) (v := .ref (x + 8)) B hu_X12_putAt_X12 rfl 22 (Nat.le_of_ble_eq_true rfl) hv_X12_putAt_36 rfl h_2 rfl dX12_putAt_1 ?_
  refine z_iload_n B dX12_putAt_4 rfl 1 rfl ?_
  refine z_iload_n B dX12_putAt_5 rfl 2 rfl ?_
  refine z_bipush (v := 8) B dX12_putAt_6 rfl ?_
  refine z_ishr B dX12_putAt_8 ?_
  obtain ⟨n_3, b_14, e_1⟩ := shr8 (v := b) (by omega)
  refine z_top (st1 := [.int (nI n_3), .int (nI a), .ref (x + 8)]) (congrArg (fun w9 : Int32 => ([.int w9, .int (nI a), .ref (x + 8)] : List Value)) (e_1)) ?_
  obtain ⟨f_1, h_3, r_1⟩ := imk (k := 8) hI
  replace r_1 : Rw 255 f_1 := r_1
  have h_4 : Φ (x + 8) = some (ai_ G 700 f_1) := h_3
  refine z_iast B h_4 (Nat.le_trans hx (Nat.le_add_right x 8)) (vp_in_nI (by omega) (by omega)) dX12_putAt_9 (fun Φ1 hΦ1 => ?_)
  have h_5 : Φ1 (x + 8) = some (ai_ G 700 (upd f_1 (nI a).toNatClampNeg (nI n_3))) := fset_at hΦ1
  have hI1 : Im G x (rd, nw, cr, tp, tt, sI, sT, pt, ql, fl, pe, le, nx, il, qu, kn, ec, nu, va, st, ep, ti, ad, ob, ra, rt, ex, sa, us, tk, th, me, dr, se, sn) Φ1 := Im.put (k := 8) hI hΦ1 ⟨_, rfl, Rw.up (n := n_3) r_1 (show n_3 ≤ 255 by omega)⟩
  refine z_aload_n B dX12_putAt_10 rfl 0 rfl ?_
  have h_6 : Φ1 x = some (o_ 14 [.int th, .ref (x + 1), .ref (x + 2), .int ti, .int ra, .int (nI rt), .int ex, .int ad, .ref (x + 3), .ref (x + 4), .int me, .long se, .ref (x + 5), .int (nI fl), .int dr, .long ob, .long sa, .long sn, .long us, .ref (x + 6), .ref (x + 7), .int (nI pe), .ref (x + 8), .int (nI le), .ref (x + 9), .ref (x + 10), .int (nI qu), .ref (x + 11), .ref (x + 12), .ref (x + 13), .ref (x + 14), .ref (x + 15), .ref (x + 16), .int (nI n_1), .long v_1, .ref (x + 17), .ref (x + 18), .ref (x + 19), .ref (x + 20), .ref (x + 21), .ref (x + 22), .int (nI n_2), .ref (x + 23), .ref (x + 24), .int (nI tk), .ref (x + 25), .int (nI il), .int (nI nx), .int ec, .int ep, .int kn, .int (nI st), .int nu, .long va]) := ((fset_fr hΦ1 (ne_off (x := x) (i := 0) (j := 8) rfl)).trans h_2)
  refine z_get (ref := "FlowExporterModel") (C := RX12) (T := TX12) (N := 54) (ci := 14) (v := .ref (x + 8)) B hu_X12_putAt_X12 rfl 22 (Nat.le_of_ble_eq_true rfl) hv_X12_putAt_36 rfl h_6 rfl dX12_putAt_11 ?_
  refine z_iload_n B dX12_putAt_14 rfl 1 rfl ?_
  refine z_iconst (v := 1) B dX12_putAt_15 rfl ?_
  refine z_iadd B dX12_putAt_16 ?_
  refine z_top (st1 := [.int (nI (a + 1)), .ref (x + 8)]) (congrArg (fun w9 : Int32 => ([.int w9, .ref (x + 8)] : List Value)) (nI_add a 1)) ?_
  refine z_iload_n B dX12_putAt_17 rfl 2 rfl ?_
  refine z_sipush (v := 255) B dX12_putAt_18 rfl ?_
  refine z_iand B dX12_putAt_21 ?_
  obtain ⟨n_4, b_15, e_2⟩ := and255 (nI b)
  refine z_top (st1 := [.int (nI n_4), .int (nI (a + 1)), .ref (x + 8)]) (congrArg (fun w9 : Int32 => ([.int w9, .int (nI (a + 1)), .ref (x + 8)] : List Value)) (e_2)) ?_
  obtain ⟨f_2, h_7, r_2⟩ := imk (k := 8) hI1
  replace r_2 : Rw 255 f_2 := r_2
  have h_8 : Φ1 (x + 8) = some (ai_ G 700 f_2) := h_7
  refine z_iast B h_8 (Nat.le_trans hx (Nat.le_add_right x 8)) (vp_in_nI (by omega) (by omega)) dX12_putAt_22 (fun Φ2 hΦ2 => ?_)
  have h_9 : Φ2 (x + 8) = some (ai_ G 700 (upd f_2 (nI (a + 1)).toNatClampNeg (nI n_4))) := fset_at hΦ2
  have hI2 : Im G x (rd, nw, cr, tp, tt, sI, sT, pt, ql, fl, pe, le, nx, il, qu, kn, ec, nu, va, st, ep, ti, ad, ob, ra, rt, ex, sa, us, tk, th, me, dr, se, sn) Φ2 := Im.put (k := 8) hI1 hΦ2 ⟨_, rfl, Rw.up (n := n_4) r_2 (show n_4 ≤ 255 by omega)⟩
  exact z_ret_v B dX12_putAt_23 ⟨rfl, rfl, hI2, (fun b9 h9 => ((fset_fr hΦ2 (fun h8 => h9 (8) h8 (show 8 = 8 by decide))).trans ((fset_fr hΦ1 (fun h8 => h9 (8) h8 (show 8 = 8 by decide))).trans rfl)))⟩

set_option maxHeartbeats 4000000 in
set_option maxRecDepth 100000 in
theorem r_bitCount (G : EnvG) (l : Launch) (Φ : Hm) (sz x : Nat) (rd : (Nat → Int32) → Prop) (nw : (Nat → Int32) → Prop) (cr : (Nat → Int64) → Prop) (tp : (Nat → Int32) → Prop) (tt : (Nat → Int64) → Prop) (sI : (Nat → Int32) → Prop) (sT : (Nat → Int32) → Prop) (pt : (Nat → Int32) → Prop) (ql : (Nat → Int32) → Prop) (fl : Nat) (pe : Nat) (le : Nat) (nx : Nat) (il : Nat) (qu : Nat) (kn : Int32) (ec : Int32) (nu : Int32) (va : Int64) (st : Nat) (ep : Int32) (ti : Int32) (ad : Int32) (ob : Int64) (ra : Int32) (rt : Nat) (ex : Int32) (sa : Int64) (us : Int64) (tk : Nat) (th : Int32) (me : Int32) (dr : Int32) (se : Int64) (sn : Int64) (a : Int32) (hx : G.2.2.2 ≤ x) (hI : Im G x (rd, nw, cr, tp, tt, sI, sT, pt, ql, fl, pe, le, nx, il, qu, kn, ec, nu, va, st, ep, ti, ad, ob, ra, rt, ex, sa, us, tk, th, me, dr, se, sn) Φ) (hnw : ∀ f9 : Nat → Int32, nw f9 → NN f9) : Ct G l yX12_bitCount wsX12_bitCount ({ frames := 0, cells := 0, slots := 0, locals := 0 }) 0 0 [.int a] Φ sz (fun v Φ1 sz1 => (∃ r9 : Int32, v = some (.int r9)) ∧ sz1 = sz ∧ (Im G x (rd, nw, cr, tp, tt, sI, sT, pt, ql, fl, pe, le, nx, il, qu, kn, ec, nu, va, st, ep, ti, ad, ob, ra, rt, ex, sa, us, tk, th, me, dr, se, sn) Φ1) ∧ Fr x (fun j9 => False) Φ Φ1) := by
  refine Ct.of (cc := cX12_bitCount) (maxL := 3) (ret := (some .int)) (by decide) rfl (Nat.le_of_ble_eq_true rfl) ?_
  intro p9 e9 s9 m9 w9 t9 k9 B
  show Z p9 l e9 _ s9 m9 _ w9 t9 k9 _ G 3 0 [(0, .int a)] [] Φ sz 0 0
  refine z_iconst (v := 0) B dX12_bitCount_0 rfl ?_
  refine z_istore_n (lv' := [(1, .int 0), (0, .int a)]) B dX12_bitCount_1 rfl (Nat.le_of_ble_eq_true rfl) rfl ?_
  refine z_iload_n B dX12_bitCount_2 rfl 1 rfl ?_
  refine z_istore_n (lv' := [(2, .int a), (1, .int 0), (0, .int a)]) B dX12_bitCount_3 rfl (Nat.le_of_ble_eq_true rfl) rfl ?_
  refine z_lv [0, 1, 2] rfl ?_
  refine z_loop (α := Int32 × Int32) (fun (a9 : Int32 × Int32) Φi => Im G x (rd, nw, cr, tp, tt, sI, sT, pt, ql, fl, pe, le, nx, il, qu, kn, ec, nu, va, st, ep, ti, ad, ob, ra, rt, ex, sa, us, tk, th, me, dr, se, sn) Φi ∧ Fr x (fun j9 => False) Φ Φi ∧ True) (fun a9 => [(2, .int a9.1), (1, .int a9.2), (0, .int a)]) (fun a9 => (a9.1).toBitVec.toNat) ?_ (a, 0) ⟨hI, fun _ _ => rfl, trivial⟩
  rintro ⟨i_1, i_2⟩ Φl1 ⟨hI1, hF1, -⟩ ih1
  replace hI1 : Im G x (rd, nw, cr, tp, tt, sI, sT, pt, ql, fl, pe, le, nx, il, qu, kn, ec, nu, va, st, ep, ti, ad, ob, ra, rt, ex, sa, us, tk, th, me, dr, se, sn) Φl1 := hI1
  show Z p9 l e9 _ s9 m9 _ w9 t9 k9 _ G 3 4 [(2, .int i_1), (1, .int i_2), (0, .int a)] [] Φl1 _ _ _
  refine z_iload_n B dX12_bitCount_4 rfl 0 rfl ?_
  refine z_if_eq (tgt := 20) B dX12_bitCount_5 rfl (fun c_1 => ?_) (fun c_1 => ?_)
  · refine z_iload_n B dX12_bitCount_20 rfl 1 rfl ?_
    exact z_ret_i B dX12_bitCount_21 ⟨⟨_, rfl⟩, rfl, hI1, (fun b9 h9 => ((hF1 b9 (fun j9 h8 h7 => (show False from h7).elim)).trans rfl))⟩
  · refine z_iinc (k := 1) (v := i_2 + 1) (lv' := [(1, .int (i_2 + 1)), (2, .int i_1), (0, .int a)]) B dX12_bitCount_8 rfl rfl (Nat.le_of_ble_eq_true rfl) rfl ?_
    refine z_iload_n B dX12_bitCount_11 rfl 1 rfl ?_
    refine z_iload_n B dX12_bitCount_12 rfl 1 rfl ?_
    refine z_iconst (v := 1) B dX12_bitCount_13 rfl ?_
    refine z_isub B dX12_bitCount_14 ?_
    refine z_iand B dX12_bitCount_15 ?_
    refine z_istore_n (lv' := [(2, .int (i_1 &&& (i_1 - 1))), (1, .int (i_2 + 1)), (0, .int a)]) B dX12_bitCount_16 rfl (Nat.le_of_ble_eq_true rfl) rfl ?_
    refine z_goto (tgt := 4) B dX12_bitCount_17 rfl ?_
    refine z_lv [0, 1, 2] rfl ?_
    exact ih1 (i_1 &&& (i_1 - 1), i_2 + 1) Φl1 (and_dec c_1) ⟨hI1, (fun b9 h9 => ((hF1 b9 (fun j9 h8 h7 => (show False from h7).elim)).trans rfl)), trivial⟩

theorem hu_X12_putTemplate_X12 : ∀ w ∈ u_ws RX12 TX12 54, w ∈ wsX12_putTemplate := fun _ h => List.mem_cons_of_mem _ (List.mem_append_left _ (List.mem_append_right _ (h)))

theorem hv_X12_putTemplate_20 : Cond.fieldLink RX12 20 "FlowExporterModel" (TX12 8).2.1 (TX12 8).2.2.1 ∈ wsX12_putTemplate := List.mem_cons_of_mem _ (List.mem_append_left _ (List.mem_append_left _ (List.mem_append_left _ (List.mem_of_getElem? (i := 0) rfl))))

theorem hv_X12_putTemplate_142 : Cond.fieldLink RX12 142 "FlowExporterModel" (TX12 10).2.1 (TX12 10).2.2.1 ∈ wsX12_putTemplate := List.mem_cons_of_mem _ (List.mem_append_left _ (List.mem_append_left _ (List.mem_append_left _ (List.mem_of_getElem? (i := 1) rfl))))

theorem hv_X12_putTemplate_23 : Cond.fieldLink RX12 23 "FlowExporterModel" (TX12 9).2.1 (TX12 9).2.2.1 ∈ wsX12_putTemplate := List.mem_cons_of_mem _ (List.mem_append_left _ (List.mem_append_left _ (List.mem_append_left _ (List.mem_of_getElem? (i := 2) rfl))))

theorem hv_X12_putTemplate_101 : Cond.fieldLink RX12 101 "FlowExporterModel" (TX12 3).2.1 (TX12 3).2.2.1 ∈ wsX12_putTemplate := List.mem_cons_of_mem _ (List.mem_append_left _ (List.mem_append_left _ (List.mem_append_left _ (List.mem_of_getElem? (i := 3) rfl))))

theorem fq_957 : ∀ j9 : Nat, (j9 = 0 ∨ j9 = 8) → (j9 = 0 ∨ j9 = 3 ∨ j9 = 4 ∨ j9 = 8) := by
  intro j9 h
  omega

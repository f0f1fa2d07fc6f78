set_option maxRecDepth 20000 in
theorem ggX12_appendRecord_X12_sizeOf : GoodIn wsX12_appendRecord wsX12_sizeOf := goodIn_ca ((goodIn_ca (goodIn_r _ [9, 10] rfl (by decide +kernel)) (goodIn_sub (fun _ h => List.mem_cons_of_mem _ (List.mem_append_left _ (List.mem_append_right _ h))) gw_wsX120))) (goodIn_sub (fun _ h => List.mem_cons_of_mem _ (List.mem_append_right _ h)) (all_fg _))
set_option maxRecDepth 20000 in
theorem gX12_appendRecord_X12_sizeOf : GoodIn wsX12_appendRecord (wsV RX12 173 RX12 yX12_sizeOf wsX12_sizeOf) := goodIn_app (goodIn_m (mem_cA (List.mem_cons_of_mem _ (List.mem_append_left _ (List.mem_append_left _ (List.mem_append_left _ (List.mem_of_getElem? (i := 4) rfl))))) (mem_cA (List.mem_cons_of_mem _ (List.mem_append_left _ (List.mem_append_left _ (List.mem_append_left _ (List.mem_of_getElem? (i := 5) rfl))))) (mem_cA (List.mem_cons_of_mem _ (List.mem_append_left _ (List.mem_append_left _ (List.mem_append_left _ (List.mem_of_getElem? (i := 6) rfl))))) (mem_cA (List.mem_cons_of_mem _ (List.mem_append_left _ (List.mem_append_left _ (List.mem_append_left _ (List.mem_of_getElem? (i := 7) rfl))))) mem_cZ)))) (by decide +kernel)) ggX12_appendRecord_X12_sizeOf
set_option maxRecDepth 20000 in
theorem ggX12_appendRecord_X12_fieldOf : GoodIn wsX12_appendRecord wsX12_fieldOf := goodIn_ca ((goodIn_ca (goodIn_r _ [14, 10] rfl (by decide +kernel)) (goodIn_sub (fun _ h => List.mem_cons_of_mem _ (List.mem_append_left _ (List.mem_append_right _ h))) gw_wsX120))) (goodIn_sub (fun _ h => List.mem_cons_of_mem _ (List.mem_append_right _ h)) (all_fg _))
set_option maxRecDepth 20000 in
theorem gX12_appendRecord_X12_fieldOf : GoodIn wsX12_appendRecord (wsV RX12 177 RX12 yX12_fieldOf wsX12_fieldOf) := goodIn_app (goodIn_m (mem_cA (List.mem_cons_of_mem _ (List.mem_append_left _ (List.mem_append_left _ (List.mem_append_left _ (List.mem_of_getElem? (i := 10) rfl))))) (mem_cA (List.mem_cons_of_mem _ (List.mem_append_left _ (List.mem_append_left _ (List.mem_append_left _ (List.mem_of_getElem? (i := 11) rfl))))) (mem_cA (List.mem_cons_of_mem _ (List.mem_append_left _ (List.mem_append_left _ (List.mem_append_left _ (List.mem_of_getElem? (i := 12) rfl))))) (mem_cA (List.mem_cons_of_mem _ (List.mem_append_left _ (List.mem_append_left _ (List.mem_append_left _ (List.mem_of_getElem? (i := 7) rfl))))) mem_cZ)))) (by decide +kernel)) ggX12_appendRecord_X12_fieldOf
set_option maxRecDepth 20000 in
theorem ggX12_appendRecord_X12_isSupported : GoodIn wsX12_appendRecord wsX12_isSupported := goodIn_ca ((goodIn_ca (goodIn_r _ [18, 10] rfl (by decide +kernel)) (goodIn_sub (fun _ h => List.mem_cons_of_mem _ (List.mem_append_left _ (List.mem_append_right _ h))) gw_wsX120))) (goodIn_sub (fun _ h => List.mem_cons_of_mem _ (List.mem_append_right _ h)) (all_fg _))
set_option maxRecDepth 20000 in
theorem gX12_appendRecord_X12_isSupported : GoodIn wsX12_appendRecord (wsV RX12 206 RX12 yX12_isSupported wsX12_isSupported) := goodIn_app (goodIn_m (mem_cA (List.mem_cons_of_mem _ (List.mem_append_left _ (List.mem_append_left _ (List.mem_append_left _ (List.mem_of_getElem? (i := 14) rfl))))) (mem_cA (List.mem_cons_of_mem _ (List.mem_append_left _ (List.mem_append_left _ (List.mem_append_left _ (List.mem_of_getElem? (i := 15) rfl))))) (mem_cA (List.mem_cons_of_mem _ (List.mem_append_left _ (List.mem_append_left _ (List.mem_append_left _ (List.mem_of_getElem? (i := 16) rfl))))) (mem_cA (List.mem_cons_of_mem _ (List.mem_append_left _ (List.mem_append_left _ (List.mem_append_left _ (List.mem_of_getElem? (i := 7) rfl))))) mem_cZ)))) (by decide +kernel)) ggX12_appendRecord_X12_isSupported
set_option maxRecDepth 20000 in
theorem ggX12_appendRecord_X12_lengthOf : GoodIn wsX12_appendRecord wsX12_lengthOf := (goodIn_r _ [21] rfl (by decide +kernel))
set_option maxRecDepth 20000 in
theorem gX12_appendRecord_X12_lengthOf : GoodIn wsX12_appendRecord (va_wsS RX12 195 yX12_lengthOf wsX12_lengthOf) := goodIn_app (goodIn_m (mem_cA (List.mem_cons_of_mem _ (List.mem_append_left _ (List.mem_append_left _ (List.mem_append_left _ (List.mem_of_getElem? (i := 18) rfl))))) (mem_cA (List.mem_cons_of_mem _ (List.mem_append_left _ (List.mem_append_left _ (List.mem_append_left _ (List.mem_of_getElem? (i := 19) rfl))))) (mem_cA (List.mem_cons_of_mem _ (List.mem_append_left _ (List.mem_append_left _ (List.mem_append_left _ (List.mem_of_getElem? (i := 7) rfl))))) mem_cZ))) (by decide +kernel)) ggX12_appendRecord_X12_lengthOf
set_option maxRecDepth 20000 in
theorem ggX12_appendRecord_X12_contentOf : GoodIn wsX12_appendRecord wsX12_contentOf := goodIn_ca ((goodIn_ca (goodIn_r _ [25, 26, 27, 28, 29, 30, 31, 32, 33, 34, 35, 36, 37, 38, 39] rfl (by decide +kernel)) (goodIn_sub (fun _ h => List.mem_cons_of_mem _ (List.mem_append_left _ (List.mem_append_right _ h))) gw_wsX120))) (goodIn_sub (fun _ h => List.mem_cons_of_mem _ (List.mem_append_right _ h)) (all_fg _))
set_option maxRecDepth 20000 in
theorem gX12_appendRecord_X12_contentOf : GoodIn wsX12_appendRecord (wsV RX12 214 RX12 yX12_contentOf wsX12_contentOf) := goodIn_app (goodIn_m (mem_cA (List.mem_cons_of_mem _ (List.mem_append_left _ (List.mem_append_left _ (List.mem_append_left _ (List.mem_of_getElem? (i := 21) rfl))))) (mem_cA (List.mem_cons_of_mem _ (List.mem_append_left _ (List.mem_append_left _ (List.mem_append_left _ (List.mem_of_getElem? (i := 22) rfl))))) (mem_cA (List.mem_cons_of_mem _ (List.mem_append_left _ (List.mem_append_left _ (List.mem_append_left _ (List.mem_of_getElem? (i := 23) rfl))))) (mem_cA (List.mem_cons_of_mem _ (List.mem_append_left _ (List.mem_append_left _ (List.mem_append_left _ (List.mem_of_getElem? (i := 7) rfl))))) mem_cZ)))) (by decide +kernel)) ggX12_appendRecord_X12_contentOf
theorem dX12_appendRecord_0 : decode cX12_appendRecord 0 = .ok (.bipush 30, 2) := by decide +kernel
theorem dX12_appendRecord_2 : decode cX12_appendRecord 2 = .ok (.aload_n 0, 1) := by decide +kernel
theorem dX12_appendRecord_3 : decode cX12_appendRecord 3 = .ok (.getfield 136, 3) := by decide +kernel
theorem dX12_appendRecord_6 : decode cX12_appendRecord 6 = .ok (.imul, 1) := by decide +kernel
theorem dX12_appendRecord_7 : decode cX12_appendRecord 7 = .ok (.istore_n 3, 1) := by decide +kernel
theorem dX12_appendRecord_8 : decode cX12_appendRecord 8 = .ok (.iconst 0, 1) := by decide +kernel
theorem dX12_appendRecord_9 : decode cX12_appendRecord 9 = .ok (.istore 4, 2) := by decide +kernel
theorem dX12_appendRecord_11 : decode cX12_appendRecord 11 = .ok (.iload 4, 2) := by decide +kernel
theorem dX12_appendRecord_13 : decode cX12_appendRecord 13 = .ok (.aload_n 0, 1) := by decide +kernel
theorem dX12_appendRecord_14 : decode cX12_appendRecord 14 = .ok (.iload_n 2, 1) := by decide +kernel
theorem dX12_appendRecord_15 : decode cX12_appendRecord 15 = .ok (.invokevirtual 173, 3) := by decide +kernel
theorem dX12_appendRecord_18 : decode cX12_appendRecord 18 = .ok (.if_icmp .ge 78, 3) := by decide +kernel
theorem dX12_appendRecord_21 : decode cX12_appendRecord 21 = .ok (.aload_n 0, 1) := by decide +kernel
theorem dX12_appendRecord_22 : decode cX12_appendRecord 22 = .ok (.iload_n 2, 1) := by decide +kernel
theorem dX12_appendRecord_23 : decode cX12_appendRecord 23 = .ok (.iload 4, 2) := by decide +kernel
theorem dX12_appendRecord_25 : decode cX12_appendRecord 25 = .ok (.invokevirtual 177, 3) := by decide +kernel
theorem dX12_appendRecord_28 : decode cX12_appendRecord 28 = .ok (.istore 5, 2) := by decide +kernel
theorem dX12_appendRecord_30 : decode cX12_appendRecord 30 = .ok (.aload_n 0, 1) := by decide +kernel
theorem dX12_appendRecord_31 : decode cX12_appendRecord 31 = .ok (.iload 5, 2) := by decide +kernel
theorem dX12_appendRecord_33 : decode cX12_appendRecord 33 = .ok (.invokevirtual 206, 3) := by decide +kernel
theorem dX12_appendRecord_36 : decode cX12_appendRecord 36 = .ok (.ifCond .ne 6, 3) := by decide +kernel
theorem dX12_appendRecord_39 : decode cX12_appendRecord 39 = .ok (.goto 51, 3) := by decide +kernel
theorem dX12_appendRecord_42 : decode cX12_appendRecord 42 = .ok (.bipush 8, 2) := by decide +kernel
theorem dX12_appendRecord_44 : decode cX12_appendRecord 44 = .ok (.iload 5, 2) := by decide +kernel
theorem dX12_appendRecord_46 : decode cX12_appendRecord 46 = .ok (.invokestatic 195, 3) := by decide +kernel
theorem dX12_appendRecord_49 : decode cX12_appendRecord 49 = .ok (.imul, 1) := by decide +kernel
theorem dX12_appendRecord_50 : decode cX12_appendRecord 50 = .ok (.bipush 8, 2) := by decide +kernel
theorem dX12_appendRecord_52 : decode cX12_appendRecord 52 = .ok (.isub, 1) := by decide +kernel
theorem dX12_appendRecord_53 : decode cX12_appendRecord 53 = .ok (.istore 6, 2) := by decide +kernel
theorem dX12_appendRecord_55 : decode cX12_appendRecord 55 = .ok (.iload 6, 2) := by decide +kernel
theorem dX12_appendRecord_57 : decode cX12_appendRecord 57 = .ok (.ifCond .lt 33, 3) := by decide +kernel
theorem dX12_appendRecord_60 : decode cX12_appendRecord 60 = .ok (.aload_n 0, 1) := by decide +kernel
theorem dX12_appendRecord_61 : decode cX12_appendRecord 61 = .ok (.getfield 33, 3) := by decide +kernel
theorem dX12_appendRecord_64 : decode cX12_appendRecord 64 = .ok (.iload_n 3, 1) := by decide +kernel
theorem dX12_appendRecord_65 : decode cX12_appendRecord 65 = .ok (.aload_n 0, 1) := by decide +kernel
theorem dX12_appendRecord_66 : decode cX12_appendRecord 66 = .ok (.iload_n 1, 1) := by decide +kernel
theorem dX12_appendRecord_67 : decode cX12_appendRecord 67 = .ok (.iload 5, 2) := by decide +kernel
theorem dX12_appendRecord_69 : decode cX12_appendRecord 69 = .ok (.invokevirtual 214, 3) := by decide +kernel
theorem dX12_appendRecord_72 : decode cX12_appendRecord 72 = .ok (.iload 6, 2) := by decide +kernel
theorem dX12_appendRecord_74 : decode cX12_appendRecord 74 = .ok (.lshr, 1) := by decide +kernel
theorem dX12_appendRecord_75 : decode cX12_appendRecord 75 = .ok (.ldc2_w 218, 3) := by decide +kernel
theorem dX12_appendRecord_78 : decode cX12_appendRecord 78 = .ok (.land, 1) := by decide +kernel
theorem dX12_appendRecord_79 : decode cX12_appendRecord 79 = .ok (.l2i, 1) := by decide +kernel
theorem dX12_appendRecord_80 : decode cX12_appendRecord 80 = .ok (.iastore, 1) := by decide +kernel
theorem dX12_appendRecord_81 : decode cX12_appendRecord 81 = .ok (.iinc 3 1, 3) := by decide +kernel
theorem dX12_appendRecord_84 : decode cX12_appendRecord 84 = .ok (.iinc 6 (-8), 3) := by decide +kernel
theorem dX12_appendRecord_87 : decode cX12_appendRecord 87 = .ok (.goto (-32), 3) := by decide +kernel
theorem dX12_appendRecord_90 : decode cX12_appendRecord 90 = .ok (.iinc 4 1, 3) := by decide +kernel
theorem dX12_appendRecord_93 : decode cX12_appendRecord 93 = .ok (.goto (-82), 3) := by decide +kernel
theorem dX12_appendRecord_96 : decode cX12_appendRecord 96 = .ok (.aload_n 0, 1) := by decide +kernel
theorem dX12_appendRecord_97 : decode cX12_appendRecord 97 = .ok (.getfield 30, 3) := by decide +kernel
theorem dX12_appendRecord_100 : decode cX12_appendRecord 100 = .ok (.aload_n 0, 1) := by decide +kernel
theorem dX12_appendRecord_101 : decode cX12_appendRecord 101 = .ok (.getfield 136, 3) := by decide +kernel
theorem dX12_appendRecord_104 : decode cX12_appendRecord 104 = .ok (.iload_n 2, 1) := by decide +kernel
theorem dX12_appendRecord_105 : decode cX12_appendRecord 105 = .ok (.iastore, 1) := by decide +kernel
theorem dX12_appendRecord_106 : decode cX12_appendRecord 106 = .ok (.aload_n 0, 1) := by decide +kernel
theorem dX12_appendRecord_107 : decode cX12_appendRecord 107 = .ok (.dup, 1) := by decide +kernel
theorem dX12_appendRecord_108 : decode cX12_appendRecord 108 = .ok (.getfield 136, 3) := by decide +kernel
theorem dX12_appendRecord_111 : decode cX12_appendRecord 111 = .ok (.iconst 1, 1) := by decide +kernel
theorem dX12_appendRecord_112 : decode cX12_appendRecord 112 = .ok (.iadd, 1) := by decide +kernel
theorem dX12_appendRecord_113 : decode cX12_appendRecord 113 = .ok (.putfield 136, 3) := by decide +kernel
theorem dX12_appendRecord_116 : decode cX12_appendRecord 116 = .ok (.return_, 1) := by decide +kernel
set_option maxHeartbeats 4000000 in
set_option maxRecDepth 100000 in
theorem r_appendRecord (G : EnvG) (l : Launch) (Φ : Hm) (sz x : Nat) (rd : (Nat → Int32) → Prop) (nw : (Nat → Int32) → Prop) (cr : (Nat → Int64) → Prop) (tp : (Nat → Int32) → Prop) (tt : (Nat → Int64) → Prop) (sI : (Nat → Int32) → Prop) (sT : (Nat → Int32) → Prop) (ql : (Nat → Int32) → Prop) (fl : Nat) (pe : Nat) (le : Nat) (nx : Nat) (il : Nat) (qu : Nat) (kn : Int32) (ec : Int32) (nu : Int32) (va : Int64) (st : Nat) (ep : Int32) (ti : Int32) (ad : Int32) (ob : Int64) (ra : Int32) (rt : Nat) (ex : Int32) (sa : Int64) (us : Int64) (tk : Nat) (th : Int32) (me : Int32) (dr : Int32) (se : Int64) (sn : Int64) (P : Nat → Nat) (f : Nat) (t : Nat) (hx : G.2.2.2 ≤ x) (hI : Im G x (rd, nw, cr, tp, tt, sI, sT, (PtQ pe P), ql, fl, pe, le, nx, il, qu, kn, ec, nu, va, st, ep, ti, ad, ob, ra, rt, ex, sa, us, tk, th, me, dr, se, sn) Φ) (hf : f < 12) (ht : t < 4) (hp : pe < 12) (hnw : ∀ f9 : Nat → Int32, nw f9 → NN f9) : Ct G l yX12_appendRecord wsX12_appendRecord ({ frames := 3, cells := 0, slots := 0, locals := 62 }) 0 0 [.ref x, .int (nI f), .int (nI t)] Φ sz (fun v Φ1 sz1 => (v = none) ∧ sz1 = sz ∧ (Im G x (rd, nw, cr, tp, tt, sI, sT, (PtQ (pe + 1) (fun j => if j = pe then t else P j)), ql, fl, pe + 1, le, nx, il, qu, kn, ec, nu, va, st, ep, ti, ad, ob, ra, rt, ex, sa, us, tk, th, me, dr, se, sn) Φ1) ∧ Fr x (fun j9 => j9 = 0 ∨ j9 = 6 ∨ j9 = 7) Φ Φ1) := by
  refine Ct.of (cc := cX12_appendRecord) (maxL := 7) (ret := none) (by decide) rfl (Nat.le_of_ble_eq_true rfl) ?_
  intro p9 e9 s9 m9 w9 t9 k9 B
  show Z p9 l e9 _ s9 m9 _ w9 t9 k9 _ G 7 0 [(0, .ref x), (1, .int (nI f)), (2, .int (nI t))] [] Φ sz 0 0
  refine z_bipush (v := 30) B dX12_appendRecord_0 rfl ?_
  refine z_aload_n B dX12_appendRecord_2 rfl 0 rfl ?_
  obtain ⟨n_1, v_1, n_2, h_1, b_13, b_1, b_2, b_3, b_4, b_5, b_6, b_7, b_8, b_9, b_10, b_11, b_12⟩ := im0 hI
  replace b_1 : 1 ≤ rt := b_1
  replace b_2 : rt ≤ 1024 := b_2
  replace b_3 : fl ≤ 12 := b_3
  replace b_4 : pe ≤ 24 := b_4
  replace b_5 : le ≤ 700 := b_5
  replace b_6 : qu ≤ 12 := b_6
  replace b_7 : n_1 ≤ 8 := b_7
  replace b_8 : n_2 ≤ 24 := b_8
  replace b_9 : tk ≤ 24 := b_9
  replace b_10 : il ≤ 700 := b_10
  replace b_11 : nx ≤ 701 := b_11
  replace b_12 : st ≤ 701 := b_12
  have h_2 : Φ x = some (o_ 14 [.int th, .ref (x + 1), .ref (x + 2), .int ti, .int ra, .int (nI rt), .int ex, .int ad, .ref (x + 3), .ref (x + 4), .int me, .long se, .ref (x + 5), .int (nI fl), .int dr, .long ob, .long sa, .long sn, .long us, .ref (x + 6), .ref (x + 7), .int (nI pe), .ref (x + 8), .int (nI le), .ref (x + 9), .ref (x + 10), .int (nI qu), .ref (x + 11), .ref (x + 12), .ref (x + 13), .ref (x + 14), .ref (x + 15), .ref (x + 16), .int (nI n_1), .long v_1, .ref (x + 17), .ref (x + 18), .ref (x + 19), .ref (x + 20), .ref (x + 21), .ref (x + 22), .int (nI n_2), .ref (x + 23), .ref (x + 24), .int (nI tk), .ref (x + 25), .int (nI il), .int (nI nx), .int ec, .int ep, .int kn, .int (nI st), .int nu, .long va]) := h_1
  refine z_get (ref := "FlowExporterModel") (C := RX12) (T := TX12) (N := 54) (ci := 14) (v := .int (nI pe)) B hu_X12_appendRecord_X12 rfl 21 (Nat.le_of_ble_eq_true rfl) hv_X12_appendRecord_136 rfl h_2 rfl dX12_appendRecord_3 ?_
  refine z_imul B dX12_appendRecord_6 ?_
  refine z_top (st1 := [.int (nI (30 * pe))]) (congrArg (fun w9 : Int32 => ([.int w9] : List Value)) (nI_mul 30 pe)) ?_
  refine z_istore_n (lv' := [(3, .int (nI (30 * pe))), (0, .ref x), (1, .int (nI f)), (2, .int (nI t))]) B dX12_appendRecord_7 rfl (Nat.le_of_ble_eq_true rfl) rfl ?_
  obtain ⟨f_1, h_3, r_1⟩ := imk (k := 2) hI
  replace r_1 : nw f_1 := r_1
  have r_2 : NN f_1 := hnw f_1 r_1
  have h_4 : Φ (x + 2) = some (ai_ G 307 f_1) := h_3
  refine z_iconst (v := 0) B dX12_appendRecord_8 rfl ?_
  refine z_istore (lv' := [(4, .int 0), (3, .int (nI (30 * pe))), (0, .ref x), (1, .int (nI f)), (2, .int (nI t))]) B dX12_appendRecord_9 (Nat.le_of_ble_eq_true rfl) rfl ?_
  refine z_lv [0, 1, 2, 3, 4] rfl ?_
  refine z_loop (α := Nat × Nat) (fun (a9 : Nat × Nat) Φi => Im G x (rd, nw, cr, tp, tt, sI, sT, (PtQ pe P), ql, fl, pe, le, nx, il, qu, kn, ec, nu, va, st, ep, ti, ad, ob, ra, rt, ex, sa, us, tk, th, me, dr, se, sn) Φi ∧ Fr x (fun j9 => j9 = 7) Φ Φi ∧ (a9.1 ≤ 9) ∧ (a9.2 ≤ 30 * pe + lsm f_1 (15 + 9 * t) a9.1) ∧ True) (fun a9 => [(4, .int (nI (a9.1))), (3, .int (nI (a9.2))), (0, .ref x), (1, .int (nI f)), (2, .int (nI t))]) (fun a9 => 9 - a9.1) ?_ (0, 30 * pe) ⟨hI, fun _ _ => rfl, (show 0 ≤ 9 by omega), (show 30 * pe ≤ 30 * pe + 0 by omega), trivial⟩
  rintro ⟨i_1, i_2⟩ Φl1 ⟨hI1, hF1, b_14, b_15, -⟩ ih1
  replace hI1 : Im G x (rd, nw, cr, tp, tt, sI, sT, (PtQ pe P), ql, fl, pe, le, nx, il, qu, kn, ec, nu, va, st, ep, ti, ad, ob, ra, rt, ex, sa, us, tk, th, me, dr, se, sn) Φl1 := hI1
  replace b_14 : i_1 ≤ 9 := b_14
  replace b_15 : i_2 ≤ 30 * pe + lsm f_1 (15 + 9 * t) i_1 := b_15
  show Z p9 l e9 _ s9 m9 _ w9 t9 k9 _ G 7 11 [(4, .int (nI i_1)), (3, .int (nI i_2)), (0, .ref x), (1, .int (nI f)), (2, .int (nI t))] [] Φl1 _ _ _
  refine z_iload B dX12_appendRecord_11 0 rfl ?_
  refine z_aload_n B dX12_appendRecord_13 rfl 2 rfl ?_
  refine z_iload_n B dX12_appendRecord_14 rfl 4 rfl ?_
  have h_5 : Φl1 (x + 2) = some (ai_ G 307 f_1) := ((hF1 (x + 2) fq_998).trans h_4)
  have h_6 : Φl1 x = some (o_ 14 [.int th, .ref (x + 1), .ref (x + 2), .int ti, .int ra, .int (nI rt), .int ex, .int ad, .ref (x + 3), .ref (x + 4), .int me, .long se, .ref (x + 5), .int (nI fl), .int dr, .long ob, .long sa, .long sn, .long us, .ref (x + 6), .ref (x + 7), .int (nI pe), .ref (x + 8), .int (nI le), .ref (x + 9), .ref (x + 10), .int (nI qu), .ref (x + 11), .ref (x + 12), .ref (x + 13), .ref (x + 14), .ref (x + 15), .ref (x + 16), .int (nI n_1), .long v_1, .ref (x + 17), .ref (x + 18), .ref (x + 19), .ref (x + 20), .ref (x + 21), .ref (x + 22), .int (nI n_2), .ref (x + 23), .ref (x + 24), .int (nI tk), .ref (x + 25), .int (nI il), .int (nI nx), .int ec, .int ep, .int kn, .int (nI st), .int nu, .long va]) := ((hF1 x fq_999).trans h_2)
  refine z_callV (As := [.int (nI t)]) (rest := [.int (nI i_1)]) B (r_sizeOfE G l Φl1 sz x rd nw cr tp tt sI sT (PtQ pe P) ql fl pe le nx il qu kn ec nu va st ep ti ad ob ra rt ex sa us tk th me dr se sn f_1 t hx hI1 h_5 r_2 (show t < 4 by omega) hnw) (cwV 1 B.1.2.2.2.2 gX12_appendRecord_X12_sizeOf rfl rfl rfl (by decide +kernel) ⟨Nat.le_of_ble_eq_true rfl, Nat.le_of_ble_eq_true rfl⟩) h_6 rfl rfl rfl rfl (Nat.le_of_ble_eq_true rfl) dX12_appendRecord_15 ⟨Nat.le_of_ble_eq_true rfl, Nat.le_of_ble_eq_true rfl⟩ (fun r_3 Φ1 sz1 st1 hp1 hs1 => ?_)
  obtain ⟨⟨n_3, rfl, b_16, b_17, b_18⟩, hq1, hI2, hF2⟩ := hp1
  subst sz1
  replace hs1 : st1 = [.int (nI n_3), .int (nI i_1)] := hs1
  subst st1
  replace b_16 : n_3 ≤ 9 := b_16
  replace b_17 : f_1 (11 + t) = nI n_3 := b_17
  replace b_18 : lsm f_1 (15 + 9 * t) n_3 ≤ 29 := b_18
  replace hI2 : Im G x (rd, nw, cr, tp, tt, sI, sT, (PtQ pe P), ql, fl, pe, le, nx, il, qu, kn, ec, nu, va, st, ep, ti, ad, ob, ra, rt, ex, sa, us, tk, th, me, dr, se, sn) Φ1 := hI2
  have q_1 := fun h9 : i_1 + 1 ≤ n_3 => lsm_mono (f := f_1) (b := 15 + 9 * t) h9
  refine z_icmp_ge (tgt := 96) B dX12_appendRecord_18 rfl (fun c_1 => ?_) (fun c_1 => ?_)
  · have e_1 : n_3 ≤ i_1 := (nI_leI (a := n_3) (b := i_1) (by omega) (by omega)).mp c_1
    refine z_aload_n B dX12_appendRecord_96 rfl 2 rfl ?_
    have h_7 : Φ1 x = some (o_ 14 [.int th, .ref (x + 1), .ref (x + 2), .int ti, .int ra, .int (nI rt), .int ex, .int ad, .ref (x + 3), .ref (x + 4), .int me, .long se, .ref (x + 5), .int (nI fl), .int dr, .long ob, .long sa, .long sn, .long us, .ref (x + 6), .ref (x + 7), .int (nI pe), .ref (x + 8), .int (nI le), .ref (x + 9), .ref (x + 10), .int (nI qu), .ref (x + 11), .ref (x + 12), .ref (x + 13), .ref (x + 14), .ref (x + 15), .ref (x + 16), .int (nI n_1), .long v_1, .ref (x + 17), .ref (x + 18), .ref (x + 19), .ref (x + 20), .ref (x + 21), .ref (x + 22), .int (nI n_2), .ref (x + 23), .ref (x + 24), .int (nI tk), .ref (x + 25), .int (nI il), .int (nI nx), .int ec, .int ep, .int kn, .int (nI st), .int nu, .long va]) := ((hF2 x (fun j9 h8 h7 => (show False from h7).elim)).trans h_6)
    refine z_get (ref := "FlowExporterModel") (C := RX12) (T := TX12) (N := 54) (ci := 14) (v := .ref (x + 6)) B hu_X12_appendRecord_X12 rfl 19 (Nat.le_of_ble_eq_true rfl) hv_X12_appendRecord_30 rfl h_7 rfl dX12_appendRecord_97 ?_
    refine z_aload_n B dX12_appendRecord_100 rfl 2 rfl ?_
    refine z_get (ref := "FlowExporterModel") (C := RX12) (T := TX12) (N := 54) (ci := 14) (v := .int (nI pe)) B hu_X12_appendRecord_X12 rfl 21 (Nat.le_of_ble_eq_true rfl) hv_X12_appendRecord_136 rfl h_7 rfl dX12_appendRecord_101 ?_
    refine z_iload_n B dX12_appendRecord_104 rfl 4 rfl ?_
    obtain ⟨f_2, h_8, r_4, r_5⟩ := imk (k := 6) hI2
    replace r_5 : (PtQ pe P) f_2 := r_5
    replace r_4 : Rw 3 f_2 := r_4
    have h_9 : Φ1 (x + 6) = some (ai_ G 24 f_2) := h_8
    refine z_iast B h_9 (Nat.le_trans hx (Nat.le_add_right x 6)) (vp_in_nI (by omega) (by omega)) dX12_appendRecord_105 (fun Φ2 hΦ1 => ?_)
    have h_10 : Φ2 (x + 6) = some (ai_ G 24 (upd f_2 (nI pe).toNatClampNeg (nI t))) := fset_at hΦ1
    have hI3 : Im G x (rd, nw, cr, tp, tt, sI, sT, (fun g9 => g9 = (upd f_2 (nI pe).toNatClampNeg (nI t))), ql, fl, pe, le, nx, il, qu, kn, ec, nu, va, st, ep, ti, ad, ob, ra, rt, ex, sa, us, tk, th, me, dr, se, sn) Φ2 := Im.put6 (pt1 := (fun g9 => g9 = (upd f_2 (nI pe).toNatClampNeg (nI t)))) hI2 hΦ1 (Rw.up (n := t) r_4 (show t ≤ 3 by omega)) rfl
    have hI4 : Im G x (rd, nw, cr, tp, tt, sI, sT, (PtQ (pe + 1) (fun j => if j = pe then t else P j)), ql, fl, pe, le, nx, il, qu, kn, ec, nu, va, st, ep, ti, ad, ob, ra, rt, ex, sa, us, tk, th, me, dr, se, sn) Φ2 := Im.weak5 hI3 (fun _ q9 => q9) (fun _ q9 => q9) (fun _ q9 => q9) (fun _ q9 => q9) (fun _ q9 => q9) (fun _ q9 => q9) (fun _ q9 => q9) (eqw (PtQ.s r_5 (by omega) (nI_clamp (by omega)))) (fun _ q9 => q9)
    refine z_aload_n B dX12_appendRecord_106 rfl 2 rfl ?_
    refine z_dup B dX12_appendRecord_107 rfl ?_
    have h_11 : Φ2 x = some (o_ 14 [.int th, .ref (x + 1), .ref (x + 2), .int ti, .int ra, .int (nI rt), .int ex, .int ad, .ref (x + 3), .ref (x + 4), .int me, .long se, .ref (x + 5), .int (nI fl), .int dr, .long ob, .long sa, .long sn, .long us, .ref (x + 6), .ref (x + 7), .int (nI pe), .ref (x + 8), .int (nI le), .ref (x + 9), .ref (x + 10), .int (nI qu), .ref (x + 11), .ref (x + 12), .ref (x + 13), .ref (x + 14), .ref (x + 15), .ref (x + 16), .int (nI n_1), .long v_1, .ref (x + 17), .ref (x + 18), .ref (x + 19), .ref (x + 20), .ref (x + 21), .ref (x + 22), .int (nI n_2), .ref (x + 23), .ref (x + 24), .int (nI tk), .ref (x + 25), .int (nI il), .int (nI nx), .int ec, .int ep, .int kn, .int (nI st), .int nu, .long va]) := ((fset_fr hΦ1 (ne_off (x := x) (i := 0) (j := 6) rfl)).trans h_7)
    refine z_get (ref := "FlowExporterModel") (C := RX12) (T := TX12) (N := 54) (ci := 14) (v := .int (nI pe)) B hu_X12_appendRecord_X12 rfl 21 (Nat.le_of_ble_eq_true rfl) hv_X12_appendRecord_136 rfl h_11 rfl dX12_appendRecord_108 ?_
    refine z_iconst (v := 1) B dX12_appendRecord_111 rfl ?_
    refine z_iadd B dX12_appendRecord_112 ?_
    refine z_top (st1 := [.int (nI (pe + 1)), .ref x]) (congrArg (fun w9 : Int32 => ([.int w9, .ref x] : List Value)) (nI_add pe 1)) ?_
    refine z_put (ref := "FlowExporterModel") (C := RX12) (T := TX12) (N := 54) (ci := 14) (v := .int (nI (pe + 1))) B hu_X12_appendRecord_X12 tyX12 tyX12_ok nmX12 rfl 21 (Nat.le_of_ble_eq_true rfl) hv_X12_appendRecord_136 rfl (Or.inl rfl) h_11 hx rfl rfl (Nat.le_of_ble_eq_true rfl) dX12_appendRecord_113 (fun Φ3 hΦ2 => ?_)
    have h_12 : Φ3 x = some (o_ 14 [.int th, .ref (x + 1), .ref (x + 2), .int ti, .int ra, .int (nI rt), .int ex, .int ad, .ref (x + 3), .ref (x + 4), .int me, .long se, .ref (x + 5), .int (nI fl), .int dr, .long ob, .long sa, .long sn, .long us, .ref (x + 6), .ref (x + 7), .int (nI (pe + 1)), .ref (x + 8), .int (nI le), .ref (x + 9), .ref (x + 10), .int (nI qu), .ref (x + 11), .ref (x + 12), .ref (x + 13), .ref (x + 14), .ref (x + 15), .ref (x + 16), .int (nI n_1), .long v_1, .ref (x + 17), .ref (x + 18), .ref (x + 19), .ref (x + 20), .ref (x + 21), .ref (x + 22), .int (nI n_2), .ref (x + 23), .ref (x + 24), .int (nI tk), .ref (x + 25), .int (nI il), .int (nI nx), .int ec, .int ep, .int kn, .int (nI st), .int nu, .long va]) := fset_at hΦ2
    have hI5 : Im G x (rd, nw, cr, tp, tt, sI, sT, (PtQ (pe + 1) (fun j => if j = pe then t else P j)), ql, fl, pe + 1, le, nx, il, qu, kn, ec, nu, va, st, ep, ti, ad, ob, ra, rt, ex, sa, us, tk, th, me, dr, se, sn) Φ3 := Im.put0 hI4 hΦ2 ⟨n_1, v_1, n_2, rfl, b_13, b_1, b_2, b_3, (show (pe + 1) ≤ 24 by omega), b_5, b_6, b_7, b_8, b_9, b_10, b_11, b_12⟩
    exact z_ret_v B dX12_appendRecord_116 ⟨rfl, rfl, hI5, (fun b9 h9 => ((fset_fr hΦ2 (fun h8 => h9 (0) h8 (show 0 = 0 ∨ 0 = 6 ∨ 0 = 7 by decide))).trans ((fset_fr hΦ1 (fun h8 => h9 (6) h8 (show 6 = 0 ∨ 6 = 6 ∨ 6 = 7 by decide))).trans ((hF2 b9 (fun j9 h8 h7 => (show False from h7).elim)).trans ((hF1 b9 (fun j9 h8 h7 => h9 j9 h8 (fq_1001 j9 h7))).trans rfl)))))⟩
  · have e_2 : ¬ (n_3 ≤ i_1) := fun h9 => c_1 ((nI_leI (a := n_3) (b := i_1) (by omega) (by omega)).mpr h9)
    replace q_1 := q_1 (by omega)
    refine z_aload_n B dX12_appendRecord_21 rfl 2 rfl ?_
    refine z_iload_n B dX12_appendRecord_22 rfl 4 rfl ?_
    refine z_iload B dX12_appendRecord_23 0 rfl ?_
    have h_13 : Φ1 (x + 2) = some (ai_ G 307 f_1) := ((hF2 (x + 2) (fun j9 h8 h7 => (show False from h7).elim)).trans h_5)
    have h_14 : Φ1 x = some (o_ 14 [.int th, .ref (x + 1), .ref (x + 2), .int ti, .int ra, .int (nI rt), .int ex, .int ad, .ref (x + 3), .ref (x + 4), .int me, .long se, .ref (x + 5), .int (nI fl), .int dr, .long ob, .long sa, .long sn, .long us, .ref (x + 6), .ref (x + 7), .int (nI pe), .ref (x + 8), .int (nI le), .ref (x + 9), .ref (x + 10), .int (nI qu), .ref (x + 11), .ref (x + 12), .ref (x + 13), .ref (x + 14), .ref (x + 15), .ref (x + 16), .int (nI n_1), .long v_1, .ref (x + 17), .ref (x + 18), .ref (x + 19), .ref (x + 20), .ref (x + 21), .ref (x + 22), .int (nI n_2), .ref (x + 23), .ref (x + 24), .int (nI tk), .ref (x + 25), .int (nI il), .int (nI nx), .int ec, .int ep, .int kn, .int (nI st), .int nu, .long va]) := ((hF2 x (fun j9 h8 h7 => (show False from h7).elim)).trans h_6)
    refine z_callV (As := [.int (nI t), .int (nI i_1)]) (rest := []) B (r_fieldOfE G l Φ1 sz x rd nw cr tp tt sI sT (PtQ pe P) ql fl pe le nx il qu kn ec nu va st ep ti ad ob ra rt ex sa us tk th me dr se sn f_1 t i_1 hx hI2 h_13 r_2 (show t < 4 by omega) (show i_1 < 9 by omega) hnw) (cwV 2 B.1.2.2.2.2 gX12_appendRecord_X12_fieldOf rfl rfl rfl (by decide +kernel) ⟨Nat.le_of_ble_eq_true rfl, Nat.le_of_ble_eq_true rfl⟩) h_14 rfl rfl rfl rfl (Nat.le_of_ble_eq_true rfl) dX12_appendRecord_25 ⟨Nat.le_of_ble_eq_true rfl, Nat.le_of_ble_eq_true rfl⟩ (fun r_6 Φ4 sz2 st2 hp2 hs2 => ?_)
    obtain ⟨⟨n_4, rfl, b_19, b_20⟩, hq2, hI6, hF3⟩ := hp2
    subst sz2
    replace hs2 : st2 = [.int (nI n_4)] := hs2
    subst st2
    replace b_19 : n_4 ≤ 8 := b_19
    replace b_20 : f_1 (15 + 9 * t + i_1) = nI n_4 := b_20
    replace hI6 : Im G x (rd, nw, cr, tp, tt, sI, sT, (PtQ pe P), ql, fl, pe, le, nx, il, qu, kn, ec, nu, va, st, ep, ti, ad, ob, ra, rt, ex, sa, us, tk, th, me, dr, se, sn) Φ4 := hI6
    have e_3 := lsm_s (f := f_1) (b := 15 + 9 * t) (q := i_1) (n := n_4) b_20 (by omega)
    have b_21 := lnN_pos n_4
    have b_22 := lnN_le n_4
    refine z_istore (lv' := [(5, .int (nI n_4)), (4, .int (nI i_1)), (3, .int (nI i_2)), (0, .ref x), (1, .int (nI f)), (2, .int (nI t))]) B dX12_appendRecord_28 (Nat.le_of_ble_eq_true rfl) rfl ?_
    refine z_aload_n B dX12_appendRecord_30 rfl 3 rfl ?_
    refine z_iload B dX12_appendRecord_31 0 rfl ?_
    have h_15 : Φ4 x = some (o_ 14 [.int th, .ref (x + 1), .ref (x + 2), .int ti, .int ra, .int (nI rt), .int ex, .int ad, .ref (x + 3), .ref (x + 4), .int me, .long se, .ref (x + 5), .int (nI fl), .int dr, .long ob, .long sa, .long sn, .long us, .ref (x + 6), .ref (x + 7), .int (nI pe), .ref (x + 8), .int (nI le), .ref (x + 9), .ref (x + 10), .int (nI qu), .ref (x + 11), .ref (x + 12), .ref (x + 13), .ref (x + 14), .ref (x + 15), .ref (x + 16), .int (nI n_1), .long v_1, .ref (x + 17), .ref (x + 18), .ref (x + 19), .ref (x + 20), .ref (x + 21), .ref (x + 22), .int (nI n_2), .ref (x + 23), .ref (x + 24), .int (nI tk), .ref (x + 25), .int (nI il), .int (nI nx), .int ec, .int ep, .int kn, .int (nI st), .int nu, .long va]) := ((hF3 x (fun j9 h8 h7 => (show False from h7).elim)).trans h_14)
    refine z_callV (As := [.int (nI n_4)]) (rest := []) B (r_isSupported G l Φ4 sz x rd nw cr tp tt sI sT (PtQ pe P) ql fl pe le nx il qu kn ec nu va st ep ti ad ob ra rt ex sa us tk th me dr se sn (nI n_4) hx hI6 hnw) (cwV 1 B.1.2.2.2.2 gX12_appendRecord_X12_isSupported rfl rfl rfl (by decide +kernel) ⟨Nat.le_of_ble_eq_true rfl, Nat.le_of_ble_eq_true rfl⟩) h_15 rfl rfl rfl rfl (Nat.le_of_ble_eq_true rfl) dX12_appendRecord_33 ⟨Nat.le_of_ble_eq_true rfl, Nat.le_of_ble_eq_true rfl⟩ (fun r_7 Φ5 sz3 st3 hp3 hs3 => ?_)
    obtain ⟨⟨v_2, rfl, b_23⟩, hq3, hI7, hF4⟩ := hp3
    subst sz3
    replace hs3 : st3 = [.int v_2] := hs3
    subst st3
    replace hI7 : Im G x (rd, nw, cr, tp, tt, sI, sT, (PtQ pe P), ql, fl, pe, le, nx, il, qu, kn, ec, nu, va, st, ep, ti, ad, ob, ra, rt, ex, sa, us, tk, th, me, dr, se, sn) Φ5 := hI7
    refine z_if_ne (tgt := 42) B dX12_appendRecord_36 rfl (fun c_2 => ?_) (fun c_2 => ?_)
    · refine z_bipush (v := 8) B dX12_appendRecord_42 rfl ?_
      refine z_iload B dX12_appendRecord_44 0 rfl ?_
      refine z_callS (As := [.int (nI n_4)]) (rest := [.int 8]) B (r_lengthOf G l Φ5 sz x rd nw cr tp tt sI sT (PtQ pe P) ql fl pe le nx il qu kn ec nu va st ep ti ad ob ra rt ex sa us tk th me dr se sn n_4 hx hI7 (show n_4 < 2 ^ 31 by omega) hnw) (va_cwS 1 B.1.2.2.2.2 gX12_appendRecord_X12_lengthOf rfl rfl rfl (by decide +kernel) ⟨Nat.le_of_ble_eq_true rfl, Nat.le_of_ble_eq_true rfl⟩) rfl rfl (Nat.le_of_ble_eq_true rfl) dX12_appendRecord_46 ⟨Nat.le_of_ble_eq_true rfl, Nat.le_of_ble_eq_true rfl⟩ (fun r_8 Φ6 sz4 st4 hp4 hs4 => ?_)
      obtain ⟨rfl, hq4, hI8, hF5⟩ := hp4
      subst sz4
      replace hs4 : st4 = [.int (nI (lnN n_4)), .int 8] := hs4
      subst st4
      have b_24 := lnN_pos n_4
      have b_25 := lnN_le n_4
      replace hI8 : Im G x (rd, nw, cr, tp, tt, sI, sT, (PtQ pe P), ql, fl, pe, le, nx, il, qu, kn, ec, nu, va, st, ep, ti, ad, ob, ra, rt, ex, sa, us, tk, th, me, dr, se, sn) Φ6 := hI8
      refine z_imul B dX12_appendRecord_49 ?_
      refine z_top (st1 := [.int (nI (8 * (lnN n_4)))]) (congrArg (fun w9 : Int32 => ([.int w9] : List Value)) (nI_mul 8 (lnN n_4))) ?_
      refine z_bipush (v := 8) B dX12_appendRecord_50 rfl ?_
      refine z_isub B dX12_appendRecord_52 ?_
      refine z_istore (lv' := [(6, .int (nI (8 * (lnN n_4)) - 8)), (5, .int (nI n_4)), (4, .int (nI i_1)), (3, .int (nI i_2)), (0, .ref x), (1, .int (nI f)), (2, .int (nI t))]) B dX12_appendRecord_53 (Nat.le_of_ble_eq_true rfl) rfl ?_
      refine z_lv [0, 1, 2, 3, 4, 5, 6] rfl ?_
      refine z_loop (α := Nat × Nat) (fun (a9 : Nat × Nat) Φi => Im G x (rd, nw, cr, tp, tt, sI, sT, (PtQ pe P), ql, fl, pe, le, nx, il, qu, kn, ec, nu, va, st, ep, ti, ad, ob, ra, rt, ex, sa, us, tk, th, me, dr, se, sn) Φi ∧ Fr x (fun j9 => j9 = 7) Φ6 Φi ∧ (a9.1 ≤ 8) ∧ (a9.2 + a9.1 ≤ i_2 + lnN n_4) ∧ True) (fun a9 => [(6, .int (nI (8 * (a9.1)) - 8)), (5, .int (nI n_4)), (4, .int (nI i_1)), (3, .int (nI (a9.2))), (0, .ref x), (1, .int (nI f)), (2, .int (nI t))]) (fun a9 => a9.1) ?_ (lnN n_4, i_2) ⟨hI8, fun _ _ => rfl, (show (lnN n_4) ≤ 8 by omega), (show i_2 + (lnN n_4) ≤ i_2 + lnN n_4 by omega), trivial⟩
      rintro ⟨i_3, i_4⟩ Φl2 ⟨hI9, hF6, b_26, b_27, -⟩ ih2
      replace hI9 : Im G x (rd, nw, cr, tp, tt, sI, sT, (PtQ pe P), ql, fl, pe, le, nx, il, qu, kn, ec, nu, va, st, ep, ti, ad, ob, ra, rt, ex, sa, us, tk, th, me, dr, se, sn) Φl2 := hI9
      replace b_26 : i_3 ≤ 8 := b_26
      replace b_27 : i_4 + i_3 ≤ i_2 + lnN n_4 := b_27
      show Z p9 l e9 _ s9 m9 _ w9 t9 k9 _ G 7 55 [(6, .int (nI (8 * i_3) - 8)), (5, .int (nI n_4)), (4, .int (nI i_1)), (3, .int (nI i_4)), (0, .ref x), (1, .int (nI f)), (2, .int (nI t))] [] Φl2 _ _ _
      refine z_iload B dX12_appendRecord_55 0 rfl ?_
      refine z_if_lt (tgt := 90) B dX12_appendRecord_57 rfl (fun c_3 => ?_) (fun c_3 => ?_)
      · have e_4 : i_3 = 0 := (m8_lt (j := i_3) (by omega)).1 c_3
        refine z_iinc (k := 2) (v := nI (i_1 + 1)) (lv' := [(4, .int (nI (i_1 + 1))), (6, .int (nI (8 * i_3) - 8)), (5, .int (nI n_4)), (3, .int (nI i_4)), (0, .ref x), (1, .int (nI f)), (2, .int (nI t))]) B dX12_appendRecord_90 rfl (nI_add i_1 1) (Nat.le_of_ble_eq_true rfl) rfl ?_
        refine z_goto (tgt := 11) B dX12_appendRecord_93 rfl ?_
        refine z_lv [0, 3, 4, 5, 6] rfl ?_
        exact ih1 (i_1 + 1, i_4) Φl2 (show 9 - (i_1 + 1) < 9 - i_1 by omega) ⟨hI9, (fun b9 h9 => ((hF6 b9 h9).trans ((hF5 b9 (fun j9 h8 h7 => (show False from h7).elim)).trans ((hF4 b9 (fun j9 h8 h7 => (show False from h7).elim)).trans ((hF3 b9 (fun j9 h8 h7 => (show False from h7).elim)).trans ((hF2 b9 (fun j9 h8 h7 => (show False from h7).elim)).trans ((hF1 b9 h9).trans rfl))))))), (show (i_1 + 1) ≤ 9 by omega), (show i_4 ≤ 30 * pe + lsm f_1 (15 + 9 * t) (i_1 + 1) by omega), trivial⟩
      · have e_5 : 1 ≤ i_3 := (m8_lt (j := i_3) (by omega)).2 c_3
        refine z_aload_n B dX12_appendRecord_60 rfl 4 rfl ?_
        have h_16 : Φl2 x = some (o_ 14 [.int th, .ref (x + 1), .ref (x + 2), .int ti, .int ra, .int (nI rt), .int ex, .int ad, .ref (x + 3), .ref (x + 4), .int me, .long se, .ref (x + 5), .int (nI fl), .int dr, .long ob, .long sa, .long sn, .long us, .ref (x + 6), .ref (x + 7), .int (nI pe), .ref (x + 8), .int (nI le), .ref (x + 9), .ref (x + 10), .int (nI qu), .ref (x + 11), .ref (x + 12), .ref (x + 13), .ref (x + 14), .ref (x + 15), .ref (x + 16), .int (nI n_1), .long v_1, .ref (x + 17), .ref (x + 18), .ref (x + 19), .ref (x + 20), .ref (x + 21), .ref (x + 22), .int (nI n_2), .ref (x + 23), .ref (x + 24), .int (nI tk), .ref (x + 25), .int (nI il), .int (nI nx), .int ec, .int ep, .int kn, .int (nI st), .int nu, .long va]) := ((hF6 x fq_999).trans ((hF5 x (fun j9 h8 h7 => (show False from h7).elim)).trans ((hF4 x (fun j9 h8 h7 => (show False from h7).elim)).trans h_15)))
        refine z_get (ref := "FlowExporterModel") (C := RX12) (T := TX12) (N := 54) (ci := 14) (v := .ref (x + 7)) B hu_X12_appendRecord_X12 rfl 20 (Nat.le_of_ble_eq_true rfl) hv_X12_appendRecord_33 rfl h_16 rfl dX12_appendRecord_61 ?_
        refine z_iload_n B dX12_appendRecord_64 rfl 3 rfl ?_
        refine z_aload_n B dX12_appendRecord_65 rfl 4 rfl ?_
        refine z_iload_n B dX12_appendRecord_66 rfl 5 rfl ?_
        refine z_iload B dX12_appendRecord_67 1 rfl ?_
        refine z_callV (As := [.int (nI f), .int (nI n_4)]) (rest := [.int (nI i_4), .ref (x + 7)]) B (r_contentOf G l Φl2 sz x rd nw cr tp tt sI sT (PtQ pe P) ql fl pe le nx il qu kn ec nu va st ep ti ad ob ra rt ex sa us tk th me dr se sn f n_4 hx hI9 (show f < 12 by omega) (show n_4 ≤ 8 by omega) hnw) (cwV 2 B.1.2.2.2.2 gX12_appendRecord_X12_contentOf rfl rfl rfl (by decide +kernel) ⟨Nat.le_of_ble_eq_true rfl, Nat.le_of_ble_eq_true rfl⟩) h_16 rfl rfl rfl rfl (Nat.le_of_ble_eq_true rfl) dX12_appendRecord_69 ⟨Nat.le_of_ble_eq_true rfl, Nat.le_of_ble_eq_true rfl⟩ (fun r_9 Φ7 sz5 st5 hp5 hs5 => ?_)
        obtain ⟨⟨v_3, rfl⟩, hq5, hI10, hF7⟩ := hp5
        subst sz5
        replace hs5 : st5 = [.long v_3, .int (nI i_4), .ref (x + 7)] := hs5
        subst st5
        replace hI10 : Im G x (rd, nw, cr, tp, tt, sI, sT, (PtQ pe P), ql, fl, pe, le, nx, il, qu, kn, ec, nu, va, st, ep, ti, ad, ob, ra, rt, ex, sa, us, tk, th, me, dr, se, sn) Φ7 := hI10
        refine z_iload B dX12_appendRecord_72 0 rfl ?_
        refine z_lshr (v := v_3 >>> ((nI (8 * i_3) - 8 : Int32).toInt64 &&& 63)) B dX12_appendRecord_74 rfl ?_
        refine z_fl (fun v_4 => ?_)
        refine z_ldc2 (v := 255) B (by decide +kernel) dX12_appendRecord_75 ?_
        refine z_land B dX12_appendRecord_78 ?_
        refine z_fl (fun v_5 => ?_)
        refine z_l2i (v := v_5.toInt32) B dX12_appendRecord_79 rfl ?_
        refine z_fi (fun v_6 => ?_)
        obtain ⟨f_3, h_17⟩ := imk (k := 7) hI10
        have h_18 : Φ7 (x + 7) = some (ai_ G 720 f_3) := h_17
        refine z_iast B h_18 (Nat.le_trans hx (Nat.le_add_right x 7)) (vp_in_nI (by omega) (by omega)) dX12_appendRecord_80 (fun Φ8 hΦ3 => ?_)
        have h_19 : Φ8 (x + 7) = some (ai_ G 720 (upd f_3 (nI i_4).toNatClampNeg v_6)) := fset_at hΦ3
        have hI11 : Im G x (rd, nw, cr, tp, tt, sI, sT, (PtQ pe P), ql, fl, pe, le, nx, il, qu, kn, ec, nu, va, st, ep, ti, ad, ob, ra, rt, ex, sa, us, tk, th, me, dr, se, sn) Φ8 := Im.put (k := 7) hI10 hΦ3 ⟨_, rfl⟩
        refine z_iinc (k := 3) (v := nI (i_4 + 1)) (lv' := [(3, .int (nI (i_4 + 1))), (6, .int (nI (8 * i_3) - 8)), (5, .int (nI n_4)), (4, .int (nI i_1)), (0, .ref x), (1, .int (nI f)), (2, .int (nI t))]) B dX12_appendRecord_81 rfl (nI_add i_4 1) (Nat.le_of_ble_eq_true rfl) rfl ?_
        refine z_iinc (k := 1) (v := nI (8 * (i_3 - 1)) - 8) (lv' := [(6, .int (nI (8 * (i_3 - 1)) - 8)), (3, .int (nI (i_4 + 1))), (5, .int (nI n_4)), (4, .int (nI i_1)), (0, .ref x), (1, .int (nI f)), (2, .int (nI t))]) B dX12_appendRecord_84 rfl (m8_dec (show 1 ≤ i_3 by omega)) (Nat.le_of_ble_eq_true rfl) rfl ?_
        refine z_goto (tgt := 55) B dX12_appendRecord_87 rfl ?_
        refine z_lv [0, 2, 3, 1, 4, 5, 6] rfl ?_
        exact ih2 (i_3 - 1, i_4 + 1) Φ8 (show (i_3 - 1) < i_3 by omega) ⟨hI11, (fun b9 h9 => ((fset_fr hΦ3 (fun h8 => h9 (7) h8 (show 7 = 7 by decide))).trans ((hF7 b9 (fun j9 h8 h7 => (show False from h7).elim)).trans ((hF6 b9 h9).trans rfl)))), (show (i_3 - 1) ≤ 8 by omega), (show (i_4 + 1) + (i_3 - 1) ≤ i_2 + lnN n_4 by omega), trivial⟩
    · refine z_goto (tgt := 90) B dX12_appendRecord_39 rfl ?_
      refine z_iinc (k := 1) (v := nI (i_1 + 1)) (lv' := [(4, .int (nI (i_1 + 1))), (5, .int (nI n_4)), (3, .int (nI i_2)), (0, .ref x), (1, .int (nI f)), (2, .int (nI t))]) B dX12_appendRecord_90 rfl (nI_add i_1 1) (Nat.le_of_ble_eq_true rfl) rfl ?_
      refine z_goto (tgt := 11) B dX12_appendRecord_93 rfl ?_
      refine z_lv [0, 2, 3, 4, 5] rfl ?_
      exact ih1 (i_1 + 1, i_2) Φ5 (show 9 - (i_1 + 1) < 9 - i_1 by omega) ⟨hI7, (fun b9 h9 => ((hF4 b9 (fun j9 h8 h7 => (show False from h7).elim)).trans ((hF3 b9 (fun j9 h8 h7 => (show False from h7).elim)).trans ((hF2 b9 (fun j9 h8 h7 => (show False from h7).elim)).trans ((hF1 b9 h9).trans rfl))))), (show (i_1 + 1) ≤ 9 by omega), (show i_2 ≤ 30 * pe + lsm f_1 (15 + 9 * t) (i_1 + 1) by omega), trivial⟩

theorem uPu_y {us : Int64} {n t : Nat} {P : Nat → Nat} (h : n < 12) : uPu (us, n, P) t = (us, n + 1, fun j => if j = n then t else P j) := if_pos h

theorem hu_X12_export_X12 : ∀ w ∈ u_ws RX12 TX12 54, w ∈ wsX12_export := fun _ h => List.mem_cons_of_mem _ (List.mem_append_left _ (List.mem_append_right _ (h)))

theorem hv_X12_export_17 : Cond.fieldLink RX12 17 "FlowExporterModel" (TX12 2).2.1 (TX12 2).2.2.1 ∈ wsX12_export := List.mem_cons_of_mem _ (List.mem_append_left _ (List.mem_append_left _ (List.mem_append_left _ (List.mem_of_getElem? (i := 0) rfl))))

theorem hv_X12_export_26 : Cond.fieldLink RX12 26 "FlowExporterModel" (TX12 12).2.1 (TX12 12).2.2.1 ∈ wsX12_export := List.mem_cons_of_mem _ (List.mem_append_left _ (List.mem_append_left _ (List.mem_append_left _ (List.mem_of_getElem? (i := 1) rfl))))

theorem hv_X12_export_127 : Cond.fieldLink RX12 127 "FlowExporterModel" (TX12 18).2.1 (TX12 18).2.2.1 ∈ wsX12_export := List.mem_cons_of_mem _ (List.mem_append_left _ (List.mem_append_left _ (List.mem_append_left _ (List.mem_of_getElem? (i := 2) rfl))))

theorem hv_X12_export_114 : Cond.fieldLink RX12 114 "FlowExporterModel" (TX12 6).2.1 (TX12 6).2.2.1 ∈ wsX12_export := List.mem_cons_of_mem _ (List.mem_append_left _ (List.mem_append_left _ (List.mem_append_left _ (List.mem_of_getElem? (i := 3) rfl))))

theorem hv_X12_export_133 : Cond.fieldLink RX12 133 "FlowExporterModel" (TX12 13).2.1 (TX12 13).2.2.1 ∈ wsX12_export := List.mem_cons_of_mem _ (List.mem_append_left _ (List.mem_append_left _ (List.mem_append_left _ (List.mem_of_getElem? (i := 4) rfl))))

theorem fq_1009 {x : Nat} : ∀ j9 : Nat, x = x + j9 → (j9 = 5) → False := by
  intro j9 h1 h2
  omega

theorem fq_1010 : ∀ j9 : Nat, (j9 = 5) → (j9 = 0 ∨ j9 = 5 ∨ j9 = 6 ∨ j9 = 7) := by
  intro j9 h
  omega

theorem fq_1011 {x : Nat} : ∀ j9 : Nat, x + 5 = x + j9 → (j9 = 0 ∨ j9 = 6 ∨ j9 = 7) → False := by
  intro j9 h1 h2
  omega

theorem fq_1012 : ∀ j9 : Nat, (j9 = 0 ∨ j9 = 6 ∨ j9 = 7) → (j9 = 0 ∨ j9 = 5 ∨ j9 = 6 ∨ j9 = 7) := by
  intro j9 h
  omega

set_option maxRecDepth 20000 in
theorem ggX12_find_X12_keyOf : GoodIn wsX12_find wsX12_keyOf := goodIn_ca ((goodIn_ca (goodIn_r _ [6, 7, 8, 9, 10, 5, 11] rfl (by decide +kernel)) (goodIn_sub (fun _ h => List.mem_cons_of_mem _ (List.mem_append_left _ (List.mem_append_right _ h))) gw_wsX120))) (goodIn_sub (fun _ h => List.mem_cons_of_mem _ (List.mem_append_right _ h)) (all_fg _))
set_option maxRecDepth 20000 in
theorem gX12_find_X12_keyOf : GoodIn wsX12_find (wsV RX12 390 RX12 yX12_keyOf wsX12_keyOf) := goodIn_app (goodIn_m (mem_cA (List.mem_cons_of_mem _ (List.mem_append_left _ (List.mem_append_left _ (List.mem_of_getElem? (i := 1) rfl)))) (mem_cA (List.mem_cons_of_mem _ (List.mem_append_left _ (List.mem_append_left _ (List.mem_of_getElem? (i := 2) rfl)))) (mem_cA (List.mem_cons_of_mem _ (List.mem_append_left _ (List.mem_append_left _ (List.mem_of_getElem? (i := 3) rfl)))) (mem_cA (List.mem_cons_of_mem _ (List.mem_append_left _ (List.mem_append_left _ (List.mem_of_getElem? (i := 4) rfl)))) mem_cZ)))) (by decide +kernel)) ggX12_find_X12_keyOf
theorem dX12_find_0 : decode cX12_find 0 = .ok (.aload_n 0, 1) := by decide +kernel
theorem dX12_find_1 : decode cX12_find 1 = .ok (.iconst 0, 1) := by decide +kernel
theorem dX12_find_2 : decode cX12_find 2 = .ok (.putfield 1, 3) := by decide +kernel
theorem dX12_find_5 : decode cX12_find 5 = .ok (.aload_n 0, 1) := by decide +kernel
theorem dX12_find_6 : decode cX12_find 6 = .ok (.iload_n 1, 1) := by decide +kernel
theorem dX12_find_7 : decode cX12_find 7 = .ok (.i2l, 1) := by decide +kernel
theorem dX12_find_8 : decode cX12_find 8 = .ok (.iload_n 2, 1) := by decide +kernel
theorem dX12_find_9 : decode cX12_find 9 = .ok (.i2l, 1) := by decide +kernel
theorem dX12_find_10 : decode cX12_find 10 = .ok (.iload_n 3, 1) := by decide +kernel
theorem dX12_find_11 : decode cX12_find 11 = .ok (.i2l, 1) := by decide +kernel
theorem dX12_find_12 : decode cX12_find 12 = .ok (.iload 4, 2) := by decide +kernel
theorem dX12_find_14 : decode cX12_find 14 = .ok (.i2l, 1) := by decide +kernel
theorem dX12_find_15 : decode cX12_find 15 = .ok (.invokevirtual 390, 3) := by decide +kernel
theorem dX12_find_18 : decode cX12_find 18 = .ok (.ireturn, 1) := by decide +kernel
set_option maxRecDepth 20000 in
theorem ggX12_raw_X12_isKey : GoodIn wsX12_raw wsX12_isKey := (goodIn_ca (goodIn_r _ [7, 8, 9, 10, 6, 11] rfl (by decide +kernel)) (goodIn_sub (fun _ h => List.mem_cons_of_mem _ (List.mem_append_left _ (List.mem_append_right _ h))) gw_wsX120))
set_option maxRecDepth 20000 in
theorem gX12_raw_X12_isKey : GoodIn wsX12_raw (wsV RX12 394 RX12 yX12_isKey wsX12_isKey) := goodIn_app (goodIn_m (mem_cA (List.mem_cons_of_mem _ (List.mem_append_left _ (List.mem_append_left _ (List.mem_of_getElem? (i := 2) rfl)))) (mem_cA (List.mem_cons_of_mem _ (List.mem_append_left _ (List.mem_append_left _ (List.mem_of_getElem? (i := 3) rfl)))) (mem_cA (List.mem_cons_of_mem _ (List.mem_append_left _ (List.mem_append_left _ (List.mem_of_getElem? (i := 4) rfl)))) (mem_cA (List.mem_cons_of_mem _ (List.mem_append_left _ (List.mem_append_left _ (List.mem_of_getElem? (i := 5) rfl)))) mem_cZ)))) (by decide +kernel)) ggX12_raw_X12_isKey
set_option maxRecDepth 20000 in
theorem ggX12_raw_X12_throwsIf : GoodIn wsX12_raw wsX12_throwsIf := (goodIn_ca (goodIn_r _ [15, 1] rfl (by decide +kernel)) (goodIn_sub (fun _ h => List.mem_cons_of_mem _ (List.mem_append_left _ (List.mem_append_right _ h))) gw_wsX120))
set_option maxRecDepth 20000 in
theorem gX12_raw_X12_throwsIf : GoodIn wsX12_raw (wsV RX12 185 RX12 yX12_throwsIf wsX12_throwsIf) := goodIn_app (goodIn_m (mem_cA (List.mem_cons_of_mem _ (List.mem_append_left _ (List.mem_append_left _ (List.mem_of_getElem? (i := 11) rfl)))) (mem_cA (List.mem_cons_of_mem _ (List.mem_append_left _ (List.mem_append_left _ (List.mem_of_getElem? (i := 12) rfl)))) (mem_cA (List.mem_cons_of_mem _ (List.mem_append_left _ (List.mem_append_left _ (List.mem_of_getElem? (i := 13) rfl)))) (mem_cA (List.mem_cons_of_mem _ (List.mem_append_left _ (List.mem_append_left _ (List.mem_of_getElem? (i := 5) rfl)))) mem_cZ)))) (by decide +kernel)) ggX12_raw_X12_throwsIf
set_option maxRecDepth 20000 in
theorem ggX12_raw_X12_isWhat : GoodIn wsX12_raw wsX12_isWhat := (goodIn_r _ [18, 9, 10, 6, 11] rfl (by decide +kernel))
set_option maxRecDepth 20000 in
theorem gX12_raw_X12_isWhat : GoodIn wsX12_raw (va_wsS RX12 397 yX12_isWhat wsX12_isWhat) := goodIn_app (goodIn_m (mem_cA (List.mem_cons_of_mem _ (List.mem_append_left _ (List.mem_append_left _ (List.mem_of_getElem? (i := 15) rfl)))) (mem_cA (List.mem_cons_of_mem _ (List.mem_append_left _ (List.mem_append_left _ (List.mem_of_getElem? (i := 16) rfl)))) (mem_cA (List.mem_cons_of_mem _ (List.mem_append_left _ (List.mem_append_left _ (List.mem_of_getElem? (i := 5) rfl)))) mem_cZ))) (by decide +kernel)) ggX12_raw_X12_isWhat
theorem dX12_raw_0 : decode cX12_raw 0 = .ok (.aload_n 0, 1) := by decide +kernel
theorem dX12_raw_1 : decode cX12_raw 1 = .ok (.iconst 0, 1) := by decide +kernel
theorem dX12_raw_2 : decode cX12_raw 2 = .ok (.putfield 1, 3) := by decide +kernel
theorem dX12_raw_5 : decode cX12_raw 5 = .ok (.aload_n 0, 1) := by decide +kernel
theorem dX12_raw_6 : decode cX12_raw 6 = .ok (.aload_n 0, 1) := by decide +kernel
theorem dX12_raw_7 : decode cX12_raw 7 = .ok (.iload_n 1, 1) := by decide +kernel
theorem dX12_raw_8 : decode cX12_raw 8 = .ok (.invokevirtual 394, 3) := by decide +kernel
theorem dX12_raw_11 : decode cX12_raw 11 = .ok (.ifCond .ne 7, 3) := by decide +kernel
theorem dX12_raw_14 : decode cX12_raw 14 = .ok (.iconst 1, 1) := by decide +kernel
theorem dX12_raw_15 : decode cX12_raw 15 = .ok (.goto 4, 3) := by decide +kernel
theorem dX12_raw_18 : decode cX12_raw 18 = .ok (.iconst 0, 1) := by decide +kernel
theorem dX12_raw_19 : decode cX12_raw 19 = .ok (.iconst 1, 1) := by decide +kernel
theorem dX12_raw_20 : decode cX12_raw 20 = .ok (.invokevirtual 185, 3) := by decide +kernel
theorem dX12_raw_23 : decode cX12_raw 23 = .ok (.ifCond .ne 23, 3) := by decide +kernel
theorem dX12_raw_26 : decode cX12_raw 26 = .ok (.aload_n 0, 1) := by decide +kernel
theorem dX12_raw_27 : decode cX12_raw 27 = .ok (.iload_n 2, 1) := by decide +kernel
theorem dX12_raw_28 : decode cX12_raw 28 = .ok (.invokestatic 397, 3) := by decide +kernel
theorem dX12_raw_31 : decode cX12_raw 31 = .ok (.ifCond .ne 7, 3) := by decide +kernel
theorem dX12_raw_34 : decode cX12_raw 34 = .ok (.iconst 1, 1) := by decide +kernel
theorem dX12_raw_35 : decode cX12_raw 35 = .ok (.goto 4, 3) := by decide +kernel
theorem dX12_raw_38 : decode cX12_raw 38 = .ok (.iconst 0, 1) := by decide +kernel
theorem dX12_raw_39 : decode cX12_raw 39 = .ok (.iconst 2, 1) := by decide +kernel
theorem dX12_raw_40 : decode cX12_raw 40 = .ok (.invokevirtual 185, 3) := by decide +kernel
theorem dX12_raw_43 : decode cX12_raw 43 = .ok (.ifCond .eq 7, 3) := by decide +kernel
theorem dX12_raw_46 : decode cX12_raw 46 = .ok (.lconst 0, 1) := by decide +kernel
theorem dX12_raw_47 : decode cX12_raw 47 = .ok (.goto 13, 3) := by decide +kernel
theorem dX12_raw_50 : decode cX12_raw 50 = .ok (.aload_n 0, 1) := by decide +kernel
theorem dX12_raw_51 : decode cX12_raw 51 = .ok (.getfield 72, 3) := by decide +kernel
theorem dX12_raw_54 : decode cX12_raw 54 = .ok (.iconst 2, 1) := by decide +kernel
theorem dX12_raw_55 : decode cX12_raw 55 = .ok (.iload_n 1, 1) := by decide +kernel
theorem dX12_raw_56 : decode cX12_raw 56 = .ok (.imul, 1) := by decide +kernel
theorem dX12_raw_57 : decode cX12_raw 57 = .ok (.iload_n 2, 1) := by decide +kernel
theorem dX12_raw_58 : decode cX12_raw 58 = .ok (.iadd, 1) := by decide +kernel
theorem dX12_raw_59 : decode cX12_raw 59 = .ok (.laload, 1) := by decide +kernel
theorem dX12_raw_60 : decode cX12_raw 60 = .ok (.lreturn, 1) := by decide +kernel
set_option maxRecDepth 20000 in
theorem ggX12_estimate_X12_isKey : GoodIn wsX12_estimate wsX12_isKey := (goodIn_ca (goodIn_r _ [7, 8, 9, 10, 6, 11] rfl (by decide +kernel)) (goodIn_sub (fun _ h => List.mem_cons_of_mem _ (List.mem_append_left _ (List.mem_append_right _ h))) gw_wsX120))
set_option maxRecDepth 20000 in
theorem gX12_estimate_X12_isKey : GoodIn wsX12_estimate (wsV RX12 394 RX12 yX12_isKey wsX12_isKey) := goodIn_app (goodIn_m (mem_cA (List.mem_cons_of_mem _ (List.mem_append_left _ (List.mem_append_left _ (List.mem_of_getElem? (i := 2) rfl)))) (mem_cA (List.mem_cons_of_mem _ (List.mem_append_left _ (List.mem_append_left _ (List.mem_of_getElem? (i := 3) rfl)))) (mem_cA (List.mem_cons_of_mem _ (List.mem_append_left _ (List.mem_append_left _ (List.mem_of_getElem? (i := 4) rfl)))) (mem_cA (List.mem_cons_of_mem _ (List.mem_append_left _ (List.mem_append_left _ (List.mem_of_getElem? (i := 5) rfl)))) mem_cZ)))) (by decide +kernel)) ggX12_estimate_X12_isKey
set_option maxRecDepth 20000 in
theorem ggX12_estimate_X12_throwsIf : GoodIn wsX12_estimate wsX12_throwsIf := (goodIn_ca (goodIn_r _ [15, 1] rfl (by decide +kernel)) (goodIn_sub (fun _ h => List.mem_cons_of_mem _ (List.mem_append_left _ (List.mem_append_right _ h))) gw_wsX120))
set_option maxRecDepth 20000 in
theorem gX12_estimate_X12_throwsIf : GoodIn wsX12_estimate (wsV RX12 185 RX12 yX12_throwsIf wsX12_throwsIf) := goodIn_app (goodIn_m (mem_cA (List.mem_cons_of_mem _ (List.mem_append_left _ (List.mem_append_left _ (List.mem_of_getElem? (i := 11) rfl)))) (mem_cA (List.mem_cons_of_mem _ (List.mem_append_left _ (List.mem_append_left _ (List.mem_of_getElem? (i := 12) rfl)))) (mem_cA (List.mem_cons_of_mem _ (List.mem_append_left _ (List.mem_append_left _ (List.mem_of_getElem? (i := 13) rfl)))) (mem_cA (List.mem_cons_of_mem _ (List.mem_append_left _ (List.mem_append_left _ (List.mem_of_getElem? (i := 5) rfl)))) mem_cZ)))) (by decide +kernel)) ggX12_estimate_X12_throwsIf
set_option maxRecDepth 20000 in
theorem ggX12_estimate_X12_isWhat : GoodIn wsX12_estimate wsX12_isWhat := (goodIn_r _ [18, 9, 10, 6, 11] rfl (by decide +kernel))
set_option maxRecDepth 20000 in
theorem gX12_estimate_X12_isWhat : GoodIn wsX12_estimate (va_wsS RX12 397 yX12_isWhat wsX12_isWhat) := goodIn_app (goodIn_m (mem_cA (List.mem_cons_of_mem _ (List.mem_append_left _ (List.mem_append_left _ (List.mem_of_getElem? (i := 15) rfl)))) (mem_cA (List.mem_cons_of_mem _ (List.mem_append_left _ (List.mem_append_left _ (List.mem_of_getElem? (i := 16) rfl)))) (mem_cA (List.mem_cons_of_mem _ (List.mem_append_left _ (List.mem_append_left _ (List.mem_of_getElem? (i := 5) rfl)))) mem_cZ))) (by decide +kernel)) ggX12_estimate_X12_isWhat
theorem dX12_estimate_0 : decode cX12_estimate 0 = .ok (.aload_n 0, 1) := by decide +kernel
theorem dX12_estimate_1 : decode cX12_estimate 1 = .ok (.iconst 0, 1) := by decide +kernel
theorem dX12_estimate_2 : decode cX12_estimate 2 = .ok (.putfield 1, 3) := by decide +kernel
theorem dX12_estimate_5 : decode cX12_estimate 5 = .ok (.aload_n 0, 1) := by decide +kernel
theorem dX12_estimate_6 : decode cX12_estimate 6 = .ok (.aload_n 0, 1) := by decide +kernel
theorem dX12_estimate_7 : decode cX12_estimate 7 = .ok (.iload_n 1, 1) := by decide +kernel
theorem dX12_estimate_8 : decode cX12_estimate 8 = .ok (.invokevirtual 394, 3) := by decide +kernel
theorem dX12_estimate_11 : decode cX12_estimate 11 = .ok (.ifCond .ne 7, 3) := by decide +kernel
theorem dX12_estimate_14 : decode cX12_estimate 14 = .ok (.iconst 1, 1) := by decide +kernel
theorem dX12_estimate_15 : decode cX12_estimate 15 = .ok (.goto 4, 3) := by decide +kernel
theorem dX12_estimate_18 : decode cX12_estimate 18 = .ok (.iconst 0, 1) := by decide +kernel
theorem dX12_estimate_19 : decode cX12_estimate 19 = .ok (.iconst 1, 1) := by decide +kernel
theorem dX12_estimate_20 : decode cX12_estimate 20 = .ok (.invokevirtual 185, 3) := by decide +kernel
theorem dX12_estimate_23 : decode cX12_estimate 23 = .ok (.ifCond .ne 23, 3) := by decide +kernel
theorem dX12_estimate_26 : decode cX12_estimate 26 = .ok (.aload_n 0, 1) := by decide +kernel
theorem dX12_estimate_27 : decode cX12_estimate 27 = .ok (.iload_n 2, 1) := by decide +kernel
theorem dX12_estimate_28 : decode cX12_estimate 28 = .ok (.invokestatic 397, 3) := by decide +kernel
theorem dX12_estimate_31 : decode cX12_estimate 31 = .ok (.ifCond .ne 7, 3) := by decide +kernel
theorem dX12_estimate_34 : decode cX12_estimate 34 = .ok (.iconst 1, 1) := by decide +kernel
theorem dX12_estimate_35 : decode cX12_estimate 35 = .ok (.goto 4, 3) := by decide +kernel
theorem dX12_estimate_38 : decode cX12_estimate 38 = .ok (.iconst 0, 1) := by decide +kernel
theorem dX12_estimate_39 : decode cX12_estimate 39 = .ok (.iconst 2, 1) := by decide +kernel
theorem dX12_estimate_40 : decode cX12_estimate 40 = .ok (.invokevirtual 185, 3) := by decide +kernel
theorem dX12_estimate_43 : decode cX12_estimate 43 = .ok (.ifCond .eq 7, 3) := by decide +kernel
theorem dX12_estimate_46 : decode cX12_estimate 46 = .ok (.lconst 0, 1) := by decide +kernel
theorem dX12_estimate_47 : decode cX12_estimate 47 = .ok (.goto 13, 3) := by decide +kernel
theorem dX12_estimate_50 : decode cX12_estimate 50 = .ok (.aload_n 0, 1) := by decide +kernel
theorem dX12_estimate_51 : decode cX12_estimate 51 = .ok (.getfield 75, 3) := by decide +kernel
theorem dX12_estimate_54 : decode cX12_estimate 54 = .ok (.iconst 2, 1) := by decide +kernel
theorem dX12_estimate_55 : decode cX12_estimate 55 = .ok (.iload_n 1, 1) := by decide +kernel
theorem dX12_estimate_56 : decode cX12_estimate 56 = .ok (.imul, 1) := by decide +kernel
theorem dX12_estimate_57 : decode cX12_estimate 57 = .ok (.iload_n 2, 1) := by decide +kernel
theorem dX12_estimate_58 : decode cX12_estimate 58 = .ok (.iadd, 1) := by decide +kernel
theorem dX12_estimate_59 : decode cX12_estimate 59 = .ok (.laload, 1) := by decide +kernel
theorem dX12_estimate_60 : decode cX12_estimate 60 = .ok (.lreturn, 1) := by decide +kernel
set_option maxHeartbeats 4000000 in
set_option maxRecDepth 100000 in
theorem r_find (G : EnvG) (l : Launch) (Φ : Hm) (sz x : Nat) (rd : (Nat → Int32) → Prop) (nw : (Nat → Int32) → Prop) (cr : (Nat → Int64) → Prop) (tp : (Nat → Int32) → Prop) (tt : (Nat → Int64) → Prop) (sI : (Nat → Int32) → Prop) (sT : (Nat → Int32) → Prop) (pt : (Nat → Int32) → Prop) (ql : (Nat → Int32) → Prop) (fl : Nat) (pe : Nat) (le : Nat) (nx : Nat) (il : Nat) (qu : Nat) (kn : Int32) (ec : Int32) (nu : Int32) (va : Int64) (st : Nat) (ep : Int32) (ti : Int32) (ad : Int32) (ob : Int64) (ra : Int32) (rt : Nat) (ex : Int32) (sa : Int64) (us : Int64) (tk : Nat) (th : Int32) (me : Int32) (dr : Int32) (se : Int64) (sn : Int64) (a : Int32) (b : Int32) (d : Int32) (f : Int32) (hx : G.2.2.2 ≤ x) (hI : Im G x (rd, nw, cr, tp, tt, sI, sT, pt, ql, fl, pe, le, nx, il, qu, kn, ec, nu, va, st, ep, ti, ad, ob, ra, rt, ex, sa, us, tk, th, me, dr, se, sn) Φ) (hnw : ∀ f9 : Nat → Int32, nw f9 → NN f9) : Ct G l yX12_find wsX12_find ({ frames := 2, cells := 0, slots := 0, locals := 58 }) 0 0 [.ref x, .int a, .int b, .int d, .int f] Φ sz (fun v Φ1 sz1 => (∃ r9 : Int32, v = some (.int r9)) ∧ sz1 = sz ∧ (∃ (th1 : Int32), Im G x (rd, nw, cr, tp, tt, sI, sT, pt, ql, fl, pe, le, nx, il, qu, kn, ec, nu, va, st, ep, ti, ad, ob, ra, rt, ex, sa, us, tk, th1, me, dr, se, sn) Φ1) ∧ Fr x (fun j9 => j9 = 0) Φ Φ1) := by
  refine Ct.of (cc := cX12_find) (maxL := 5) (ret := (some .int)) (by decide) rfl (Nat.le_of_ble_eq_true rfl) ?_
  intro p9 e9 s9 m9 w9 t9 k9 B
  show Z p9 l e9 _ s9 m9 _ w9 t9 k9 _ G 5 0 [(0, .ref x), (1, .int a), (2, .int b), (3, .int d), (4, .int f)] [] Φ sz 0 0
  refine z_aload_n B dX12_find_0 rfl 0 rfl ?_
  refine z_iconst (v := 0) B dX12_find_1 rfl ?_
  obtain ⟨n_1, v_1, n_2, h_1, b_13, b_1, b_2, b_3, b_4, b_5, b_6, b_7, b_8, b_9, b_10, b_11, b_12⟩ := im0 hI
  replace b_1 : 1 ≤ rt := b_1
  replace b_2 : rt ≤ 1024 := b_2
  replace b_3 : fl ≤ 12 := b_3
  replace b_4 : pe ≤ 24 := b_4
  replace b_5 : le ≤ 700 := b_5
  replace b_6 : qu ≤ 12 := b_6
  replace b_7 : n_1 ≤ 8 := b_7
  replace b_8 : n_2 ≤ 24 := b_8
  replace b_9 : tk ≤ 24 := b_9
  replace b_10 : il ≤ 700 := b_10
  replace b_11 : nx ≤ 701 := b_11
  replace b_12 : st ≤ 701 := b_12
  have h_2 : Φ x = some (o_ 14 [.int th, .ref (x + 1), .ref (x + 2), .int ti, .int ra, .int (nI rt), .int ex, .int ad, .ref (x + 3), .ref (x + 4), .int me, .long se, .ref (x + 5), .int (nI fl), .int dr, .long ob, .long sa, .long sn, .long us, .ref (x + 6), .ref (x + 7), .int (nI pe), .ref (x + 8), .int (nI le), .ref (x + 9), .ref (x + 10), .int (nI qu), .ref (x + 11), .ref (x + 12), .ref (x + 13), .ref (x + 14), .ref (x + 15), .ref (x + 16), .int (nI n_1), .long v_1, .ref (x + 17), .ref (x + 18), .ref (x + 19), .ref (x + 20), .ref (x + 21), .ref (x + 22), .int (nI n_2), .ref (x + 23), .ref (x + 24), .int (nI tk), .ref (x + 25), .int (nI il), .int (nI nx), .int ec, .int ep, .int kn, .int (nI st), .int nu, .long va]) := h_1
  refine z_put (ref := "FlowExporterModel") (C := RX12) (T := TX12) (N := 54) (ci := 14) (v := .int 0) B hu_X12_find_X12 tyX12 tyX12_ok nmX12 rfl 0 (Nat.le_of_ble_eq_true rfl) hv_X12_find_1 rfl (Or.inl rfl) h_2 hx rfl rfl (Nat.le_of_ble_eq_true rfl) dX12_find_2 (fun Φ1 hΦ1 => ?_)
  have h_3 : Φ1 x = some (o_ 14 [.int 0, .ref (x + 1), .ref (x + 2), .int ti, .int ra, .int (nI rt), .int ex, .int ad, .ref (x + 3), .ref (x + 4), .int me, .long se, .ref (x + 5), .int (nI fl), .int dr, .long ob, .long sa, .long sn, .long us, .ref (x + 6), .ref (x + 7), .int (nI pe), .ref (x + 8), .int (nI le), .ref (x + 9), .ref (x + 10), .int (nI qu), .ref (x + 11), .ref (x + 12), .ref (x + 13), .ref (x + 14), .ref (x + 15), .ref (x + 16), .int (nI n_1), .long v_1, .ref (x + 17), .ref (x + 18), .ref (x + 19), .ref (x + 20), .ref (x + 21), .ref (x + 22), .int (nI n_2), .ref (x + 23), .ref (x + 24), .int (nI tk), .ref (x + 25), .int (nI il), .int (nI nx), .int ec, .int ep, .int kn, .int (nI st), .int nu, .long va]) := fset_at hΦ1
  have hI1 : Im G x (rd, nw, cr, tp, tt, sI, sT, pt, ql, fl, pe, le, nx, il, qu, kn, ec, nu, va, st, ep, ti, ad, ob, ra, rt, ex, sa, us, tk, 0, me, dr, se, sn) Φ1 := Im.put0 hI hΦ1 ⟨n_1, v_1, n_2, rfl, b_13, b_1, b_2, b_3, b_4, b_5, b_6, b_7, b_8, b_9, b_10, b_11, b_12⟩
  refine z_aload_n B dX12_find_5 rfl 0 rfl ?_
  refine z_iload_n B dX12_find_6 rfl 1 rfl ?_
  refine z_i2l (v := a.toInt64) B dX12_find_7 rfl ?_
  refine z_iload_n B dX12_find_8 rfl 2 rfl ?_
  refine z_i2l (v := b.toInt64) B dX12_find_9 rfl ?_
  refine z_iload_n B dX12_find_10 rfl 3 rfl ?_
  refine z_i2l (v := d.toInt64) B dX12_find_11 rfl ?_
  refine z_iload B dX12_find_12 4 rfl ?_
  refine z_i2l (v := f.toInt64) B dX12_find_14 rfl ?_
  refine z_callV (As := [.long a.toInt64, .long b.toInt64, .long d.toInt64, .long f.toInt64]) (rest := []) B (r_keyOf G l Φ1 sz x rd nw cr tp tt sI sT pt ql fl pe le nx il qu kn ec nu va st ep ti ad ob ra rt ex sa us tk 0 me dr se sn a.toInt64 b.toInt64 d.toInt64 f.toInt64 hx hI1 hnw) (cwV 4 B.1.2.2.2.2 gX12_find_X12_keyOf rfl rfl rfl (by decide +kernel) ⟨Nat.le_of_ble_eq_true rfl, Nat.le_of_ble_eq_true rfl⟩) h_3 rfl rfl rfl rfl (Nat.le_of_ble_eq_true rfl) dX12_find_15 ⟨Nat.le_of_ble_eq_true rfl, Nat.le_of_ble_eq_true rfl⟩ (fun r_1 Φ2 sz1 st1 hp1 hs1 => ?_)
  obtain ⟨ha1, hq1, hI2, hF1⟩ := hp1
  subst sz1
  replace hI2 : Im G x (rd, nw, cr, tp, tt, sI, sT, pt, ql, fl, pe, le, nx, il, qu, kn, ec, nu, va, st, ep, ti, ad, ob, ra, rt, ex, sa, us, tk, 0, me, dr, se, sn) Φ2 := hI2
  rcases ha1 with rfl | ⟨n_3, b_14, rfl⟩
  · replace hs1 : st1 = [.int (-1)] := hs1
    subst st1
    exact z_ret_i B dX12_find_18 ⟨⟨_, rfl⟩, rfl, ⟨0, hI2⟩, (fun b9 h9 => ((hF1 b9 (fun j9 h8 h7 => (show False from h7).elim)).trans ((fset_fr hΦ1 (fun h8 => h9 (0) h8 (show 0 = 0 by decide))).trans rfl)))⟩
  · replace hs1 : st1 = [.int (nI n_3)] := hs1
    subst st1
    replace b_14 : n_3 < 24 := b_14
    exact z_ret_i B dX12_find_18 ⟨⟨_, rfl⟩, rfl, ⟨0, hI2⟩, (fun b9 h9 => ((hF1 b9 (fun j9 h8 h7 => (show False from h7).elim)).trans ((fset_fr hΦ1 (fun h8 => h9 (0) h8 (show 0 = 0 by decide))).trans rfl)))⟩

theorem hu_X12_raw_X12 : ∀ w ∈ u_ws RX12 TX12 54, w ∈ wsX12_raw := fun _ h => List.mem_cons_of_mem _ (List.mem_append_left _ (List.mem_append_right _ (h)))

theorem hv_X12_raw_1 : Cond.fieldLink RX12 1 "FlowExporterModel" (TX12 0).2.1 (TX12 0).2.2.1 ∈ wsX12_raw := List.mem_cons_of_mem _ (List.mem_append_left _ (List.mem_append_left _ (List.mem_of_getElem? (i := 0) rfl)))

theorem hv_X12_raw_72 : Cond.fieldLink RX12 72 "FlowExporterModel" (TX12 38).2.1 (TX12 38).2.2.1 ∈ wsX12_raw := List.mem_cons_of_mem _ (List.mem_append_left _ (List.mem_append_left _ (List.mem_of_getElem? (i := 1) rfl)))

set_option maxHeartbeats 4000000 in
set_option maxRecDepth 100000 in
theorem r_raw (G : EnvG) (l : Launch) (Φ : Hm) (sz x : Nat) (rd : (Nat → Int32) → Prop) (nw : (Nat → Int32) → Prop) (cr : (Nat → Int64) → Prop) (tp : (Nat → Int32) → Prop) (tt : (Nat → Int64) → Prop) (sI : (Nat → Int32) → Prop) (sT : (Nat → Int32) → Prop) (pt : (Nat → Int32) → Prop) (ql : (Nat → Int32) → Prop) (fl : Nat) (pe : Nat) (le : Nat) (nx : Nat) (il : Nat) (qu : Nat) (kn : Int32) (ec : Int32) (nu : Int32) (va : Int64) (st : Nat) (ep : Int32) (ti : Int32) (ad : Int32) (ob : Int64) (ra : Int32) (rt : Nat) (ex : Int32) (sa : Int64) (us : Int64) (tk : Nat) (th : Int32) (me : Int32) (dr : Int32) (se : Int64) (sn : Int64) (a : Int32) (b : Int32) (hx : G.2.2.2 ≤ x) (hI : Im G x (rd, nw, cr, tp, tt, sI, sT, pt, ql, fl, pe, le, nx, il, qu, kn, ec, nu, va, st, ep, ti, ad, ob, ra, rt, ex, sa, us, tk, th, me, dr, se, sn) Φ) (hnw : ∀ f9 : Nat → Int32, nw f9 → NN f9) : Ct G l yX12_raw wsX12_raw ({ frames := 2, cells := 0, slots := 0, locals := 46 }) 0 0 [.ref x, .int a, .int b] Φ sz (fun v Φ1 sz1 => (∃ r9 : Int64, v = some (.long r9)) ∧ sz1 = sz ∧ (∃ (th1 : Int32), Im G x (rd, nw, cr, tp, tt, sI, sT, pt, ql, fl, pe, le, nx, il, qu, kn, ec, nu, va, st, ep, ti, ad, ob, ra, rt, ex, sa, us, tk, th1, me, dr, se, sn) Φ1) ∧ Fr x (fun j9 => j9 = 0) Φ Φ1) := by
  refine Ct.of (cc := cX12_raw) (maxL := 3) (ret := (some .long)) (by decide) rfl (Nat.le_of_ble_eq_true rfl) ?_
  intro p9 e9 s9 m9 w9 t9 k9 B
  show Z p9 l e9 _ s9 m9 _ w9 t9 k9 _ G 3 0 [(0, .ref x), (1, .int a), (2, .int b)] [] Φ sz 0 0
  refine z_aload_n B dX12_raw_0 rfl 0 rfl ?_
  refine z_iconst (v := 0) B dX12_raw_1 rfl ?_
  obtain ⟨n_1, v_1, n_2, h_1, b_13, b_1, b_2, b_3, b_4, b_5, b_6, b_7, b_8, b_9, b_10, b_11, b_12⟩ := im0 hI
  replace b_1 : 1 ≤ rt := b_1
  replace b_2 : rt ≤ 1024 := b_2
  replace b_3 : fl ≤ 12 := b_3
  replace b_4 : pe ≤ 24 := b_4
  replace b_5 : le ≤ 700 := b_5
  replace b_6 : qu ≤ 12 := b_6
  replace b_7 : n_1 ≤ 8 := b_7
  replace b_8 : n_2 ≤ 24 := b_8
  replace b_9 : tk ≤ 24 := b_9
  replace b_10 : il ≤ 700 := b_10
  replace b_11 : nx ≤ 701 := b_11
  replace b_12 : st ≤ 701 := b_12
  have h_2 : Φ x = some (o_ 14 [.int th, .ref (x + 1), .ref (x + 2), .int ti, .int ra, .int (nI rt), .int ex, .int ad, .ref (x + 3), .ref (x + 4), .int me, .long se, .ref (x + 5), .int (nI fl), .int dr, .long ob, .long sa, .long sn, .long us, .ref (x + 6), .ref (x + 7), .int (nI pe), .ref (x + 8), .int (nI le), .ref (x + 9), .ref (x + 10), .int (nI qu), .ref (x + 11), .ref (x + 12), .ref (x + 13), .ref (x + 14), .ref (x + 15), .ref (x + 16), .int (nI n_1), .long v_1, .ref (x + 17), .ref (x + 18), .ref (x + 19), .ref (x + 20), .ref (x + 21), .ref (x + 22), .int (nI n_2), .ref (x + 23), .ref (x + 24), .int (nI tk), .ref (x + 25), .int (nI il), .int (nI nx), .int ec, .int ep, .int kn, .int (nI st), .int nu, .long va]) := h_1
  refine z_put (ref := "FlowExporterModel") (C := RX12) (T := TX12) (N := 54) (ci := 14) (v := .int 0) B hu_X12_raw_X12 tyX12 tyX12_ok nmX12 rfl 0 (Nat.le_of_ble_eq_true rfl) hv_X12_raw_1 rfl (Or.inl rfl) h_2 hx rfl rfl (Nat.le_of_ble_eq_true rfl) dX12_raw_2 (fun Φ1 hΦ1 => ?_)
  have h_3 : Φ1 x = some (o_ 14 [.int 0, .ref (x + 1), .ref (x + 2), .int ti, .int ra, .int (nI rt), .int ex, .int ad, .ref (x + 3), .ref (x + 4), .int me, .long se, .ref (x + 5), .int (nI fl), .int dr, .long ob, .long sa, .long sn, .long us, .ref (x + 6), .ref (x + 7), .int (nI pe), .ref (x + 8), .int (nI le), .ref (x + 9), .ref (x + 10), .int (nI qu), .ref (x + 11), .ref (x + 12), .ref (x + 13), .ref (x + 14), .ref (x + 15), .ref (x + 16), .int (nI n_1), .long v_1, .ref (x + 17), .ref (x + 18), .ref (x + 19), .ref (x + 20), .ref (x + 21), .ref (x + 22), .int (nI n_2), .ref (x + 23), .ref (x + 24), .int (nI tk), .ref (x + 25), .int (nI il), .int (nI nx), .int ec, .int ep, .int kn, .int (nI st), .int nu, .long va]) := fset_at hΦ1
  have hI1 : Im G x (rd, nw, cr, tp, tt, sI, sT, pt, ql, fl, pe, le, nx, il, qu, kn, ec, nu, va, st, ep, ti, ad, ob, ra, rt, ex, sa, us, tk, 0, me, dr, se, sn) Φ1 := Im.put0 hI hΦ1 ⟨n_1, v_1, n_2, rfl, b_13, b_1, b_2, b_3, b_4, b_5, b_6, b_7, b_8, b_9, b_10, b_11, b_12⟩
  refine z_aload_n B dX12_raw_5 rfl 0 rfl ?_
  refine z_aload_n B dX12_raw_6 rfl 0 rfl ?_
  refine z_iload_n B dX12_raw_7 rfl 1 rfl ?_
  refine z_callV (As := [.int a]) (rest := [.ref x]) B (r_isKey G l Φ1 sz x rd nw cr tp tt sI sT pt ql fl pe le nx il qu kn ec nu va st ep ti ad ob ra rt ex sa us tk 0 me dr se sn a hx hI1 hnw) (cwV 1 B.1.2.2.2.2 gX12_raw_X12_isKey rfl rfl rfl (by decide +kernel) ⟨Nat.le_of_ble_eq_true rfl, Nat.le_of_ble_eq_true rfl⟩) h_3 rfl rfl rfl rfl (Nat.le_of_ble_eq_true rfl) dX12_raw_8 ⟨Nat.le_of_ble_eq_true rfl, Nat.le_of_ble_eq_true rfl⟩ (fun r_1 Φ2 sz1 st1 hp1 hs1 => ?_)
  obtain ⟨ha1, hq1, hI2, hF1⟩ := hp1
  subst sz1
  replace hI2 : Im G x (rd, nw, cr, tp, tt, sI, sT, pt, ql, fl, pe, le, nx, il, qu, kn, ec, nu, va, st, ep, ti, ad, ob, ra, rt, ex, sa, us, tk, 0, me, dr, se, sn) Φ2 := hI2
  rcases ha1 with rfl | ⟨rfl, n_3, b_14, rfl⟩
  · replace hs1 : st1 = [.int 0, .ref x] := hs1
    subst st1
    refine z_if_ne (tgt := 18) B dX12_raw_11 rfl (fun h9 => absurd (by decide) h9) (fun c_1 => ?_)
    refine z_iconst (v := 1) B dX12_raw_14 rfl ?_
    refine z_goto (tgt := 19) B dX12_raw_15 rfl ?_
    refine z_iconst (v := 1) B dX12_raw_19 rfl ?_
    have h_4 : Φ2 x = some (o_ 14 [.int 0, .ref (x + 1), .ref (x + 2), .int ti, .int ra, .int (nI rt), .int ex, .int ad, .ref (x + 3), .ref (x + 4), .int me, .long se, .ref (x + 5), .int (nI fl), .int dr, .long ob, .long sa, .long sn, .long us, .ref (x + 6), .ref (x + 7), .int (nI pe), .ref (x + 8), .int (nI le), .ref (x + 9), .ref (x + 10), .int (nI qu), .ref (x + 11), .ref (x + 12), .ref (x + 13), .ref (x + 14), .ref (x + 15), .ref (x + 16), .int (nI n_1), .long v_1, .ref (x + 17), .ref (x + 18), .ref (x + 19), .ref (x + 20), .ref (x + 21), .ref (x + 22), .int (nI n_2), .ref (x + 23), .ref (x + 24), .int (nI tk), .ref (x + 25), .int (nI il), .int (nI nx), .int ec, .int ep, .int kn, .int (nI st), .int nu, .long va]) := ((hF1 x (fun j9 h8 h7 => (show False from h7).elim)).trans h_3)
    refine z_callV (As := [.int 1, .int 1]) (rest := []) B (r_throwsIf G l Φ2 sz x rd nw cr tp tt sI sT pt ql fl pe le nx il qu kn ec nu va st ep ti ad ob ra rt ex sa us tk 0 me dr se sn 1 1 hx hI2 (by decide) hnw) (cwV 2 B.1.2.2.2.2 gX12_raw_X12_throwsIf rfl rfl rfl (by decide +kernel) ⟨Nat.le_of_ble_eq_true rfl, Nat.le_of_ble_eq_true rfl⟩) h_4 rfl rfl rfl rfl (Nat.le_of_ble_eq_true rfl) dX12_raw_20 ⟨Nat.le_of_ble_eq_true rfl, Nat.le_of_ble_eq_true rfl⟩ (fun r_2 Φ3 sz2 st2 hp2 hs2 => ?_)
    obtain ⟨rfl, hq2, ⟨v_2, hI3⟩, hF2⟩ := hp2
    subst sz2
    replace hs2 : st2 = [.int 1] := hs2
    subst st2
    replace hI3 : Im G x (rd, nw, cr, tp, tt, sI, sT, pt, ql, fl, pe, le, nx, il, qu, kn, ec, nu, va, st, ep, ti, ad, ob, ra, rt, ex, sa, us, tk, v_2, me, dr, se, sn) Φ3 := hI3
    refine z_if_ne (tgt := 46) B dX12_raw_23 rfl (fun c_2 => ?_) (fun h9 => absurd h9 (by decide))
    refine z_lconst (v := 0) B dX12_raw_46 rfl ?_
    refine z_goto (tgt := 60) B dX12_raw_47 rfl ?_
    exact z_ret_l B dX12_raw_60 ⟨⟨_, rfl⟩, rfl, ⟨v_2, hI3⟩, (fun b9 h9 => ((hF2 b9 h9).trans ((hF1 b9 (fun j9 h8 h7 => (show False from h7).elim)).trans ((fset_fr hΦ1 (fun h8 => h9 (0) h8 (show 0 = 0 by decide))).trans rfl))))⟩
  · replace hs1 : st1 = [.int 1, .ref x] := hs1
    subst st1
    replace b_14 : n_3 < 24 := b_14
    refine z_if_ne (tgt := 18) B dX12_raw_11 rfl (fun c_3 => ?_) (fun h9 => absurd h9 (by decide))
    refine z_iconst (v := 0) B dX12_raw_18 rfl ?_
    refine z_iconst (v := 1) B dX12_raw_19 rfl ?_
    have h_5 : Φ2 x = some (o_ 14 [.int 0, .ref (x + 1), .ref (x + 2), .int ti, .int ra, .int (nI rt), .int ex, .int ad, .ref (x + 3), .ref (x + 4), .int me, .long se, .ref (x + 5), .int (nI fl), .int dr, .long ob, .long sa, .long sn, .long us, .ref (x + 6), .ref (x + 7), .int (nI pe), .ref (x + 8), .int (nI le), .ref (x + 9), .ref (x + 10), .int (nI qu), .ref (x + 11), .ref (x + 12), .ref (x + 13), .ref (x + 14), .ref (x + 15), .ref (x + 16), .int (nI n_1), .long v_1, .ref (x + 17), .ref (x + 18), .ref (x + 19), .ref (x + 20), .ref (x + 21), .ref (x + 22), .int (nI n_2), .ref (x + 23), .ref (x + 24), .int (nI tk), .ref (x + 25), .int (nI il), .int (nI nx), .int ec, .int ep, .int kn, .int (nI st), .int nu, .long va]) := ((hF1 x (fun j9 h8 h7 => (show False from h7).elim)).trans h_3)
    refine z_callV (As := [.int 0, .int 1]) (rest := []) B (r_throwsIf G l Φ2 sz x rd nw cr tp tt sI sT pt ql fl pe le nx il qu kn ec nu va st ep ti ad ob ra rt ex sa us tk 0 me dr se sn 0 1 hx hI2 (by decide) hnw) (cwV 2 B.1.2.2.2.2 gX12_raw_X12_throwsIf rfl rfl rfl (by decide +kernel) ⟨Nat.le_of_ble_eq_true rfl, Nat.le_of_ble_eq_true rfl⟩) h_5 rfl rfl rfl rfl (Nat.le_of_ble_eq_true rfl) dX12_raw_20 ⟨Nat.le_of_ble_eq_true rfl, Nat.le_of_ble_eq_true rfl⟩ (fun r_3 Φ4 sz3 st3 hp3 hs3 => ?_)
    obtain ⟨rfl, hq3, ⟨v_3, hI4⟩, hF3⟩ := hp3
    subst sz3
    replace hs3 : st3 = [.int 0] := hs3
    subst st3
    replace hI4 : Im G x (rd, nw, cr, tp, tt, sI, sT, pt, ql, fl, pe, le, nx, il, qu, kn, ec, nu, va, st, ep, ti, ad, ob, ra, rt, ex, sa, us, tk, v_3, me, dr, se, sn) Φ4 := hI4
    refine z_if_ne (tgt := 46) B dX12_raw_23 rfl (fun h9 => absurd (by decide) h9) (fun c_4 => ?_)
    refine z_aload_n B dX12_raw_26 rfl 0 rfl ?_
    refine z_iload_n B dX12_raw_27 rfl 2 rfl ?_
    refine z_callS (As := [.int b]) (rest := [.ref x]) B (r_isWhat G l Φ4 sz x rd nw cr tp tt sI sT pt ql fl pe le nx il qu kn ec nu va st ep ti ad ob ra rt ex sa us tk v_3 me dr se sn b hx hI4 hnw) (va_cwS 1 B.1.2.2.2.2 gX12_raw_X12_isWhat rfl rfl rfl (by decide +kernel) ⟨Nat.le_of_ble_eq_true rfl, Nat.le_of_ble_eq_true rfl⟩) rfl rfl (Nat.le_of_ble_eq_true rfl) dX12_raw_28 ⟨Nat.le_of_ble_eq_true rfl, Nat.le_of_ble_eq_true rfl⟩ (fun r_4 Φ5 sz4 st4 hp4 hs4 => ?_)
    obtain ⟨ha2, hq4, hI5, hF4⟩ := hp4
    subst sz4
    replace hI5 : Im G x (rd, nw, cr, tp, tt, sI, sT, pt, ql, fl, pe, le, nx, il, qu, kn, ec, nu, va, st, ep, ti, ad, ob, ra, rt, ex, sa, us, tk, v_3, me, dr, se, sn) Φ5 := hI5
    rcases ha2 with rfl | ⟨rfl, n_4, b_15, rfl⟩
    · replace hs4 : st4 = [.int 0, .ref x] := hs4
      subst st4
      refine z_if_ne (tgt := 38) B dX12_raw_31 rfl (fun h9 => absurd (by decide) h9) (fun c_5 => ?_)
      refine z_iconst (v := 1) B dX12_raw_34 rfl ?_
      refine z_goto (tgt := 39) B dX12_raw_35 rfl ?_
      refine z_iconst (v := 2) B dX12_raw_39 rfl ?_
      obtain ⟨n_5, v_4, n_6, h_6, b_28, b_16, b_17, b_18, b_19, b_20, b_21, b_22, b_23, b_24, b_25, b_26, b_27⟩ := im0 hI5
      replace b_16 : 1 ≤ rt := b_16
      replace b_17 : rt ≤ 1024 := b_17
      replace b_18 : fl ≤ 12 := b_18
      replace b_19 : pe ≤ 24 := b_19
      replace b_20 : le ≤ 700 := b_20
      replace b_21 : qu ≤ 12 := b_21
      replace b_22 : n_5 ≤ 8 := b_22
      replace b_23 : n_6 ≤ 24 := b_23
      replace b_24 : tk ≤ 24 := b_24
      replace b_25 : il ≤ 700 := b_25
      replace b_26 : nx ≤ 701 := b_26
      replace b_27 : st ≤ 701 := b_27
      have h_7 : Φ5 x = some (o_ 14 [.int v_3, .ref (x + 1), .ref (x + 2), .int ti, .int ra, .int (nI rt), .int ex, .int ad, .ref (x + 3), .ref (x + 4), .int me, .long se, .ref (x + 5), .int (nI fl), .int dr, .long ob, .long sa, .long sn, .long us, .ref (x + 6), .ref (x + 7), .int (nI pe), .ref (x + 8), .int (nI le), .ref (x + 9), .ref (x + 10), .int (nI qu), .ref (x + 11), .ref (x + 12), .ref (x + 13), .ref (x + 14), .ref (x + 15), .ref (x + 16), .int (nI n_5), .long v_4, .ref (x + 17), .ref (x + 18), .ref (x + 19), .ref (x + 20), .ref (x + 21), .ref (x + 22), .int (nI n_6), .ref (x + 23), .ref (x + 24), .int (nI tk), .ref (x + 25), .int (nI il), .int (nI nx), .int ec, .int ep, .int kn, .int (nI st), .int nu, .long va]) := h_6
      refine z_callV (As := [.int 1, .int 2]) (rest := []) B (r_throwsIf G l Φ5 sz x rd nw cr tp tt sI sT pt ql fl pe le nx il qu kn ec nu va st ep ti ad ob ra rt ex sa us tk v_3 me dr se sn 1 2 hx hI5 (by decide) hnw) (cwV 2 B.1.2.2.2.2 gX12_raw_X12_throwsIf rfl rfl rfl (by decide +kernel) ⟨Nat.le_of_ble_eq_true rfl, Nat.le_of_ble_eq_true rfl⟩) h_7 rfl rfl rfl rfl (Nat.le_of_ble_eq_true rfl) dX12_raw_40 ⟨Nat.le_of_ble_eq_true rfl, Nat.le_of_ble_eq_true rfl⟩ (fun r_5 Φ6 sz5 st5 hp5 hs5 => ?_)
      obtain ⟨rfl, hq5, ⟨v_5, hI6⟩, hF5⟩ := hp5
      subst sz5
      replace hs5 : st5 = [.int 1] := hs5
      subst st5
      replace hI6 : Im G x (rd, nw, cr, tp, tt, sI, sT, pt, ql, fl, pe, le, nx, il, qu, kn, ec, nu, va, st, ep, ti, ad, ob, ra, rt, ex, sa, us, tk, v_5, me, dr, se, sn) Φ6 := hI6
      refine z_if_eq (tgt := 50) B dX12_raw_43 rfl (fun h9 => absurd h9 (by decide)) (fun c_6 => ?_)
      refine z_lconst (v := 0) B dX12_raw_46 rfl ?_
      refine z_goto (tgt := 60) B dX12_raw_47 rfl ?_
      exact z_ret_l B dX12_raw_60 ⟨⟨_, rfl⟩, rfl, ⟨v_5, hI6⟩, (fun b9 h9 => ((hF5 b9 h9).trans ((hF4 b9 (fun j9 h8 h7 => (show False from h7).elim)).trans ((hF3 b9 h9).trans ((hF1 b9 (fun j9 h8 h7 => (show False from h7).elim)).trans ((fset_fr hΦ1 (fun h8 => h9 (0) h8 (show 0 = 0 by decide))).trans rfl))))))⟩
    · replace hs4 : st4 = [.int 1, .ref x] := hs4
      subst st4
      replace b_15 : n_4 < 2 := b_15
      refine z_if_ne (tgt := 38) B dX12_raw_31 rfl (fun c_7 => ?_) (fun h9 => absurd h9 (by decide))
      refine z_iconst (v := 0) B dX12_raw_38 rfl ?_
      refine z_iconst (v := 2) B dX12_raw_39 rfl ?_
      obtain ⟨n_7, v_6, n_8, h_8, b_41, b_29, b_30, b_31, b_32, b_33, b_34, b_35, b_36, b_37, b_38, b_39, b_40⟩ := im0 hI5
      replace b_29 : 1 ≤ rt := b_29
      replace b_30 : rt ≤ 1024 := b_30
      replace b_31 : fl ≤ 12 := b_31
      replace b_32 : pe ≤ 24 := b_32
      replace b_33 : le ≤ 700 := b_33
      replace b_34 : qu ≤ 12 := b_34
      replace b_35 : n_7 ≤ 8 := b_35
      replace b_36 : n_8 ≤ 24 := b_36
      replace b_37 : tk ≤ 24 := b_37
      replace b_38 : il ≤ 700 := b_38
      replace b_39 : nx ≤ 701 := b_39
      replace b_40 : st ≤ 701 := b_40
      have h_9 : Φ5 x = some (o_ 14 [.int v_3, .ref (x + 1), .ref (x + 2), .int ti, .int ra, .int (nI rt), .int ex, .int ad, .ref (x + 3), .ref (x + 4), .int me, .long se, .ref (x + 5), .int (nI fl), .int dr, .long ob, .long sa, .long sn, .long us, .ref (x + 6), .ref (x + 7), .int (nI pe), .ref (x + 8), .int (nI le), .ref (x + 9), .ref (x + 10), .int (nI qu), .ref (x + 11), .ref (x + 12), .ref (x + 13), .ref (x + 14), .ref (x + 15), .ref (x + 16), .int (nI n_7), .long v_6, .ref (x + 17), .ref (x + 18), .ref (x + 19), .ref (x + 20), .ref (x + 21), .ref (x + 22), .int (nI n_8), .ref (x + 23), .ref (x + 24), .int (nI tk), .ref (x + 25), .int (nI il), .int (nI nx), .int ec, .int ep, .int kn, .int (nI st), .int nu, .long va]) := h_8
      refine z_callV (As := [.int 0, .int 2]) (rest := []) B (r_throwsIf G l Φ5 sz x rd nw cr tp tt sI sT pt ql fl pe le nx il qu kn ec nu va st ep ti ad ob ra rt ex sa us tk v_3 me dr se sn 0 2 hx hI5 (by decide) hnw) (cwV 2 B.1.2.2.2.2 gX12_raw_X12_throwsIf rfl rfl rfl (by decide +kernel) ⟨Nat.le_of_ble_eq_true rfl, Nat.le_of_ble_eq_true rfl⟩) h_9 rfl rfl rfl rfl (Nat.le_of_ble_eq_true rfl) dX12_raw_40 ⟨Nat.le_of_ble_eq_true rfl, Nat.le_of_ble_eq_true rfl⟩ (fun r_6 Φ7 sz6 st6 hp6 hs6 => ?_)
      obtain ⟨rfl, hq6, ⟨v_7, hI7⟩, hF6⟩ := hp6
      subst sz6
      replace hs6 : st6 = [.int 0] := hs6
      subst st6
      replace hI7 : Im G x (rd, nw, cr, tp, tt, sI, sT, pt, ql, fl, pe, le, nx, il, qu, kn, ec, nu, va, st, ep, ti, ad, ob, ra, rt, ex, sa, us, tk, v_7, me, dr, se, sn) Φ7 := hI7
      refine z_if_eq (tgt := 50) B dX12_raw_43 rfl (fun c_8 => ?_) (fun h9 => absurd (by decide) h9)
      refine z_aload_n B dX12_raw_50 rfl 0 rfl ?_
      obtain ⟨n_9, v_8, n_10, h_10, b_54, b_42, b_43, b_44, b_45, b_46, b_47, b_48, b_49, b_50, b_51, b_52, b_53⟩ := im0 hI7
      replace b_42 : 1 ≤ rt := b_42
      replace b_43 : rt ≤ 1024 := b_43
      replace b_44 : fl ≤ 12 := b_44
      replace b_45 : pe ≤ 24 := b_45
      replace b_46 : le ≤ 700 := b_46
      replace b_47 : qu ≤ 12 := b_47
      replace b_48 : n_9 ≤ 8 := b_48
      replace b_49 : n_10 ≤ 24 := b_49
      replace b_50 : tk ≤ 24 := b_50
      replace b_51 : il ≤ 700 := b_51
      replace b_52 : nx ≤ 701 := b_52
      replace b_53 : st ≤ 701 := b_53
      have h_11 : Φ7 x = some (o_ 14 [.int v_7, .ref (x + 1), .ref (x + 2), .int ti, .int ra, .int (nI rt), .int ex, .int ad, .ref (x + 3), .ref (x + 4), .int me, .long se, .ref (x + 5), .int (nI fl), .int dr, .long ob, .long sa, .long sn, .long us, .ref (x + 6), .ref (x + 7), .int (nI pe), .ref (x + 8), .int (nI le), .ref (x + 9), .ref (x + 10), .int (nI qu), .ref (x + 11), .ref (x + 12), .ref (x + 13), .ref (x + 14), .ref (x + 15), .ref (x + 16), .int (nI n_9), .long v_8, .ref (x + 17), .ref (x + 18), .ref (x + 19), .ref (x + 20), .ref (x + 21), .ref (x + 22), .int (nI n_10), .ref (x + 23), .ref (x + 24), .int (nI tk), .ref (x + 25), .int (nI il), .int (nI nx), .int ec, .int ep, .int kn, .int (nI st), .int nu, .long va]) := h_10
      refine z_get (ref := "FlowExporterModel") (C := RX12) (T := TX12) (N := 54) (ci := 14) (v := .ref (x + 20)) B hu_X12_raw_X12 rfl 38 (Nat.le_of_ble_eq_true rfl) hv_X12_raw_72 rfl h_11 rfl dX12_raw_51 ?_
      refine z_iconst (v := 2) B dX12_raw_54 rfl ?_
      refine z_iload_n B dX12_raw_55 rfl 1 rfl ?_
      refine z_imul B dX12_raw_56 ?_
      refine z_top (st1 := [.int (nI (2 * n_3)), .ref (x + 20)]) (congrArg (fun w9 : Int32 => ([.int w9, .ref (x + 20)] : List Value)) (nI_mul 2 n_3)) ?_
      refine z_iload_n B dX12_raw_57 rfl 2 rfl ?_
      refine z_iadd B dX12_raw_58 ?_
      refine z_top (st1 := [.int (nI (2 * n_3 + n_4)), .ref (x + 20)]) (congrArg (fun w9 : Int32 => ([.int w9, .ref (x + 20)] : List Value)) (nI_add (2 * n_3) n_4)) ?_
      obtain ⟨f_1, h_12⟩ := imk (k := 20) hI7
      have h_13 : Φ7 (x + 20) = some (al_ G 48 f_1) := h_12
      refine z_lald B h_13 (vp_in_nI (by omega) (by omega)) dX12_raw_59 ?_
      refine z_fl (fun v_9 => ?_)
      exact z_ret_l B dX12_raw_60 ⟨⟨_, rfl⟩, rfl, ⟨v_7, hI7⟩, (fun b9 h9 => ((hF6 b9 h9).trans ((hF4 b9 (fun j9 h8 h7 => (show False from h7).elim)).trans ((hF3 b9 h9).trans ((hF1 b9 (fun j9 h8 h7 => (show False from h7).elim)).trans ((fset_fr hΦ1 (fun h8 => h9 (0) h8 (show 0 = 0 by decide))).trans rfl))))))⟩

theorem hu_X12_estimate_X12 : ∀ w ∈ u_ws RX12 TX12 54, w ∈ wsX12_estimate := fun _ h => List.mem_cons_of_mem _ (List.mem_append_left _ (List.mem_append_right _ (h)))

theorem hv_X12_estimate_1 : Cond.fieldLink RX12 1 "FlowExporterModel" (TX12 0).2.1 (TX12 0).2.2.1 ∈ wsX12_estimate := List.mem_cons_of_mem _ (List.mem_append_left _ (List.mem_append_left _ (List.mem_of_getElem? (i := 0) rfl)))

theorem hv_X12_estimate_75 : Cond.fieldLink RX12 75 "FlowExporterModel" (TX12 39).2.1 (TX12 39).2.2.1 ∈ wsX12_estimate := List.mem_cons_of_mem _ (List.mem_append_left _ (List.mem_append_left _ (List.mem_of_getElem? (i := 1) rfl)))

set_option maxHeartbeats 4000000 in
set_option maxRecDepth 100000 in
theorem r_estimate (G : EnvG) (l : Launch) (Φ : Hm) (sz x : Nat) (rd : (Nat → Int32) → Prop) (nw : (Nat → Int32) → Prop) (cr : (Nat → Int64) → Prop) (tp : (Nat → Int32) → Prop) (tt : (Nat → Int64) → Prop) (sI : (Nat → Int32) → Prop) (sT : (Nat → Int32) → Prop) (pt : (Nat → Int32) → Prop) (ql : (Nat → Int32) → Prop) (fl : Nat) (pe : Nat) (le : Nat) (nx : Nat) (il : Nat) (qu : Nat) (kn : Int32) (ec : Int32) (nu : Int32) (va : Int64) (st : Nat) (ep : Int32) (ti : Int32) (ad : Int32) (ob : Int64) (ra : Int32) (rt : Nat) (ex : Int32) (sa : Int64) (us : Int64) (tk : Nat) (th : Int32) (me : Int32) (dr : Int32) (se : Int64) (sn : Int64) (a : Int32) (b : Int32) (hx : G.2.2.2 ≤ x) (hI : Im G x (rd, nw, cr, tp, tt, sI, sT, pt, ql, fl, pe, le, nx, il, qu, kn, ec, nu, va, st, ep, ti, ad, ob, ra, rt, ex, sa, us, tk, th, me, dr, se, sn) Φ) (hnw : ∀ f9 : Nat → Int32, nw f9 → NN f9) : Ct G l yX12_estimate wsX12_estimate ({ frames := 2, cells := 0, slots := 0, locals := 46 }) 0 0 [.ref x, .int a, .int b] Φ sz (fun v Φ1 sz1 => (∃ r9 : Int64, v = some (.long r9)) ∧ sz1 = sz ∧ (∃ (th1 : Int32), Im G x (rd, nw, cr, tp, tt, sI, sT, pt, ql, fl, pe, le, nx, il, qu, kn, ec, nu, va, st, ep, ti, ad, ob, ra, rt, ex, sa, us, tk, th1, me, dr, se, sn) Φ1) ∧ Fr x (fun j9 => j9 = 0) Φ Φ1) := by
  refine Ct.of (cc := cX12_estimate) (maxL := 3) (ret := (some .long)) (by decide) rfl (Nat.le_of_ble_eq_true rfl) ?_
  intro p9 e9 s9 m9 w9 t9 k9 B
  show Z p9 l e9 _ s9 m9 _ w9 t9 k9 _ G 3 0 [(0, .ref x), (1, .int a), (2, .int b)] [] Φ sz 0 0
  refine z_aload_n B dX12_estimate_0 rfl 0 rfl ?_
  refine z_iconst (v := 0) B dX12_estimate_1 rfl ?_
  obtain ⟨n_1, v_1, n_2, h_1, b_13, b_1, b_2, b_3, b_4, b_5, b_6, b_7, b_8, b_9, b_10, b_11, b_12⟩ := im0 hI
  replace b_1 : 1 ≤ rt := b_1
  replace b_2 : rt ≤ 1024 := b_2
  replace b_3 : fl ≤ 12 := b_3
  replace b_4 : pe ≤ 24 := b_4
  replace b_5 : le ≤ 700 := b_5
  replace b_6 : qu ≤ 12 := b_6
  replace b_7 : n_1 ≤ 8 := b_7
  replace b_8 : n_2 ≤ 24 := b_8
  replace b_9 : tk ≤ 24 := b_9
  replace b_10 : il ≤ 700 := b_10
  replace b_11 : nx ≤ 701 := b_11
  replace b_12 : st ≤ 701 := b_12
  have h_2 : Φ x = some (o_ 14 [.int th, .ref (x + 1), .ref (x + 2), .int ti, .int ra, .int (nI rt), .int ex, .int ad, .ref (x + 3), .ref (x + 4), .int me, .long se, .ref (x + 5), .int (nI fl), .int dr, .long ob, .long sa, .long sn, .long us, .ref (x + 6), .ref (x + 7), .int (nI pe), .ref (x + 8), .int (nI le), .ref (x + 9), .ref (x + 10), .int (nI qu), .ref (x + 11), .ref (x + 12), .ref (x + 13), .ref (x + 14), .ref (x + 15), .ref (x + 16), .int (nI n_1), .long v_1, .ref (x + 17), .ref (x + 18), .ref (x + 19), .ref (x + 20), .ref (x + 21), .ref (x + 22), .int (nI n_2), .ref (x + 23), .ref (x + 24), .int (nI tk), .ref (x + 25), .int (nI il), .int (nI nx), .int ec, .int ep, .int kn, .int (nI st), .int nu, .long va]) := h_1
  refine z_put (ref := "FlowExporterModel") (C := RX12) (T := TX12) (N := 54) (ci := 14) (v := .int 0) B hu_X12_estimate_X12 tyX12 tyX12_ok nmX12 rfl 0 (Nat.le_of_ble_eq_true rfl) hv_X12_estimate_1 rfl (Or.inl rfl) h_2 hx rfl rfl (Nat.le_of_ble_eq_true rfl) dX12_estimate_2 (fun Φ1 hΦ1 => ?_)
  have h_3 : Φ1 x = some (o_ 14 [.int 0, .ref (x + 1), .ref (x + 2), .int ti, .int ra, .int (nI rt), .int ex, .int ad, .ref (x + 3), .ref (x + 4), .int me, .long se, .ref (x + 5), .int (nI fl), .int dr, .long ob, .long sa, .long sn, .long us, .ref (x + 6), .ref (x + 7), .int (nI pe), .ref (x + 8), .int (nI le), .ref (x + 9), .ref (x + 10), .int (nI qu), .ref (x + 11), .ref (x + 12), .ref (x + 13), .ref (x + 14), .ref (x + 15), .ref (x + 16), .int (nI n_1), .long v_1, .ref (x + 17), .ref (x + 18), .ref (x + 19), .ref (x + 20), .ref (x + 21), .ref (x + 22), .int (nI n_2), .ref (x + 23), .ref (x + 24), .int (nI tk), .ref (x + 25), .int (nI il), .int (nI nx), .int ec, .int ep, .int kn, .int (nI st), .int nu, .long va]) := fset_at hΦ1
  have hI1 : Im G x (rd, nw, cr, tp, tt, sI, sT, pt, ql, fl, pe, le, nx, il, qu, kn, ec, nu, va, st, ep, ti, ad, ob, ra, rt, ex, sa, us, tk, 0, me, dr, se, sn) Φ1 := Im.put0 hI hΦ1 ⟨n_1, v_1, n_2, rfl, b_13, b_1, b_2, b_3, b_4, b_5, b_6, b_7, b_8, b_9, b_10, b_11, b_12⟩
  refine z_aload_n B dX12_estimate_5 rfl 0 rfl ?_
  refine z_aload_n B dX12_estimate_6 rfl 0 rfl ?_
  refine z_iload_n B dX12_estimate_7 rfl 1 rfl ?_
  refine z_callV (As := [.int a]) (rest := [.ref x]) B (r_isKey G l Φ1 sz x rd nw cr tp tt sI sT pt ql fl pe le nx il qu kn ec nu va st ep ti ad ob ra rt ex sa us tk 0 me dr se sn a hx hI1 hnw) (cwV 1 B.1.2.2.2.2 gX12_estimate_X12_isKey rfl rfl rfl (by decide +kernel) ⟨Nat.le_of_ble_eq_true rfl, Nat.le_of_ble_eq_true rfl⟩) h_3 rfl rfl rfl rfl (Nat.le_of_ble_eq_true rfl) dX12_estimate_8 ⟨Nat.le_of_ble_eq_true rfl, Nat.le_of_ble_eq_true rfl⟩ (fun r_1 Φ2 sz1 st1 hp1 hs1 => ?_)
  obtain ⟨ha1, hq1, hI2, hF1⟩ := hp1
  subst sz1
  replace hI2 : Im G x (rd, nw, cr, tp, tt, sI, sT, pt, ql, fl, pe, le, nx, il, qu, kn, ec, nu, va, st, ep, ti, ad, ob, ra, rt, ex, sa, us, tk, 0, me, dr, se, sn) Φ2 := hI2
  rcases ha1 with rfl | ⟨rfl, n_3, b_14, rfl⟩
  · replace hs1 : st1 = [.int 0, .ref x] := hs1
    subst st1
    refine z_if_ne (tgt := 18) B dX12_estimate_11 rfl (fun h9 => absurd (by decide) h9) (fun c_1 => ?_)
    refine z_iconst (v := 1) B dX12_estimate_14 rfl ?_
    refine z_goto (tgt := 19) B dX12_estimate_15 rfl ?_
    refine z_iconst (v := 1) B dX12_estimate_19 rfl ?_
    have h_4 : Φ2 x = some (o_ 14 [.int 0, .ref (x + 1), .ref (x + 2), .int ti, .int ra, .int (nI rt), .int ex, .int ad, .ref (x + 3), .ref (x + 4), .int me, .long se, .ref (x + 5), .int (nI fl), .int dr, .long ob, .long sa, .long sn, .long us, .ref (x + 6), .ref (x + 7), .int (nI pe), .ref (x + 8), .int (nI le), .ref (x + 9), .ref (x + 10), .int (nI qu), .ref (x + 11), .ref (x + 12), .ref (x + 13), .ref (x + 14), .ref (x + 15), .ref (x + 16), .int (nI n_1), .long v_1, .ref (x + 17), .ref (x + 18), .ref (x + 19), .ref (x + 20), .ref (x + 21), .ref (x + 22), .int (nI n_2), .ref (x + 23), .ref (x + 24), .int (nI tk), .ref (x + 25), .int (nI il), .int (nI nx), .int ec, .int ep, .int kn, .int (nI st), .int nu, .long va]) := ((hF1 x (fun j9 h8 h7 => (show False from h7).elim)).trans h_3)
    refine z_callV (As := [.int 1, .int 1]) (rest := []) B (r_throwsIf G l Φ2 sz x rd nw cr tp tt sI sT pt ql fl pe le nx il qu kn ec nu va st ep ti ad ob ra rt ex sa us tk 0 me dr se sn 1 1 hx hI2 (by decide) hnw) (cwV 2 B.1.2.2.2.2 gX12_estimate_X12_throwsIf rfl rfl rfl (by decide +kernel) ⟨Nat.le_of_ble_eq_true rfl, Nat.le_of_ble_eq_true rfl⟩) h_4 rfl rfl rfl rfl (Nat.le_of_ble_eq_true rfl) dX12_estimate_20 ⟨Nat.le_of_ble_eq_true rfl, Nat.le_of_ble_eq_true rfl⟩ (fun r_2 Φ3 sz2 st2 hp2 hs2 => ?_)
    obtain ⟨rfl, hq2, ⟨v_2, hI3⟩, hF2⟩ := hp2
    subst sz2
    replace hs2 : st2 = [.int 1] := hs2
    subst st2
    replace hI3 : Im G x (rd, nw, cr, tp, tt, sI, sT, pt, ql, fl, pe, le, nx, il, qu, kn, ec, nu, va, st, ep, ti, ad, ob, ra, rt, ex, sa, us, tk, v_2, me, dr, se, sn) Φ3 := hI3
    refine z_if_ne (tgt := 46) B dX12_estimate_23 rfl (fun c_2 => ?_) (fun h9 => absurd h9 (by decide))
    refine z_lconst (v := 0) B dX12_estimate_46 rfl ?_
    refine z_goto (tgt := 60) B dX12_estimate_47 rfl ?_
    exact z_ret_l B dX12_estimate_60 ⟨⟨_, rfl⟩, rfl, ⟨v_2, hI3⟩, (fun b9 h9 => ((hF2 b9 h9).trans ((hF1 b9 (fun j9 h8 h7 => (show False from h7).elim)).trans ((fset_fr hΦ1 (fun h8 => h9 (0) h8 (show 0 = 0 by decide))).trans rfl))))⟩
  · replace hs1 : st1 = [.int 1, .ref x] := hs1
    subst st1
    replace b_14 : n_3 < 24 := b_14
    refine z_if_ne (tgt := 18) B dX12_estimate_11 rfl (fun c_3 => ?_) (fun h9 => absurd h9 (by decide))
    refine z_iconst (v := 0) B dX12_estimate_18 rfl ?_
    refine z_iconst (v := 1) B dX12_estimate_19 rfl ?_
    have h_5 : Φ2 x = some (o_ 14 [.int 0, .ref (x + 1), .ref (x + 2), .int ti, .int ra, .int (nI rt), .int ex, .int ad, .ref (x + 3), .ref (x + 4), .int me, .long se, .ref (x + 5), .int (nI fl), .int dr, .long ob, .long sa, .long sn, .long us, .ref (x + 6), .ref (x + 7), .int (nI pe), .ref (x + 8), .int (nI le), .ref (x + 9), .ref (x + 10), .int (nI qu), .ref (x + 11), .ref (x + 12), .ref (x + 13), .ref (x + 14), .ref (x + 15), .ref (x + 16), .int (nI n_1), .long v_1, .ref (x + 17), .ref (x + 18), .ref (x + 19), .ref (x + 20), .ref (x + 21), .ref (x + 22), .int (nI n_2), .ref (x + 23), .ref (x + 24), .int (nI tk), .ref (x + 25), .int (nI il), .int (nI nx), .int ec, .int ep, .int kn, .int (nI st), .int nu, .long va]) := ((hF1 x (fun j9 h8 h7 => (show False from h7).elim)).trans h_3)
    refine z_callV (As := [.int 0, .int 1]) (rest := []) B (r_throwsIf G l Φ2 sz x rd nw cr tp tt sI sT pt ql fl pe le nx il qu kn ec nu va st ep ti ad ob ra rt ex sa us tk 0 me dr se sn 0 1 hx hI2 (by decide) hnw) (cwV 2 B.1.2.2.2.2 gX12_estimate_X12_throwsIf rfl rfl rfl (by decide +kernel) ⟨Nat.le_of_ble_eq_true rfl, Nat.le_of_ble_eq_true rfl⟩) h_5 rfl rfl rfl rfl (Nat.le_of_ble_eq_true rfl) dX12_estimate_20 ⟨Nat.le_of_ble_eq_true rfl, Nat.le_of_ble_eq_true rfl⟩ (fun r_3 Φ4 sz3 st3 hp3 hs3 => ?_)
    obtain ⟨rfl, hq3, ⟨v_3, hI4⟩, hF3⟩ := hp3
    subst sz3
    replace hs3 : st3 = [.int 0] := hs3
    subst st3
    replace hI4 : Im G x (rd, nw, cr, tp, tt, sI, sT, pt, ql, fl, pe, le, nx, il, qu, kn, ec, nu, va, st, ep, ti, ad, ob, ra, rt, ex, sa, us, tk, v_3, me, dr, se, sn) Φ4 := hI4
    refine z_if_ne (tgt := 46) B dX12_estimate_23 rfl (fun h9 => absurd (by decide) h9) (fun c_4 => ?_)
    refine z_aload_n B dX12_estimate_26 rfl 0 rfl ?_
    refine z_iload_n B dX12_estimate_27 rfl 2 rfl ?_
    refine z_callS (As := [.int b]) (rest := [.ref x]) B (r_isWhat G l Φ4 sz x rd nw cr tp tt sI sT pt ql fl pe le nx il qu kn ec nu va st ep ti ad ob ra rt ex sa us tk v_3 me dr se sn b hx hI4 hnw) (va_cwS 1 B.1.2.2.2.2 gX12_estimate_X12_isWhat rfl rfl rfl (by decide +kernel) ⟨Nat.le_of_ble_eq_true rfl, Nat.le_of_ble_eq_true rfl⟩) rfl rfl (Nat.le_of_ble_eq_true rfl) dX12_estimate_28 ⟨Nat.le_of_ble_eq_true rfl, Nat.le_of_ble_eq_true rfl⟩ (fun r_4 Φ5 sz4 st4 hp4 hs4 => ?_)
    obtain ⟨ha2, hq4, hI5, hF4⟩ := hp4
    subst sz4
    replace hI5 : Im G x (rd, nw, cr, tp, tt, sI, sT, pt, ql, fl, pe, le, nx, il, qu, kn, ec, nu, va, st, ep, ti, ad, ob, ra, rt, ex, sa, us, tk, v_3, me, dr, se, sn) Φ5 := hI5
    rcases ha2 with rfl | ⟨rfl, n_4, b_15, rfl⟩
    · replace hs4 : st4 = [.int 0, .ref x] := hs4
      subst st4
      refine z_if_ne (tgt := 38) B dX12_estimate_31 rfl (fun h9 => absurd (by decide) h9) (fun c_5 => ?_)
      refine z_iconst (v := 1) B dX12_estimate_34 rfl ?_
      refine z_goto (tgt := 39) B dX12_estimate_35 rfl ?_
      refine z_iconst (v := 2) B dX12_estimate_39 rfl ?_
      obtain ⟨n_5, v_4, n_6, h_6, b_28, b_16, b_17, b_18, b_19, b_20, b_21, b_22, b_23, b_24, b_25, b_26, b_27⟩ := im0 hI5
      replace b_16 : 1 ≤ rt := b_16
      replace b_17 : rt ≤ 1024 := b_17
      replace b_18 : fl ≤ 12 := b_18
      replace b_19 : pe ≤ 24 := b_19
      replace b_20 : le ≤ 700 := b_20
      replace b_21 : qu ≤ 12 := b_21
      replace b_22 : n_5 ≤ 8 := b_22
      replace b_23 : n_6 ≤ 24 := b_23
      replace b_24 : tk ≤ 24 := b_24
      replace b_25 : il ≤ 700 := b_25
      replace b_26 : nx ≤ 701 := b_26
      replace b_27 : st ≤ 701 := b_27
      have h_7 : Φ5 x = some (o_ 14 [.int v_3, .ref (x + 1), .ref (x + 2), .int ti, .int ra, .int (nI rt), .int ex, .int ad, .ref (x + 3), .ref (x + 4), .int me, .long se, .ref (x + 5), .int (nI fl), .int dr, .long ob, .long sa, .long sn, .long us, .ref (x + 6), .ref (x + 7), .int (nI pe), .ref (x + 8), .int (nI le), .ref (x + 9), .ref (x + 10), .int (nI qu), .ref (x + 11), .ref (x + 12), .ref (x + 13), .ref (x + 14), .ref (x + 15), .ref (x + 16), .int (nI n_5), .long v_4, .ref (x + 17), .ref (x + 18), .ref (x + 19), .ref (x + 20), .ref (x + 21), .ref (x + 22), .int (nI n_6), .ref (x + 23), .ref (x + 24), .int (nI tk), .ref (x + 25), .int (nI il), .int (nI nx), .int ec, .int ep, .int kn, .int (nI st), .int nu, .long va]) := h_6
      refine z_callV (As := [.int 1, .int 2]) (rest := []) B (r_throwsIf G l Φ5 sz x rd nw cr tp tt sI sT pt ql fl pe le nx il qu kn ec nu va st ep ti ad ob ra rt ex sa us tk v_3 me dr se sn 1 2 hx hI5 (by decide) hnw) (cwV 2 B.1.2.2.2.2 gX12_estimate_X12_throwsIf rfl rfl rfl (by decide +kernel) ⟨Nat.le_of_ble_eq_true rfl, Nat.le_of_ble_eq_true rfl⟩) h_7 rfl rfl rfl rfl (Nat.le_of_ble_eq_true rfl) dX12_estimate_40 ⟨Nat.le_of_ble_eq_true rfl, Nat.le_of_ble_eq_true rfl⟩ (fun r_5 Φ6 sz5 st5 hp5 hs5 => ?_)
      obtain ⟨rfl, hq5, ⟨v_5, hI6⟩, hF5⟩ := hp5
      subst sz5
      replace hs5 : st5 = [.int 1] := hs5
      subst st5
      replace hI6 : Im G x (rd, nw, cr, tp, tt, sI, sT, pt, ql, fl, pe, le, nx, il, qu, kn, ec, nu, va, st, ep, ti, ad, ob, ra, rt, ex, sa, us, tk, v_5, me, dr, se, sn) Φ6 := hI6
      refine z_if_eq (tgt := 50) B dX12_estimate_43 rfl (fun h9 => absurd h9 (by decide)) (fun c_6 => ?_)
      refine z_lconst (v := 0) B dX12_estimate_46 rfl ?_
      refine z_goto (tgt := 60) B dX12_estimate_47 rfl ?_
      exact z_ret_l B dX12_estimate_60 ⟨⟨_, rfl⟩, rfl, ⟨v_5, hI6⟩, (fun b9 h9 => ((hF5 b9 h9).trans ((hF4 b9 (fun j9 h8 h7 => (show False from h7).elim)).trans ((hF3 b9 h9).trans ((hF1 b9 (fun j9 h8 h7 => (show False from h7).elim)).trans ((fset_fr hΦ1 (fun h8 => h9 (0) h8 (show 0 = 0 by decide))).trans rfl))))))⟩
    · replace hs4 : st4 = [.int 1, .ref x] := hs4
      subst st4
      replace b_15 : n_4 < 2 := b_15
      refine z_if_ne (tgt := 38) B dX12_estimate_31 rfl (fun c_7 => ?_) (fun h9 => absurd h9 (by decide))
      refine z_iconst (v := 0) B dX12_estimate_38 rfl ?_
      refine z_iconst (v := 2) B dX12_estimate_39 rfl ?_
      obtain ⟨n_7, v_6, n_8, h_8, b_41, b_29, b_30, b_31, b_32, b_33, b_34, b_35, b_36, b_37, b_38, b_39, b_40⟩ := im0 hI5
      replace b_29 : 1 ≤ rt := b_29
      replace b_30 : rt ≤ 1024 := b_30
      replace b_31 : fl ≤ 12 := b_31
      replace b_32 : pe ≤ 24 := b_32
      replace b_33 : le ≤ 700 := b_33
      replace b_34 : qu ≤ 12 := b_34
      replace b_35 : n_7 ≤ 8 := b_35
      replace b_36 : n_8 ≤ 24 := b_36
      replace b_37 : tk ≤ 24 := b_37
      replace b_38 : il ≤ 700 := b_38
      replace b_39 : nx ≤ 701 := b_39
      replace b_40 : st ≤ 701 := b_40
      have h_9 : Φ5 x = some (o_ 14 [.int v_3, .ref (x + 1), .ref (x + 2), .int ti, .int ra, .int (nI rt), .int ex, .int ad, .ref (x + 3), .ref (x + 4), .int me, .long se, .ref (x + 5), .int (nI fl), .int dr, .long ob, .long sa, .long sn, .long us, .ref (x + 6), .ref (x + 7), .int (nI pe), .ref (x + 8), .int (nI le), .ref (x + 9), .ref (x + 10), .int (nI qu), .ref (x + 11), .ref (x + 12), .ref (x + 13), .ref (x + 14), .ref (x + 15), .ref (x + 16), .int (nI n_7), .long v_6, .ref (x + 17), .ref (x + 18), .ref (x + 19), .ref (x + 20), .ref (x + 21), .ref (x + 22), .int (nI n_8), .ref (x + 23), .ref (x + 24), .int (nI tk), .ref (x + 25), .int (nI il), .int (nI nx), .int ec, .int ep, .int kn, .int (nI st), .int nu, .long va]) := h_8
      refine z_callV (As := [.int 0, .int 2]) (rest := []) B (r_throwsIf G l Φ5 sz x rd nw cr tp tt sI sT pt ql fl pe le nx il qu kn ec nu va st ep ti ad ob ra rt ex sa us tk v_3 me dr se sn 0 2 hx hI5 (by decide) hnw) (cwV 2 B.1.2.2.2.2 gX12_estimate_X12_throwsIf rfl rfl rfl (by decide +kernel) ⟨Nat.le_of_ble_eq_true rfl, Nat.le_of_ble_eq_true rfl⟩) h_9 rfl rfl rfl rfl (Nat.le_of_ble_eq_true rfl) dX12_estimate_40 ⟨Nat.le_of_ble_eq_true rfl, Nat.le_of_ble_eq_true rfl⟩ (fun r_6 Φ7 sz6 st6 hp6 hs6 => ?_)
      obtain ⟨rfl, hq6, ⟨v_7, hI7⟩, hF6⟩ := hp6
      subst sz6
      replace hs6 : st6 = [.int 0] := hs6
      subst st6
      replace hI7 : Im G x (rd, nw, cr, tp, tt, sI, sT, pt, ql, fl, pe, le, nx, il, qu, kn, ec, nu, va, st, ep, ti, ad, ob, ra, rt, ex, sa, us, tk, v_7, me, dr, se, sn) Φ7 := hI7
      refine z_if_eq (tgt := 50) B dX12_estimate_43 rfl (fun c_8 => ?_) (fun h9 => absurd (by decide) h9)
      refine z_aload_n B dX12_estimate_50 rfl 0 rfl ?_
      obtain ⟨n_9, v_8, n_10, h_10, b_54, b_42, b_43, b_44, b_45, b_46, b_47, b_48, b_49, b_50, b_51, b_52, b_53⟩ := im0 hI7
      replace b_42 : 1 ≤ rt := b_42
      replace b_43 : rt ≤ 1024 := b_43
      replace b_44 : fl ≤ 12 := b_44
      replace b_45 : pe ≤ 24 := b_45
      replace b_46 : le ≤ 700 := b_46
      replace b_47 : qu ≤ 12 := b_47
      replace b_48 : n_9 ≤ 8 := b_48
      replace b_49 : n_10 ≤ 24 := b_49
      replace b_50 : tk ≤ 24 := b_50
      replace b_51 : il ≤ 700 := b_51
      replace b_52 : nx ≤ 701 := b_52
      replace b_53 : st ≤ 701 := b_53
      have h_11 : Φ7 x = some (o_ 14 [.int v_7, .ref (x + 1), .ref (x + 2), .int ti, .int ra, .int (nI rt), .int ex, .int ad, .ref (x + 3), .ref (x + 4), .int me, .long se, .ref (x + 5), .int (nI fl), .int dr, .long ob, .long sa, .long sn, .long us, .ref (x + 6), .ref (x + 7), .int (nI pe), .ref (x + 8), .int (nI le), .ref (x + 9), .ref (x + 10), .int (nI qu), .ref (x + 11), .ref (x + 12), .ref (x + 13), .ref (x + 14), .ref (x + 15), .ref (x + 16), .int (nI n_9), .long v_8, .ref (x + 17), .ref (x + 18), .ref (x + 19), .ref (x + 20), .ref (x + 21), .ref (x + 22), .int (nI n_10), .ref (x + 23), .ref (x + 24), .int (nI tk), .ref (x + 25), .int (nI il), .int (nI nx), .int ec, .int ep, .int kn, .int (nI st), .int nu, .long va]) := h_10
      refine z_get (ref := "FlowExporterModel") (C := RX12) (T := TX12) (N := 54) (ci := 14) (v := .ref (x + 21)) B hu_X12_estimate_X12 rfl 39 (Nat.le_of_ble_eq_true rfl) hv_X12_estimate_75 rfl h_11 rfl dX12_estimate_51 ?_
      refine z_iconst (v := 2) B dX12_estimate_54 rfl ?_
      refine z_iload_n B dX12_estimate_55 rfl 1 rfl ?_
      refine z_imul B dX12_estimate_56 ?_
      refine z_top (st1 := [.int (nI (2 * n_3)), .ref (x + 21)]) (congrArg (fun w9 : Int32 => ([.int w9, .ref (x + 21)] : List Value)) (nI_mul 2 n_3)) ?_
      refine z_iload_n B dX12_estimate_57 rfl 2 rfl ?_
      refine z_iadd B dX12_estimate_58 ?_
      refine z_top (st1 := [.int (nI (2 * n_3 + n_4)), .ref (x + 21)]) (congrArg (fun w9 : Int32 => ([.int w9, .ref (x + 21)] : List Value)) (nI_add (2 * n_3) n_4)) ?_
      obtain ⟨f_1, h_12⟩ := imk (k := 21) hI7
      have h_13 : Φ7 (x + 21) = some (al_ G 48 f_1) := h_12
      refine z_lald B h_13 (vp_in_nI (by omega) (by omega)) dX12_estimate_59 ?_
      refine z_fl (fun v_9 => ?_)
      exact z_ret_l B dX12_estimate_60 ⟨⟨_, rfl⟩, rfl, ⟨v_7, hI7⟩, (fun b9 h9 => ((hF6 b9 h9).trans ((hF4 b9 (fun j9 h8 h7 => (show False from h7).elim)).trans ((hF3 b9 h9).trans ((hF1 b9 (fun j9 h8 h7 => (show False from h7).elim)).trans ((fset_fr hΦ1 (fun h8 => h9 (0) h8 (show 0 = 0 by decide))).trans rfl))))))⟩

set_option maxHeartbeats 4000000 in
set_option maxRecDepth 100000 in
theorem r_truthOf (G : EnvG) (l : Launch) (Φ : Hm) (sz x : Nat) (rd : (Nat → Int32) → Prop) (nw : (Nat → Int32) → Prop) (cr : (Nat → Int64) → Prop) (tp : (Nat → Int32) → Prop) (tt : (Nat → Int64) → Prop) (sI : (Nat → Int32) → Prop) (sT : (Nat → Int32) → Prop) (pt : (Nat → Int32) → Prop) (ql : (Nat → Int32) → Prop) (fl : Nat) (pe : Nat) (le : Nat) (nx : Nat) (il : Nat) (qu : Nat) (kn : Int32) (ec : Int32) (nu : Int32) (va : Int64) (st : Nat) (ep : Int32) (ti : Int32) (ad : Int32) (ob : Int64) (ra : Int32) (rt : Nat) (ex : Int32) (sa : Int64) (us : Int64) (tk : Nat) (th : Int32) (me : Int32) (dr : Int32) (se : Int64) (sn : Int64) (a : Int32) (b : Int32) (d : Int32) (f : Int32) (w : Nat) (hx : G.2.2.2 ≤ x) (hI : Im G x (rd, nw, cr, tp, tt, sI, sT, pt, ql, fl, pe, le, nx, il, qu, kn, ec, nu, va, st, ep, ti, ad, ob, ra, rt, ex, sa, us, tk, th, me, dr, se, sn) Φ) (hw : w < 2) (hnw : ∀ f9 : Nat → Int32, nw f9 → NN f9) : Ct G l yX12_truthOf wsX12_truthOf ({ frames := 2, cells := 0, slots := 0, locals := 54 }) 0 0 [.ref x, .int a, .int b, .int d, .int f, .int (nI w)] Φ sz (fun v Φ1 sz1 => (∃ r9 : Int64, v = some (.long r9)) ∧ sz1 = sz ∧ (Im G x (rd, nw, cr, tp, tt, sI, sT, pt, ql, fl, pe, le, nx, il, qu, kn, ec, nu, va, st, ep, ti, ad, ob, ra, rt, ex, sa, us, tk, th, me, dr, se, sn) Φ1) ∧ Fr x (fun j9 => False) Φ Φ1) := by
  refine Ct.of (cc := cX12_truthOf) (maxL := 7) (ret := (some .long)) (by decide) rfl (Nat.le_of_ble_eq_true rfl) ?_
  intro p9 e9 s9 m9 w9 t9 k9 B
  show Z p9 l e9 _ s9 m9 _ w9 t9 k9 _ G 7 0 [(0, .ref x), (1, .int a), (2, .int b), (3, .int d), (4, .int f), (5, .int (nI w))] [] Φ sz 0 0
  refine z_aload_n B dX12_truthOf_0 rfl 0 rfl ?_
  refine z_iload_n B dX12_truthOf_1 rfl 1 rfl ?_
  refine z_iload_n B dX12_truthOf_2 rfl 2 rfl ?_
  refine z_iload_n B dX12_truthOf_3 rfl 3 rfl ?_
  refine z_iload B dX12_truthOf_4 4 rfl ?_
  obtain ⟨n_1, v_1, n_2, h_1, b_13, b_1, b_2, b_3, b_4, b_5, b_6, b_7, b_8, b_9, b_10, b_11, b_12⟩ := im0 hI
  replace b_1 : 1 ≤ rt := b_1
  replace b_2 : rt ≤ 1024 := b_2
  replace b_3 : fl ≤ 12 := b_3
  replace b_4 : pe ≤ 24 := b_4
  replace b_5 : le ≤ 700 := b_5
  replace b_6 : qu ≤ 12 := b_6
  replace b_7 : n_1 ≤ 8 := b_7
  replace b_8 : n_2 ≤ 24 := b_8
  replace b_9 : tk ≤ 24 := b_9
  replace b_10 : il ≤ 700 := b_10
  replace b_11 : nx ≤ 701 := b_11
  replace b_12 : st ≤ 701 := b_12
  have h_2 : Φ x = some (o_ 14 [.int th, .ref (x + 1), .ref (x + 2), .int ti, .int ra, .int (nI rt), .int ex, .int ad, .ref (x + 3), .ref (x + 4), .int me, .long se, .ref (x + 5), .int (nI fl), .int dr, .long ob, .long sa, .long sn, .long us, .ref (x + 6), .ref (x + 7), .int (nI pe), .ref (x + 8), .int (nI le), .ref (x + 9), .ref (x + 10), .int (nI qu), .ref (x + 11), .ref (x + 12), .ref (x + 13), .ref (x + 14), .ref (x + 15), .ref (x + 16), .int (nI n_1), .long v_1, .ref (x + 17), .ref (x + 18), .ref (x + 19), .ref (x + 20), .ref (x + 21), .ref (x + 22), .int (nI n_2), .ref (x + 23), .ref (x + 24), .int (nI tk), .ref (x + 25), .int (nI il), .int (nI nx), .int ec, .int ep, .int kn, .int (nI st), .int nu, .long va]) := h_1
  refine z_callV (As := [.int a, .int b, .int d, .int f]) (rest := []) B (r_trueKeyOf G l Φ sz x rd nw cr tp tt sI sT pt ql fl pe le nx il qu kn ec nu va st ep ti ad ob ra rt ex sa us tk th me dr se sn a b d f hx hI hnw) (cwV 4 B.1.2.2.2.2 gX12_truthOf_X12_trueKeyOf rfl rfl rfl (by decide +kernel) ⟨Nat.le_of_ble_eq_true rfl, Nat.le_of_ble_eq_true rfl⟩) h_2 rfl rfl rfl rfl (Nat.le_of_ble_eq_true rfl) dX12_truthOf_6 ⟨Nat.le_of_ble_eq_true rfl, Nat.le_of_ble_eq_true rfl⟩ (fun r_1 Φ1 sz1 st1 hp1 hs1 => ?_)
  obtain ⟨ha1, hq1, hI1, hF1⟩ := hp1
  subst sz1
  replace hI1 : Im G x (rd, nw, cr, tp, tt, sI, sT, pt, ql, fl, pe, le, nx, il, qu, kn, ec, nu, va, st, ep, ti, ad, ob, ra, rt, ex, sa, us, tk, th, me, dr, se, sn) Φ1 := hI1
  rcases ha1 with rfl | ⟨n_3, b_14, rfl⟩
  · replace hs1 : st1 = [.int (-1)] := hs1
    subst st1
    refine z_istore (lv' := [(6, .int (-1)), (0, .ref x), (1, .int a), (2, .int b), (3, .int d), (4, .int f), (5, .int (nI w))]) B dX12_truthOf_9 (Nat.le_of_ble_eq_true rfl) rfl ?_
    refine z_iload B dX12_truthOf_11 0 rfl ?_
    refine z_iconst (v := (-1)) B dX12_truthOf_13 rfl ?_
    refine z_icmp_ne (tgt := 21) B dX12_truthOf_14 rfl (fun h9 => absurd (by decide) h9) (fun c_1 => ?_)
    refine z_lconst (v := 0) B dX12_truthOf_17 rfl ?_
    refine z_goto (tgt := 33) B dX12_truthOf_18 rfl ?_
    exact z_ret_l B dX12_truthOf_33 ⟨⟨_, rfl⟩, rfl, hI1, (fun b9 h9 => ((hF1 b9 (fun j9 h8 h7 => (show False from h7).elim)).trans rfl))⟩
  · replace hs1 : st1 = [.int (nI n_3)] := hs1
    subst st1
    replace b_14 : n_3 < 24 := b_14
    refine z_istore (lv' := [(6, .int (nI n_3)), (0, .ref x), (1, .int a), (2, .int b), (3, .int d), (4, .int f), (5, .int (nI w))]) B dX12_truthOf_9 (Nat.le_of_ble_eq_true rfl) rfl ?_
    refine z_iload B dX12_truthOf_11 0 rfl ?_
    refine z_iconst (v := (-1)) B dX12_truthOf_13 rfl ?_
    refine z_icmp_ne (tgt := 21) B dX12_truthOf_14 rfl (fun c_2 => ?_) (fun h9 => absurd h9 (nI_nm1 (n := n_3) (by omega)))
    refine z_aload_n B dX12_truthOf_21 rfl 1 rfl ?_
    have h_3 : Φ1 x = some (o_ 14 [.int th, .ref (x + 1), .ref (x + 2), .int ti, .int ra, .int (nI rt), .int ex, .int ad, .ref (x + 3), .ref (x + 4), .int me, .long se, .ref (x + 5), .int (nI fl), .int dr, .long ob, .long sa, .long sn, .long us, .ref (x + 6), .ref (x + 7), .int (nI pe), .ref (x + 8), .int (nI le), .ref (x + 9), .ref (x + 10), .int (nI qu), .ref (x + 11), .ref (x + 12), .ref (x + 13), .ref (x + 14), .ref (x + 15), .ref (x + 16), .int (nI n_1), .long v_1, .ref (x + 17), .ref (x + 18), .ref (x + 19), .ref (x + 20), .ref (x + 21), .ref (x + 22), .int (nI n_2), .ref (x + 23), .ref (x + 24), .int (nI tk), .ref (x + 25), .int (nI il), .int (nI nx), .int ec, .int ep, .int kn, .int (nI st), .int nu, .long va]) := ((hF1 x (fun j9 h8 h7 => (show False from h7).elim)).trans h_2)
    refine z_get (ref := "FlowExporterModel") (C := RX12) (T := TX12) (N := 54) (ci := 14) (v := .ref (x + 24)) B hu_X12_truthOf_X12 rfl 43 (Nat.le_of_ble_eq_true rfl) hv_X12_truthOf_85 rfl h_3 rfl dX12_truthOf_22 ?_
    refine z_iconst (v := 2) B dX12_truthOf_25 rfl ?_
    refine z_iload B dX12_truthOf_26 0 rfl ?_
    refine z_imul B dX12_truthOf_28 ?_
    refine z_top (st1 := [.int (nI (2 * n_3)), .ref (x + 24)]) (congrArg (fun w9 : Int32 => ([.int w9, .ref (x + 24)] : List Value)) (nI_mul 2 n_3)) ?_
    refine z_iload B dX12_truthOf_29 6 rfl ?_
    refine z_iadd B dX12_truthOf_31 ?_
    refine z_top (st1 := [.int (nI (2 * n_3 + w)), .ref (x + 24)]) (congrArg (fun w9 : Int32 => ([.int w9, .ref (x + 24)] : List Value)) (nI_add (2 * n_3) w)) ?_
    obtain ⟨f_1, h_4, r_2⟩ := imk (k := 24) hI1
    replace r_2 : tt f_1 := r_2
    have h_5 : Φ1 (x + 24) = some (al_ G 48 f_1) := h_4
    refine z_lald B h_5 (vp_in_nI (by omega) (by omega)) dX12_truthOf_32 ?_
    refine z_fl (fun v_2 => ?_)
    exact z_ret_l B dX12_truthOf_33 ⟨⟨_, rfl⟩, rfl, hI1, (fun b9 h9 => ((hF1 b9 (fun j9 h8 h7 => (show False from h7).elim)).trans rfl))⟩

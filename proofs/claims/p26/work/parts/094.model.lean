set_option maxRecDepth 20000 in
theorem ggX12_appendInput_X12_appendBytes : GoodIn wsX12_appendInput wsX12_appendBytes := goodIn_ca ((goodIn_ca (goodIn_r _ [7, 8, 2] rfl (by decide +kernel)) (goodIn_sub (fun _ h => List.mem_cons_of_mem _ (List.mem_append_left _ (List.mem_append_right _ h))) gw_wsX120))) (goodIn_sub (fun _ h => List.mem_cons_of_mem _ (List.mem_append_right _ h)) (all_fg _))
set_option maxRecDepth 20000 in
theorem gX12_appendInput_X12_appendBytes : GoodIn wsX12_appendInput (wsV RX12 444 RX12 yX12_appendBytes wsX12_appendBytes) := goodIn_app (goodIn_m (mem_cA (List.mem_cons_of_mem _ (List.mem_append_left _ (List.mem_append_left _ (List.mem_of_getElem? (i := 2) rfl)))) (mem_cA (List.mem_cons_of_mem _ (List.mem_append_left _ (List.mem_append_left _ (List.mem_of_getElem? (i := 3) rfl)))) (mem_cA (List.mem_cons_of_mem _ (List.mem_append_left _ (List.mem_append_left _ (List.mem_of_getElem? (i := 4) rfl)))) (mem_cA (List.mem_cons_of_mem _ (List.mem_append_left _ (List.mem_append_left _ (List.mem_of_getElem? (i := 5) rfl)))) mem_cZ)))) (by decide +kernel)) ggX12_appendInput_X12_appendBytes
theorem dX12_appendInput_0 : decode cX12_appendInput 0 = .ok (.aload_n 0, 1) := by decide +kernel
theorem dX12_appendInput_1 : decode cX12_appendInput 1 = .ok (.iconst 0, 1) := by decide +kernel
theorem dX12_appendInput_2 : decode cX12_appendInput 2 = .ok (.putfield 1, 3) := by decide +kernel
theorem dX12_appendInput_5 : decode cX12_appendInput 5 = .ok (.aload_n 0, 1) := by decide +kernel
theorem dX12_appendInput_6 : decode cX12_appendInput 6 = .ok (.getfield 441, 3) := by decide +kernel
theorem dX12_appendInput_9 : decode cX12_appendInput 9 = .ok (.bipush 20, 2) := by decide +kernel
theorem dX12_appendInput_11 : decode cX12_appendInput 11 = .ok (.iadd, 1) := by decide +kernel
theorem dX12_appendInput_12 : decode cX12_appendInput 12 = .ok (.sipush 700, 3) := by decide +kernel
theorem dX12_appendInput_15 : decode cX12_appendInput 15 = .ok (.if_icmp .le 5, 3) := by decide +kernel
theorem dX12_appendInput_18 : decode cX12_appendInput 18 = .ok (.iconst (-1), 1) := by decide +kernel
theorem dX12_appendInput_19 : decode cX12_appendInput 19 = .ok (.ireturn, 1) := by decide +kernel
theorem dX12_appendInput_20 : decode cX12_appendInput 20 = .ok (.aload_n 0, 1) := by decide +kernel
theorem dX12_appendInput_21 : decode cX12_appendInput 21 = .ok (.iload_n 1, 1) := by decide +kernel
theorem dX12_appendInput_22 : decode cX12_appendInput 22 = .ok (.invokevirtual 444, 3) := by decide +kernel
theorem dX12_appendInput_25 : decode cX12_appendInput 25 = .ok (.aload_n 0, 1) := by decide +kernel
theorem dX12_appendInput_26 : decode cX12_appendInput 26 = .ok (.iload_n 2, 1) := by decide +kernel
theorem dX12_appendInput_27 : decode cX12_appendInput 27 = .ok (.invokevirtual 444, 3) := by decide +kernel
theorem dX12_appendInput_30 : decode cX12_appendInput 30 = .ok (.aload_n 0, 1) := by decide +kernel
theorem dX12_appendInput_31 : decode cX12_appendInput 31 = .ok (.iload_n 3, 1) := by decide +kernel
theorem dX12_appendInput_32 : decode cX12_appendInput 32 = .ok (.invokevirtual 444, 3) := by decide +kernel
theorem dX12_appendInput_35 : decode cX12_appendInput 35 = .ok (.aload_n 0, 1) := by decide +kernel
theorem dX12_appendInput_36 : decode cX12_appendInput 36 = .ok (.iload 4, 2) := by decide +kernel
theorem dX12_appendInput_38 : decode cX12_appendInput 38 = .ok (.invokevirtual 444, 3) := by decide +kernel
theorem dX12_appendInput_41 : decode cX12_appendInput 41 = .ok (.aload_n 0, 1) := by decide +kernel
theorem dX12_appendInput_42 : decode cX12_appendInput 42 = .ok (.iload 5, 2) := by decide +kernel
theorem dX12_appendInput_44 : decode cX12_appendInput 44 = .ok (.invokevirtual 444, 3) := by decide +kernel
theorem dX12_appendInput_47 : decode cX12_appendInput 47 = .ok (.aload_n 0, 1) := by decide +kernel
theorem dX12_appendInput_48 : decode cX12_appendInput 48 = .ok (.getfield 441, 3) := by decide +kernel
theorem dX12_appendInput_51 : decode cX12_appendInput 51 = .ok (.ireturn, 1) := by decide +kernel
set_option maxRecDepth 20000 in
theorem ggX12_truncateInput_X12_inRange : GoodIn wsX12_truncateInput wsX12_inRange := (goodIn_r _ [6] rfl (by decide +kernel))
set_option maxRecDepth 20000 in
theorem gX12_truncateInput_X12_inRange : GoodIn wsX12_truncateInput (va_wsS RX12 169 yX12_inRange wsX12_inRange) := goodIn_app (goodIn_m (mem_cA (List.mem_cons_of_mem _ (List.mem_append_left _ (List.mem_of_getElem? (i := 2) rfl))) (mem_cA (List.mem_cons_of_mem _ (List.mem_append_left _ (List.mem_of_getElem? (i := 3) rfl))) (mem_cA (List.mem_cons_of_mem _ (List.mem_append_left _ (List.mem_of_getElem? (i := 4) rfl))) mem_cZ))) (by decide +kernel)) ggX12_truncateInput_X12_inRange
theorem dX12_truncateInput_0 : decode cX12_truncateInput 0 = .ok (.aload_n 0, 1) := by decide +kernel
theorem dX12_truncateInput_1 : decode cX12_truncateInput 1 = .ok (.iconst 0, 1) := by decide +kernel
theorem dX12_truncateInput_2 : decode cX12_truncateInput 2 = .ok (.putfield 1, 3) := by decide +kernel
theorem dX12_truncateInput_5 : decode cX12_truncateInput 5 = .ok (.iload_n 1, 1) := by decide +kernel
theorem dX12_truncateInput_6 : decode cX12_truncateInput 6 = .ok (.i2l, 1) := by decide +kernel
theorem dX12_truncateInput_7 : decode cX12_truncateInput 7 = .ok (.lconst 0, 1) := by decide +kernel
theorem dX12_truncateInput_8 : decode cX12_truncateInput 8 = .ok (.aload_n 0, 1) := by decide +kernel
theorem dX12_truncateInput_9 : decode cX12_truncateInput 9 = .ok (.getfield 441, 3) := by decide +kernel
theorem dX12_truncateInput_12 : decode cX12_truncateInput 12 = .ok (.i2l, 1) := by decide +kernel
theorem dX12_truncateInput_13 : decode cX12_truncateInput 13 = .ok (.invokestatic 169, 3) := by decide +kernel
theorem dX12_truncateInput_16 : decode cX12_truncateInput 16 = .ok (.ifCond .ne 5, 3) := by decide +kernel
theorem dX12_truncateInput_19 : decode cX12_truncateInput 19 = .ok (.iconst (-1), 1) := by decide +kernel
theorem dX12_truncateInput_20 : decode cX12_truncateInput 20 = .ok (.ireturn, 1) := by decide +kernel
theorem dX12_truncateInput_21 : decode cX12_truncateInput 21 = .ok (.aload_n 0, 1) := by decide +kernel
theorem dX12_truncateInput_22 : decode cX12_truncateInput 22 = .ok (.iload_n 1, 1) := by decide +kernel
theorem dX12_truncateInput_23 : decode cX12_truncateInput 23 = .ok (.putfield 441, 3) := by decide +kernel
theorem dX12_truncateInput_26 : decode cX12_truncateInput 26 = .ok (.iload_n 1, 1) := by decide +kernel
theorem dX12_truncateInput_27 : decode cX12_truncateInput 27 = .ok (.ireturn, 1) := by decide +kernel
theorem dX12_byteAt_0 : decode cX12_byteAt 0 = .ok (.iload_n 1, 1) := by decide +kernel
theorem dX12_byteAt_1 : decode cX12_byteAt 1 = .ok (.aload_n 0, 1) := by decide +kernel
theorem dX12_byteAt_2 : decode cX12_byteAt 2 = .ok (.getfield 441, 3) := by decide +kernel
theorem dX12_byteAt_5 : decode cX12_byteAt 5 = .ok (.if_icmp .ge 16, 3) := by decide +kernel
theorem dX12_byteAt_8 : decode cX12_byteAt 8 = .ok (.aload_n 0, 1) := by decide +kernel
theorem dX12_byteAt_9 : decode cX12_byteAt 9 = .ok (.getfield 88, 3) := by decide +kernel
theorem dX12_byteAt_12 : decode cX12_byteAt 12 = .ok (.iload_n 1, 1) := by decide +kernel
theorem dX12_byteAt_13 : decode cX12_byteAt 13 = .ok (.baload, 1) := by decide +kernel
theorem dX12_byteAt_14 : decode cX12_byteAt 14 = .ok (.sipush 255, 3) := by decide +kernel
theorem dX12_byteAt_17 : decode cX12_byteAt 17 = .ok (.iand, 1) := by decide +kernel
theorem dX12_byteAt_18 : decode cX12_byteAt 18 = .ok (.goto 4, 3) := by decide +kernel
theorem dX12_byteAt_21 : decode cX12_byteAt 21 = .ok (.iconst (-1), 1) := by decide +kernel
theorem dX12_byteAt_22 : decode cX12_byteAt 22 = .ok (.ireturn, 1) := by decide +kernel
set_option maxRecDepth 20000 in
theorem ggX12_isLetter_X12_inRange : GoodIn wsX12_isLetter wsX12_inRange := (goodIn_r _ [6] rfl (by decide +kernel))
set_option maxRecDepth 20000 in
theorem gX12_isLetter_X12_inRange : GoodIn wsX12_isLetter (va_wsS RX12 169 yX12_inRange wsX12_inRange) := goodIn_app (goodIn_m (mem_cA (List.mem_cons_of_mem _ (List.mem_of_getElem? (i := 2) rfl)) (mem_cA (List.mem_cons_of_mem _ (List.mem_of_getElem? (i := 3) rfl)) (mem_cA (List.mem_cons_of_mem _ (List.mem_of_getElem? (i := 4) rfl)) mem_cZ))) (by decide +kernel)) ggX12_isLetter_X12_inRange
theorem dX12_isLetter_0 : decode cX12_isLetter 0 = .ok (.iload_n 0, 1) := by decide +kernel
theorem dX12_isLetter_1 : decode cX12_isLetter 1 = .ok (.i2l, 1) := by decide +kernel
theorem dX12_isLetter_2 : decode cX12_isLetter 2 = .ok (.ldc2_w 450, 3) := by decide +kernel
theorem dX12_isLetter_5 : decode cX12_isLetter 5 = .ok (.ldc2_w 452, 3) := by decide +kernel
theorem dX12_isLetter_8 : decode cX12_isLetter 8 = .ok (.invokestatic 169, 3) := by decide +kernel
theorem dX12_isLetter_11 : decode cX12_isLetter 11 = .ok (.ireturn, 1) := by decide +kernel
set_option maxRecDepth 20000 in
theorem ggX12_isDigit_X12_inRange : GoodIn wsX12_isDigit wsX12_inRange := (goodIn_r _ [6] rfl (by decide +kernel))
set_option maxRecDepth 20000 in
theorem gX12_isDigit_X12_inRange : GoodIn wsX12_isDigit (va_wsS RX12 169 yX12_inRange wsX12_inRange) := goodIn_app (goodIn_m (mem_cA (List.mem_cons_of_mem _ (List.mem_of_getElem? (i := 2) rfl)) (mem_cA (List.mem_cons_of_mem _ (List.mem_of_getElem? (i := 3) rfl)) (mem_cA (List.mem_cons_of_mem _ (List.mem_of_getElem? (i := 4) rfl)) mem_cZ))) (by decide +kernel)) ggX12_isDigit_X12_inRange
theorem dX12_isDigit_0 : decode cX12_isDigit 0 = .ok (.iload_n 0, 1) := by decide +kernel
theorem dX12_isDigit_1 : decode cX12_isDigit 1 = .ok (.i2l, 1) := by decide +kernel
theorem dX12_isDigit_2 : decode cX12_isDigit 2 = .ok (.ldc2_w 454, 3) := by decide +kernel
theorem dX12_isDigit_5 : decode cX12_isDigit 5 = .ok (.ldc2_w 456, 3) := by decide +kernel
theorem dX12_isDigit_8 : decode cX12_isDigit 8 = .ok (.invokestatic 169, 3) := by decide +kernel
theorem dX12_isDigit_11 : decode cX12_isDigit 11 = .ok (.ireturn, 1) := by decide +kernel
set_option maxHeartbeats 4000000 in
set_option maxRecDepth 100000 in
theorem r_appendInput (G : EnvG) (l : Launch) (Φ : Hm) (sz x : Nat) (rd : (Nat → Int32) → Prop) (nw : (Nat → Int32) → Prop) (cr : (Nat → Int64) → Prop) (tp : (Nat → Int32) → Prop) (tt : (Nat → Int64) → Prop) (sI : (Nat → Int32) → Prop) (sT : (Nat → Int32) → Prop) (pt : (Nat → Int32) → Prop) (ql : (Nat → Int32) → Prop) (fl : Nat) (pe : Nat) (le : Nat) (nx : Nat) (il : Nat) (qu : Nat) (kn : Int32) (ec : Int32) (nu : Int32) (va : Int64) (st : Nat) (ep : Int32) (ti : Int32) (ad : Int32) (ob : Int64) (ra : Int32) (rt : Nat) (ex : Int32) (sa : Int64) (us : Int64) (tk : Nat) (th : Int32) (me : Int32) (dr : Int32) (se : Int64) (sn : Int64) (a : Int32) (b : Int32) (d : Int32) (f : Int32) (g : Int32) (hx : G.2.2.2 ≤ x) (hI : Im G x (rd, nw, cr, tp, tt, sI, sT, pt, ql, fl, pe, le, nx, il, qu, kn, ec, nu, va, st, ep, ti, ad, ob, ra, rt, ex, sa, us, tk, th, me, dr, se, sn) Φ) (hnw : ∀ f9 : Nat → Int32, nw f9 → NN f9) : Ct G l yX12_appendInput wsX12_appendInput ({ frames := 1, cells := 0, slots := 0, locals := 22 }) 0 0 [.ref x, .int a, .int b, .int d, .int f, .int g] Φ sz (fun v Φ1 sz1 => (∃ r9 : Int32, v = some (.int r9)) ∧ sz1 = sz ∧ (∃ (il1 : Nat) (th1 : Int32), (apV il v il1) ∧ Im G x (rd, nw, cr, tp, tt, sI, sT, pt, ql, fl, pe, le, nx, il1, qu, kn, ec, nu, va, st, ep, ti, ad, ob, ra, rt, ex, sa, us, tk, th1, me, dr, se, sn) Φ1) ∧ Fr x (fun j9 => j9 = 0 ∨ j9 = 25) Φ Φ1) := by
  refine Ct.of (cc := cX12_appendInput) (maxL := 6) (ret := (some .int)) (by decide) rfl (Nat.le_of_ble_eq_true rfl) ?_
  intro p9 e9 s9 m9 w9 t9 k9 B
  show Z p9 l e9 _ s9 m9 _ w9 t9 k9 _ G 6 0 [(0, .ref x), (1, .int a), (2, .int b), (3, .int d), (4, .int f), (5, .int g)] [] Φ sz 0 0
  refine z_aload_n B dX12_appendInput_0 rfl 0 rfl ?_
  refine z_iconst (v := 0) B dX12_appendInput_1 rfl ?_
  obtain ⟨n_1, v_1, n_2, h_1, b_13, b_1, b_2, b_3, b_4, b_5, b_6, b_7, b_8, b_9, b_10, b_11, b_12⟩ := im0 hI
  replace b_1 : 1 ≤ rt := b_1
  replace b_2 : rt ≤ 1024 := b_2
  replace b_3 : fl ≤ 12 := b_3
  replace b_4 : pe ≤ 24 := b_4
  replace b_5 : le ≤ 700 := b_5
  replace b_6 : qu ≤ 12 := b_6
  replace b_7 : n_1 ≤ 8 := b_7
  replace b_8 : n_2 ≤ 24 := b_8
  replace b_9 : tk ≤ 24 := b_9
  replace b_10 : il ≤ 700 := b_10
  replace b_11 : nx ≤ 701 := b_11
  replace b_12 : st ≤ 701 := b_12
  have h_2 : Φ x = some (o_ 14 [.int th, .ref (x + 1), .ref (x + 2), .int ti, .int ra, .int (nI rt), .int ex, .int ad, .ref (x + 3), .ref (x + 4), .int me, .long se, .ref (x + 5), .int (nI fl), .int dr, .long ob, .long sa, .long sn, .long us, .ref (x + 6), .ref (x + 7), .int (nI pe), .ref (x + 8), .int (nI le), .ref (x + 9), .ref (x + 10), .int (nI qu), .ref (x + 11), .ref (x + 12), .ref (x + 13), .ref (x + 14), .ref (x + 15), .ref (x + 16), .int (nI n_1), .long v_1, .ref (x + 17), .ref (x + 18), .ref (x + 19), .ref (x + 20), .ref (x + 21), .ref (x + 22), .int (nI n_2), .ref (x + 23), .ref (x + 24), .int (nI tk), .ref (x + 25), .int (nI il), .int (nI nx), .int ec, .int ep, .int kn, .int (nI st), .int nu, .long va]) := h_1
  refine z_put (ref := "FlowExporterModel") (C := RX12) (T := TX12) (N := 54) (ci := 14) (v := .int 0) B hu_X12_appendInput_X12 tyX12 tyX12_ok nmX12 rfl 0 (Nat.le_of_ble_eq_true rfl) hv_X12_appendInput_1 rfl (Or.inl rfl) h_2 hx rfl rfl (Nat.le_of_ble_eq_true rfl) dX12_appendInput_2 (fun Φ1 hΦ1 => ?_)
  have h_3 : Φ1 x = some (o_ 14 [.int 0, .ref (x + 1), .ref (x + 2), .int ti, .int ra, .int (nI rt), .int ex, .int ad, .ref (x + 3), .ref (x + 4), .int me, .long se, .ref (x + 5), .int (nI fl), .int dr, .long ob, .long sa, .long sn, .long us, .ref (x + 6), .ref (x + 7), .int (nI pe), .ref (x + 8), .int (nI le), .ref (x + 9), .ref (x + 10), .int (nI qu), .ref (x + 11), .ref (x + 12), .ref (x + 13), .ref (x + 14), .ref (x + 15), .ref (x + 16), .int (nI n_1), .long v_1, .ref (x + 17), .ref (x + 18), .ref (x + 19), .ref (x + 20), .ref (x + 21), .ref (x + 22), .int (nI n_2), .ref (x + 23), .ref (x + 24), .int (nI tk), .ref (x + 25), .int (nI il), .int (nI nx), .int ec, .int ep, .int kn, .int (nI st), .int nu, .long va]) := fset_at hΦ1
  have hI1 : Im G x (rd, nw, cr, tp, tt, sI, sT, pt, ql, fl, pe, le, nx, il, qu, kn, ec, nu, va, st, ep, ti, ad, ob, ra, rt, ex, sa, us, tk, 0, me, dr, se, sn) Φ1 := Im.put0 hI hΦ1 ⟨n_1, v_1, n_2, rfl, b_13, b_1, b_2, b_3, b_4, b_5, b_6, b_7, b_8, b_9, b_10, b_11, b_12⟩
  refine z_aload_n B dX12_appendInput_5 rfl 0 rfl ?_
  refine z_get (ref := "FlowExporterModel") (C := RX12) (T := TX12) (N := 54) (ci := 14) (v := .int (nI il)) B hu_X12_appendInput_X12 rfl 46 (Nat.le_of_ble_eq_true rfl) hv_X12_appendInput_441 rfl h_3 rfl dX12_appendInput_6 ?_
  refine z_bipush (v := 20) B dX12_appendInput_9 rfl ?_
  refine z_iadd B dX12_appendInput_11 ?_
  refine z_top (st1 := [.int (nI (il + 20))]) (congrArg (fun w9 : Int32 => ([.int w9] : List Value)) (nI_add il 20)) ?_
  refine z_sipush (v := 700) B dX12_appendInput_12 rfl ?_
  refine z_icmp_le (tgt := 20) B dX12_appendInput_15 rfl (fun c_1 => ?_) (fun c_1 => ?_)
  · have e_1 : il + 20 ≤ 700 := (nI_leI (a := il + 20) (b := 700) (by omega) (by omega)).mp c_1
    refine z_aload_n B dX12_appendInput_20 rfl 0 rfl ?_
    refine z_iload_n B dX12_appendInput_21 rfl 1 rfl ?_
    refine z_callV (As := [.int a]) (rest := []) B (r_appendBytes G l Φ1 sz x rd nw cr tp tt sI sT pt ql fl pe le nx il qu kn ec nu va st ep ti ad ob ra rt ex sa us tk 0 me dr se sn a hx hI1 (show il + 4 ≤ 700 by omega) hnw) (cwV 1 B.1.2.2.2.2 gX12_appendInput_X12_appendBytes rfl rfl rfl (by decide +kernel) ⟨Nat.le_of_ble_eq_true rfl, Nat.le_of_ble_eq_true rfl⟩) h_3 rfl rfl rfl rfl (Nat.le_of_ble_eq_true rfl) dX12_appendInput_22 ⟨Nat.le_of_ble_eq_true rfl, Nat.le_of_ble_eq_true rfl⟩ (fun r_1 Φ2 sz1 st1 hp1 hs1 => ?_)
    obtain ⟨rfl, hq1, ⟨n_3, b_14, hI2⟩, hF1⟩ := hp1
    subst sz1
    replace hs1 : st1 = [] := hs1
    subst st1
    replace hI2 : Im G x (rd, nw, cr, tp, tt, sI, sT, pt, ql, fl, pe, le, nx, n_3, qu, kn, ec, nu, va, st, ep, ti, ad, ob, ra, rt, ex, sa, us, tk, 0, me, dr, se, sn) Φ2 := hI2
    replace b_14 : n_3 = il + 4 := b_14
    refine z_aload_n B dX12_appendInput_25 rfl 0 rfl ?_
    refine z_iload_n B dX12_appendInput_26 rfl 2 rfl ?_
    obtain ⟨n_4, v_2, n_5, h_4, b_27, b_15, b_16, b_17, b_18, b_19, b_20, b_21, b_22, b_23, b_24, b_25, b_26⟩ := im0 hI2
    replace b_15 : 1 ≤ rt := b_15
    replace b_16 : rt ≤ 1024 := b_16
    replace b_17 : fl ≤ 12 := b_17
    replace b_18 : pe ≤ 24 := b_18
    replace b_19 : le ≤ 700 := b_19
    replace b_20 : qu ≤ 12 := b_20
    replace b_21 : n_4 ≤ 8 := b_21
    replace b_22 : n_5 ≤ 24 := b_22
    replace b_23 : tk ≤ 24 := b_23
    replace b_24 : n_3 ≤ 700 := b_24
    replace b_25 : nx ≤ 701 := b_25
    replace b_26 : st ≤ 701 := b_26
    have h_5 : Φ2 x = some (o_ 14 [.int 0, .ref (x + 1), .ref (x + 2), .int ti, .int ra, .int (nI rt), .int ex, .int ad, .ref (x + 3), .ref (x + 4), .int me, .long se, .ref (x + 5), .int (nI fl), .int dr, .long ob, .long sa, .long sn, .long us, .ref (x + 6), .ref (x + 7), .int (nI pe), .ref (x + 8), .int (nI le), .ref (x + 9), .ref (x + 10), .int (nI qu), .ref (x + 11), .ref (x + 12), .ref (x + 13), .ref (x + 14), .ref (x + 15), .ref (x + 16), .int (nI n_4), .long v_2, .ref (x + 17), .ref (x + 18), .ref (x + 19), .ref (x + 20), .ref (x + 21), .ref (x + 22), .int (nI n_5), .ref (x + 23), .ref (x + 24), .int (nI tk), .ref (x + 25), .int (nI n_3), .int (nI nx), .int ec, .int ep, .int kn, .int (nI st), .int nu, .long va]) := h_4
    refine z_callV (As := [.int b]) (rest := []) B (r_appendBytes G l Φ2 sz x rd nw cr tp tt sI sT pt ql fl pe le nx n_3 qu kn ec nu va st ep ti ad ob ra rt ex sa us tk 0 me dr se sn b hx hI2 (show n_3 + 4 ≤ 700 by omega) hnw) (cwV 1 B.1.2.2.2.2 gX12_appendInput_X12_appendBytes rfl rfl rfl (by decide +kernel) ⟨Nat.le_of_ble_eq_true rfl, Nat.le_of_ble_eq_true rfl⟩) h_5 rfl rfl rfl rfl (Nat.le_of_ble_eq_true rfl) dX12_appendInput_27 ⟨Nat.le_of_ble_eq_true rfl, Nat.le_of_ble_eq_true rfl⟩ (fun r_2 Φ3 sz2 st2 hp2 hs2 => ?_)
    obtain ⟨rfl, hq2, ⟨n_6, b_28, hI3⟩, hF2⟩ := hp2
    subst sz2
    replace hs2 : st2 = [] := hs2
    subst st2
    replace hI3 : Im G x (rd, nw, cr, tp, tt, sI, sT, pt, ql, fl, pe, le, nx, n_6, qu, kn, ec, nu, va, st, ep, ti, ad, ob, ra, rt, ex, sa, us, tk, 0, me, dr, se, sn) Φ3 := hI3
    replace b_28 : n_6 = n_3 + 4 := b_28
    refine z_aload_n B dX12_appendInput_30 rfl 0 rfl ?_
    refine z_iload_n B dX12_appendInput_31 rfl 3 rfl ?_
    obtain ⟨n_7, v_3, n_8, h_6, b_41, b_29, b_30, b_31, b_32, b_33, b_34, b_35, b_36, b_37, b_38, b_39, b_40⟩ := im0 hI3
    replace b_29 : 1 ≤ rt := b_29
    replace b_30 : rt ≤ 1024 := b_30
    replace b_31 : fl ≤ 12 := b_31
    replace b_32 : pe ≤ 24 := b_32
    replace b_33 : le ≤ 700 := b_33
    replace b_34 : qu ≤ 12 := b_34
    replace b_35 : n_7 ≤ 8 := b_35
    replace b_36 : n_8 ≤ 24 := b_36
    replace b_37 : tk ≤ 24 := b_37
    replace b_38 : n_6 ≤ 700 := b_38
    replace b_39 : nx ≤ 701 := b_39
    replace b_40 : st ≤ 701 := b_40
    have h_7 : Φ3 x = some (o_ 14 [.int 0, .ref (x + 1), .ref (x + 2), .int ti, .int ra, .int (nI rt), .int ex, .int ad, .ref (x + 3), .ref (x + 4), .int me, .long se, .ref (x + 5), .int (nI fl), .int dr, .long ob, .long sa, .long sn, .long us, .ref (x + 6), .ref (x + 7), .int (nI pe), .ref (x + 8), .int (nI le), .ref (x + 9), .ref (x + 10), .int (nI qu), .ref (x + 11), .ref (x + 12), .ref (x + 13), .ref (x + 14), .ref (x + 15), .ref (x + 16), .int (nI n_7), .long v_3, .ref (x + 17), .ref (x + 18), .ref (x + 19), .ref (x + 20), .ref (x + 21), .ref (x + 22), .int (nI n_8), .ref (x + 23), .ref (x + 24), .int (nI tk), .ref (x + 25), .int (nI n_6), .int (nI nx), .int ec, .int ep, .int kn, .int (nI st), .int nu, .long va]) := h_6
    refine z_callV (As := [.int d]) (rest := []) B (r_appendBytes G l Φ3 sz x rd nw cr tp tt sI sT pt ql fl pe le nx n_6 qu kn ec nu va st ep ti ad ob ra rt ex sa us tk 0 me dr se sn d hx hI3 (show n_6 + 4 ≤ 700 by omega) hnw) (cwV 1 B.1.2.2.2.2 gX12_appendInput_X12_appendBytes rfl rfl rfl (by decide +kernel) ⟨Nat.le_of_ble_eq_true rfl, Nat.le_of_ble_eq_true rfl⟩) h_7 rfl rfl rfl rfl (Nat.le_of_ble_eq_true rfl) dX12_appendInput_32 ⟨Nat.le_of_ble_eq_true rfl, Nat.le_of_ble_eq_true rfl⟩ (fun r_3 Φ4 sz3 st3 hp3 hs3 => ?_)
    obtain ⟨rfl, hq3, ⟨n_9, b_42, hI4⟩, hF3⟩ := hp3
    subst sz3
    replace hs3 : st3 = [] := hs3
    subst st3
    replace hI4 : Im G x (rd, nw, cr, tp, tt, sI, sT, pt, ql, fl, pe, le, nx, n_9, qu, kn, ec, nu, va, st, ep, ti, ad, ob, ra, rt, ex, sa, us, tk, 0, me, dr, se, sn) Φ4 := hI4
    replace b_42 : n_9 = n_6 + 4 := b_42
    refine z_aload_n B dX12_appendInput_35 rfl 0 rfl ?_
    refine z_iload B dX12_appendInput_36 4 rfl ?_
    obtain ⟨n_10, v_4, n_11, h_8, b_55, b_43, b_44, b_45, b_46, b_47, b_48, b_49, b_50, b_51, b_52, b_53, b_54⟩ := im0 hI4
    replace b_43 : 1 ≤ rt := b_43
    replace b_44 : rt ≤ 1024 := b_44
    replace b_45 : fl ≤ 12 := b_45
    replace b_46 : pe ≤ 24 := b_46
    replace b_47 : le ≤ 700 := b_47
    replace b_48 : qu ≤ 12 := b_48
    replace b_49 : n_10 ≤ 8 := b_49
    replace b_50 : n_11 ≤ 24 := b_50
    replace b_51 : tk ≤ 24 := b_51
    replace b_52 : n_9 ≤ 700 := b_52
    replace b_53 : nx ≤ 701 := b_53
    replace b_54 : st ≤ 701 := b_54
    have h_9 : Φ4 x = some (o_ 14 [.int 0, .ref (x + 1), .ref (x + 2), .int ti, .int ra, .int (nI rt), .int ex, .int ad, .ref (x + 3), .ref (x + 4), .int me, .long se, .ref (x + 5), .int (nI fl), .int dr, .long ob, .long sa, .long sn, .long us, .ref (x + 6), .ref (x + 7), .int (nI pe), .ref (x + 8), .int (nI le), .ref (x + 9), .ref (x + 10), .int (nI qu), .ref (x + 11), .ref (x + 12), .ref (x + 13), .ref (x + 14), .ref (x + 15), .ref (x + 16), .int (nI n_10), .long v_4, .ref (x + 17), .ref (x + 18), .ref (x + 19), .ref (x + 20), .ref (x + 21), .ref (x + 22), .int (nI n_11), .ref (x + 23), .ref (x + 24), .int (nI tk), .ref (x + 25), .int (nI n_9), .int (nI nx), .int ec, .int ep, .int kn, .int (nI st), .int nu, .long va]) := h_8
    refine z_callV (As := [.int f]) (rest := []) B (r_appendBytes G l Φ4 sz x rd nw cr tp tt sI sT pt ql fl pe le nx n_9 qu kn ec nu va st ep ti ad ob ra rt ex sa us tk 0 me dr se sn f hx hI4 (show n_9 + 4 ≤ 700 by omega) hnw) (cwV 1 B.1.2.2.2.2 gX12_appendInput_X12_appendBytes rfl rfl rfl (by decide +kernel) ⟨Nat.le_of_ble_eq_true rfl, Nat.le_of_ble_eq_true rfl⟩) h_9 rfl rfl rfl rfl (Nat.le_of_ble_eq_true rfl) dX12_appendInput_38 ⟨Nat.le_of_ble_eq_true rfl, Nat.le_of_ble_eq_true rfl⟩ (fun r_4 Φ5 sz4 st4 hp4 hs4 => ?_)
    obtain ⟨rfl, hq4, ⟨n_12, b_56, hI5⟩, hF4⟩ := hp4
    subst sz4
    replace hs4 : st4 = [] := hs4
    subst st4
    replace hI5 : Im G x (rd, nw, cr, tp, tt, sI, sT, pt, ql, fl, pe, le, nx, n_12, qu, kn, ec, nu, va, st, ep, ti, ad, ob, ra, rt, ex, sa, us, tk, 0, me, dr, se, sn) Φ5 := hI5
    replace b_56 : n_12 = n_9 + 4 := b_56
    refine z_aload_n B dX12_appendInput_41 rfl 0 rfl ?_
    refine z_iload B dX12_appendInput_42 5 rfl ?_
    obtain ⟨n_13, v_5, n_14, h_10, b_69, b_57, b_58, b_59, b_60, b_61, b_62, b_63, b_64, b_65, b_66, b_67, b_68⟩ := im0 hI5
    replace b_57 : 1 ≤ rt := b_57
    replace b_58 : rt ≤ 1024 := b_58
    replace b_59 : fl ≤ 12 := b_59
    replace b_60 : pe ≤ 24 := b_60
    replace b_61 : le ≤ 700 := b_61
    replace b_62 : qu ≤ 12 := b_62
    replace b_63 : n_13 ≤ 8 := b_63
    replace b_64 : n_14 ≤ 24 := b_64
    replace b_65 : tk ≤ 24 := b_65
    replace b_66 : n_12 ≤ 700 := b_66
    replace b_67 : nx ≤ 701 := b_67
    replace b_68 : st ≤ 701 := b_68
    have h_11 : Φ5 x = some (o_ 14 [.int 0, .ref (x + 1), .ref (x + 2), .int ti, .int ra, .int (nI rt), .int ex, .int ad, .ref (x + 3), .ref (x + 4), .int me, .long se, .ref (x + 5), .int (nI fl), .int dr, .long ob, .long sa, .long sn, .long us, .ref (x + 6), .ref (x + 7), .int (nI pe), .ref (x + 8), .int (nI le), .ref (x + 9), .ref (x + 10), .int (nI qu), .ref (x + 11), .ref (x + 12), .ref (x + 13), .ref (x + 14), .ref (x + 15), .ref (x + 16), .int (nI n_13), .long v_5, .ref (x + 17), .ref (x + 18), .ref (x + 19), .ref (x + 20), .ref (x + 21), .ref (x + 22), .int (nI n_14), .ref (x + 23), .ref (x + 24), .int (nI tk), .ref (x + 25), .int (nI n_12), .int (nI nx), .int ec, .int ep, .int kn, .int (nI st), .int nu, .long va]) := h_10
    refine z_callV (As := [.int g]) (rest := []) B (r_appendBytes G l Φ5 sz x rd nw cr tp tt sI sT pt ql fl pe le nx n_12 qu kn ec nu va st ep ti ad ob ra rt ex sa us tk 0 me dr se sn g hx hI5 (show n_12 + 4 ≤ 700 by omega) hnw) (cwV 1 B.1.2.2.2.2 gX12_appendInput_X12_appendBytes rfl rfl rfl (by decide +kernel) ⟨Nat.le_of_ble_eq_true rfl, Nat.le_of_ble_eq_true rfl⟩) h_11 rfl rfl rfl rfl (Nat.le_of_ble_eq_true rfl) dX12_appendInput_44 ⟨Nat.le_of_ble_eq_true rfl, Nat.le_of_ble_eq_true rfl⟩ (fun r_5 Φ6 sz5 st5 hp5 hs5 => ?_)
    obtain ⟨rfl, hq5, ⟨n_15, b_70, hI6⟩, hF5⟩ := hp5
    subst sz5
    replace hs5 : st5 = [] := hs5
    subst st5
    replace hI6 : Im G x (rd, nw, cr, tp, tt, sI, sT, pt, ql, fl, pe, le, nx, n_15, qu, kn, ec, nu, va, st, ep, ti, ad, ob, ra, rt, ex, sa, us, tk, 0, me, dr, se, sn) Φ6 := hI6
    replace b_70 : n_15 = n_12 + 4 := b_70
    refine z_aload_n B dX12_appendInput_47 rfl 0 rfl ?_
    obtain ⟨n_16, v_6, n_17, h_12, b_83, b_71, b_72, b_73, b_74, b_75, b_76, b_77, b_78, b_79, b_80, b_81, b_82⟩ := im0 hI6
    replace b_71 : 1 ≤ rt := b_71
    replace b_72 : rt ≤ 1024 := b_72
    replace b_73 : fl ≤ 12 := b_73
    replace b_74 : pe ≤ 24 := b_74
    replace b_75 : le ≤ 700 := b_75
    replace b_76 : qu ≤ 12 := b_76
    replace b_77 : n_16 ≤ 8 := b_77
    replace b_78 : n_17 ≤ 24 := b_78
    replace b_79 : tk ≤ 24 := b_79
    replace b_80 : n_15 ≤ 700 := b_80
    replace b_81 : nx ≤ 701 := b_81
    replace b_82 : st ≤ 701 := b_82
    have h_13 : Φ6 x = some (o_ 14 [.int 0, .ref (x + 1), .ref (x + 2), .int ti, .int ra, .int (nI rt), .int ex, .int ad, .ref (x + 3), .ref (x + 4), .int me, .long se, .ref (x + 5), .int (nI fl), .int dr, .long ob, .long sa, .long sn, .long us, .ref (x + 6), .ref (x + 7), .int (nI pe), .ref (x + 8), .int (nI le), .ref (x + 9), .ref (x + 10), .int (nI qu), .ref (x + 11), .ref (x + 12), .ref (x + 13), .ref (x + 14), .ref (x + 15), .ref (x + 16), .int (nI n_16), .long v_6, .ref (x + 17), .ref (x + 18), .ref (x + 19), .ref (x + 20), .ref (x + 21), .ref (x + 22), .int (nI n_17), .ref (x + 23), .ref (x + 24), .int (nI tk), .ref (x + 25), .int (nI n_15), .int (nI nx), .int ec, .int ep, .int kn, .int (nI st), .int nu, .long va]) := h_12
    refine z_get (ref := "FlowExporterModel") (C := RX12) (T := TX12) (N := 54) (ci := 14) (v := .int (nI n_15)) B hu_X12_appendInput_X12 rfl 46 (Nat.le_of_ble_eq_true rfl) hv_X12_appendInput_441 rfl h_13 rfl dX12_appendInput_48 ?_
    exact z_ret_i B dX12_appendInput_51 ⟨⟨_, rfl⟩, rfl, ⟨n_15, 0, (Or.inr ⟨by omega, congrArg (fun w9 : Nat => some (Value.int (nI w9))) (show n_15 = il + 20 by omega), by omega⟩), hI6⟩, (fun b9 h9 => ((hF5 b9 h9).trans ((hF4 b9 h9).trans ((hF3 b9 h9).trans ((hF2 b9 h9).trans ((hF1 b9 h9).trans ((fset_fr hΦ1 (fun h8 => h9 (0) h8 (show 0 = 0 ∨ 0 = 25 by decide))).trans rfl)))))))⟩
  · have e_2 : ¬ (il + 20 ≤ 700) := fun h9 => c_1 ((nI_leI (a := il + 20) (b := 700) (by omega) (by omega)).mpr h9)
    refine z_iconst (v := (-1)) B dX12_appendInput_18 rfl ?_
    exact z_ret_i B dX12_appendInput_19 ⟨⟨_, rfl⟩, rfl, ⟨il, 0, (Or.inl ⟨by omega, rfl, by omega⟩), hI1⟩, (fun b9 h9 => ((fset_fr hΦ1 (fun h8 => h9 (0) h8 (show 0 = 0 ∨ 0 = 25 by decide))).trans rfl))⟩

theorem hu_X12_truncateInput_X12 : ∀ w ∈ u_ws RX12 TX12 54, w ∈ wsX12_truncateInput := fun _ h => List.mem_cons_of_mem _ (List.mem_append_right _ (h))

theorem hv_X12_truncateInput_1 : Cond.fieldLink RX12 1 "FlowExporterModel" (TX12 0).2.1 (TX12 0).2.2.1 ∈ wsX12_truncateInput := List.mem_cons_of_mem _ (List.mem_append_left _ (List.mem_of_getElem? (i := 0) rfl))

theorem hv_X12_truncateInput_441 : Cond.fieldLink RX12 441 "FlowExporterModel" (TX12 46).2.1 (TX12 46).2.2.1 ∈ wsX12_truncateInput := List.mem_cons_of_mem _ (List.mem_append_left _ (List.mem_of_getElem? (i := 1) rfl))

set_option maxHeartbeats 4000000 in
set_option maxRecDepth 100000 in
theorem r_truncateInput (G : EnvG) (l : Launch) (Φ : Hm) (sz x : Nat) (rd : (Nat → Int32) → Prop) (nw : (Nat → Int32) → Prop) (cr : (Nat → Int64) → Prop) (tp : (Nat → Int32) → Prop) (tt : (Nat → Int64) → Prop) (sI : (Nat → Int32) → Prop) (sT : (Nat → Int32) → Prop) (pt : (Nat → Int32) → Prop) (ql : (Nat → Int32) → Prop) (fl : Nat) (pe : Nat) (le : Nat) (nx : Nat) (il : Nat) (qu : Nat) (kn : Int32) (ec : Int32) (nu : Int32) (va : Int64) (st : Nat) (ep : Int32) (ti : Int32) (ad : Int32) (ob : Int64) (ra : Int32) (rt : Nat) (ex : Int32) (sa : Int64) (us : Int64) (tk : Nat) (th : Int32) (me : Int32) (dr : Int32) (se : Int64) (sn : Int64) (a : Int32) (hx : G.2.2.2 ≤ x) (hI : Im G x (rd, nw, cr, tp, tt, sI, sT, pt, ql, fl, pe, le, nx, il, qu, kn, ec, nu, va, st, ep, ti, ad, ob, ra, rt, ex, sa, us, tk, th, me, dr, se, sn) Φ) (hnw : ∀ f9 : Nat → Int32, nw f9 → NN f9) : Ct G l yX12_truncateInput wsX12_truncateInput ({ frames := 1, cells := 0, slots := 0, locals := 25 }) 0 0 [.ref x, .int a] Φ sz (fun v Φ1 sz1 => (∃ r9 : Int32, v = some (.int r9)) ∧ sz1 = sz ∧ (∃ (il1 : Nat) (th1 : Int32), (trV il a v il1) ∧ Im G x (rd, nw, cr, tp, tt, sI, sT, pt, ql, fl, pe, le, nx, il1, qu, kn, ec, nu, va, st, ep, ti, ad, ob, ra, rt, ex, sa, us, tk, th1, me, dr, se, sn) Φ1) ∧ Fr x (fun j9 => j9 = 0) Φ Φ1) := by
  refine Ct.of (cc := cX12_truncateInput) (maxL := 2) (ret := (some .int)) (by decide) rfl (Nat.le_of_ble_eq_true rfl) ?_
  intro p9 e9 s9 m9 w9 t9 k9 B
  show Z p9 l e9 _ s9 m9 _ w9 t9 k9 _ G 2 0 [(0, .ref x), (1, .int a)] [] Φ sz 0 0
  refine z_aload_n B dX12_truncateInput_0 rfl 0 rfl ?_
  refine z_iconst (v := 0) B dX12_truncateInput_1 rfl ?_
  obtain ⟨n_1, v_1, n_2, h_1, b_13, b_1, b_2, b_3, b_4, b_5, b_6, b_7, b_8, b_9, b_10, b_11, b_12⟩ := im0 hI
  replace b_1 : 1 ≤ rt := b_1
  replace b_2 : rt ≤ 1024 := b_2
  replace b_3 : fl ≤ 12 := b_3
  replace b_4 : pe ≤ 24 := b_4
  replace b_5 : le ≤ 700 := b_5
  replace b_6 : qu ≤ 12 := b_6
  replace b_7 : n_1 ≤ 8 := b_7
  replace b_8 : n_2 ≤ 24 := b_8
  replace b_9 : tk ≤ 24 := b_9
  replace b_10 : il ≤ 700 := b_10
  replace b_11 : nx ≤ 701 := b_11
  replace b_12 : st ≤ 701 := b_12
  have h_2 : Φ x = some (o_ 14 [.int th, .ref (x + 1), .ref (x + 2), .int ti, .int ra, .int (nI rt), .int ex, .int ad, .ref (x + 3), .ref (x + 4), .int me, .long se, .ref (x + 5), .int (nI fl), .int dr, .long ob, .long sa, .long sn, .long us, .ref (x + 6), .ref (x + 7), .int (nI pe), .ref (x + 8), .int (nI le), .ref (x + 9), .ref (x + 10), .int (nI qu), .ref (x + 11), .ref (x + 12), .ref (x + 13), .ref (x + 14), .ref (x + 15), .ref (x + 16), .int (nI n_1), .long v_1, .ref (x + 17), .ref (x + 18), .ref (x + 19), .ref (x + 20), .ref (x + 21), .ref (x + 22), .int (nI n_2), .ref (x + 23), .ref (x + 24), .int (nI tk), .ref (x + 25), .int (nI il), .int (nI nx), .int ec, .int ep, .int kn, .int (nI st), .int nu, .long va]) := h_1
  refine z_put (ref := "FlowExporterModel") (C := RX12) (T := TX12) (N := 54) (ci := 14) (v := .int 0) B hu_X12_truncateInput_X12 tyX12 tyX12_ok nmX12 rfl 0 (Nat.le_of_ble_eq_true rfl) hv_X12_truncateInput_1 rfl (Or.inl rfl) h_2 hx rfl rfl (Nat.le_of_ble_eq_true rfl) dX12_truncateInput_2 (fun Φ1 hΦ1 => ?_)
  have h_3 : Φ1 x = some (o_ 14 [.int 0, .ref (x + 1), .ref (x + 2), .int ti, .int ra, .int (nI rt), .int ex, .int ad, .ref (x + 3), .ref (x + 4), .int me, .long se, .ref (x + 5), .int (nI fl), .int dr, .long ob, .long sa, .long sn, .long us, .ref (x + 6), .ref (x + 7), .int (nI pe), .ref (x + 8), .int (nI le), .ref (x + 9), .ref (x + 10), .int (nI qu), .ref (x + 11), .ref (x + 12), .ref (x + 13), .ref (x + 14), .ref (x + 15), .ref (x + 16), .int (nI n_1), .long v_1, .ref (x + 17), .ref (x + 18), .ref (x + 19), .ref (x + 20), .ref (x + 21), .ref (x + 22), .int (nI n_2), .ref (x + 23), .ref (x + 24), .int (nI tk), .ref (x + 25), .int (nI il), .int (nI nx), .int ec, .int ep, .int kn, .int (nI st), .int nu, .long va]) := fset_at hΦ1
  have hI1 : Im G x (rd, nw, cr, tp, tt, sI, sT, pt, ql, fl, pe, le, nx, il, qu, kn, ec, nu, va, st, ep, ti, ad, ob, ra, rt, ex, sa, us, tk, 0, me, dr, se, sn) Φ1 := Im.put0 hI hΦ1 ⟨n_1, v_1, n_2, rfl, b_13, b_1, b_2, b_3, b_4, b_5, b_6, b_7, b_8, b_9, b_10, b_11, b_12⟩
  refine z_iload_n B dX12_truncateInput_5 rfl 1 rfl ?_
  refine z_i2l (v := a.toInt64) B dX12_truncateInput_6 rfl ?_
  refine z_lconst (v := 0) B dX12_truncateInput_7 rfl ?_
  refine z_aload_n B dX12_truncateInput_8 rfl 0 rfl ?_
  refine z_get (ref := "FlowExporterModel") (C := RX12) (T := TX12) (N := 54) (ci := 14) (v := .int (nI il)) B hu_X12_truncateInput_X12 rfl 46 (Nat.le_of_ble_eq_true rfl) hv_X12_truncateInput_441 rfl h_3 rfl dX12_truncateInput_9 ?_
  refine z_i2l (v := (nI il).toInt64) B dX12_truncateInput_12 rfl ?_
  by_cases hR1 : inP a.toInt64 0 ((nI il).toInt64)
  · obtain ⟨n_3, e_1, e_2, e_3, rfl⟩ := in_get (L := 0) (H := ((il : Nat) : Int)) (by decide) (natL (by omega)) hR1
    refine z_callS (As := [.long ((nI n_3).toInt64), .long 0, .long ((nI il).toInt64)]) (rest := []) B (c_inR1 G l Φ1 sz ((nI n_3).toInt64) 0 ((nI il).toInt64) hR1 (fun v8 Φ8 sz8 => v8 = some (.int 1) ∧ sz8 = sz ∧ Im G x (rd, nw, cr, tp, tt, sI, sT, pt, ql, fl, pe, le, nx, il, qu, kn, ec, nu, va, st, ep, ti, ad, ob, ra, rt, ex, sa, us, tk, 0, me, dr, se, sn) Φ8 ∧ Fr x (fun j9 => False) Φ1 Φ8) ⟨rfl, rfl, hI1, fun _ _ => rfl⟩) (va_cwS 3 B.1.2.2.2.2 gX12_truncateInput_X12_inRange rfl rfl rfl (by decide +kernel) ⟨Nat.le_of_ble_eq_true rfl, Nat.le_of_ble_eq_true rfl⟩) rfl rfl (Nat.le_of_ble_eq_true rfl) dX12_truncateInput_13 ⟨Nat.le_of_ble_eq_true rfl, Nat.le_of_ble_eq_true rfl⟩ (fun r_1 Φ2 sz1 st1 hp1 hs1 => ?_)
    obtain ⟨rfl, hq1, hI2, hF1⟩ := hp1
    subst sz1
    replace hs1 : st1 = [.int 1] := hs1
    subst st1
    refine z_if_ne (tgt := 21) B dX12_truncateInput_16 rfl (fun c_1 => ?_) (fun h9 => absurd h9 (by decide))
    refine z_aload_n B dX12_truncateInput_21 rfl 0 rfl ?_
    refine z_iload_n B dX12_truncateInput_22 rfl 1 rfl ?_
    have h_4 : Φ2 x = some (o_ 14 [.int 0, .ref (x + 1), .ref (x + 2), .int ti, .int ra, .int (nI rt), .int ex, .int ad, .ref (x + 3), .ref (x + 4), .int me, .long se, .ref (x + 5), .int (nI fl), .int dr, .long ob, .long sa, .long sn, .long us, .ref (x + 6), .ref (x + 7), .int (nI pe), .ref (x + 8), .int (nI le), .ref (x + 9), .ref (x + 10), .int (nI qu), .ref (x + 11), .ref (x + 12), .ref (x + 13), .ref (x + 14), .ref (x + 15), .ref (x + 16), .int (nI n_1), .long v_1, .ref (x + 17), .ref (x + 18), .ref (x + 19), .ref (x + 20), .ref (x + 21), .ref (x + 22), .int (nI n_2), .ref (x + 23), .ref (x + 24), .int (nI tk), .ref (x + 25), .int (nI il), .int (nI nx), .int ec, .int ep, .int kn, .int (nI st), .int nu, .long va]) := ((hF1 x (fun j9 h8 h7 => (show False from h7).elim)).trans h_3)
    refine z_put (ref := "FlowExporterModel") (C := RX12) (T := TX12) (N := 54) (ci := 14) (v := .int (nI n_3)) B hu_X12_truncateInput_X12 tyX12 tyX12_ok nmX12 rfl 46 (Nat.le_of_ble_eq_true rfl) hv_X12_truncateInput_441 rfl (Or.inl rfl) h_4 hx rfl rfl (Nat.le_of_ble_eq_true rfl) dX12_truncateInput_23 (fun Φ3 hΦ2 => ?_)
    have h_5 : Φ3 x = some (o_ 14 [.int 0, .ref (x + 1), .ref (x + 2), .int ti, .int ra, .int (nI rt), .int ex, .int ad, .ref (x + 3), .ref (x + 4), .int me, .long se, .ref (x + 5), .int (nI fl), .int dr, .long ob, .long sa, .long sn, .long us, .ref (x + 6), .ref (x + 7), .int (nI pe), .ref (x + 8), .int (nI le), .ref (x + 9), .ref (x + 10), .int (nI qu), .ref (x + 11), .ref (x + 12), .ref (x + 13), .ref (x + 14), .ref (x + 15), .ref (x + 16), .int (nI n_1), .long v_1, .ref (x + 17), .ref (x + 18), .ref (x + 19), .ref (x + 20), .ref (x + 21), .ref (x + 22), .int (nI n_2), .ref (x + 23), .ref (x + 24), .int (nI tk), .ref (x + 25), .int (nI n_3), .int (nI nx), .int ec, .int ep, .int kn, .int (nI st), .int nu, .long va]) := fset_at hΦ2
    have hI3 : Im G x (rd, nw, cr, tp, tt, sI, sT, pt, ql, fl, pe, le, nx, n_3, qu, kn, ec, nu, va, st, ep, ti, ad, ob, ra, rt, ex, sa, us, tk, 0, me, dr, se, sn) Φ3 := Im.put0 hI2 hΦ2 ⟨n_1, v_1, n_2, rfl, b_13, b_1, b_2, b_3, b_4, b_5, b_6, b_7, b_8, b_9, (show n_3 ≤ 700 by omega), b_11, b_12⟩
    refine z_iload_n B dX12_truncateInput_26 rfl 1 rfl ?_
    exact z_ret_i B dX12_truncateInput_27 ⟨⟨_, rfl⟩, rfl, ⟨n_3, 0, (Or.inl ⟨n_3, by omega, rfl, rfl, rfl⟩), hI3⟩, (fun b9 h9 => ((fset_fr hΦ2 (fun h8 => h9 (0) h8 (show 0 = 0 by decide))).trans ((hF1 b9 (fun j9 h8 h7 => (show False from h7).elim)).trans ((fset_fr hΦ1 (fun h8 => h9 (0) h8 (show 0 = 0 by decide))).trans rfl))))⟩
  · refine z_callS (As := [.long a.toInt64, .long 0, .long ((nI il).toInt64)]) (rest := []) B (c_inR0 G l Φ1 sz a.toInt64 0 ((nI il).toInt64) hR1 (fun v8 Φ8 sz8 => v8 = some (.int 0) ∧ sz8 = sz ∧ Im G x (rd, nw, cr, tp, tt, sI, sT, pt, ql, fl, pe, le, nx, il, qu, kn, ec, nu, va, st, ep, ti, ad, ob, ra, rt, ex, sa, us, tk, 0, me, dr, se, sn) Φ8 ∧ Fr x (fun j9 => False) Φ1 Φ8) ⟨rfl, rfl, hI1, fun _ _ => rfl⟩) (va_cwS 3 B.1.2.2.2.2 gX12_truncateInput_X12_inRange rfl rfl rfl (by decide +kernel) ⟨Nat.le_of_ble_eq_true rfl, Nat.le_of_ble_eq_true rfl⟩) rfl rfl (Nat.le_of_ble_eq_true rfl) dX12_truncateInput_13 ⟨Nat.le_of_ble_eq_true rfl, Nat.le_of_ble_eq_true rfl⟩ (fun r_2 Φ4 sz2 st2 hp2 hs2 => ?_)
    obtain ⟨rfl, hq2, hI4, hF2⟩ := hp2
    subst sz2
    replace hs2 : st2 = [.int 0] := hs2
    subst st2
    refine z_if_ne (tgt := 21) B dX12_truncateInput_16 rfl (fun h9 => absurd (by decide) h9) (fun c_2 => ?_)
    refine z_iconst (v := (-1)) B dX12_truncateInput_19 rfl ?_
    exact z_ret_i B dX12_truncateInput_20 ⟨⟨_, rfl⟩, rfl, ⟨il, 0, (Or.inr ⟨tr_out (by omega) hR1, rfl, rfl⟩), hI4⟩, (fun b9 h9 => ((hF2 b9 (fun j9 h8 h7 => (show False from h7).elim)).trans ((fset_fr hΦ1 (fun h8 => h9 (0) h8 (show 0 = 0 by decide))).trans rfl)))⟩

theorem bA_in {f : Nat → Int32} {il i : Nat} {lo hi : Int64} (hlo : 0 ≤ lo.toInt) (h : inP (bA f il i).toInt64 lo hi) : i < il := by
  refine bA_lt (f := f) (fun e => ?_)
  rw [e, inP_iff] at h
  have h2 : (-1 : Int32).toInt = -1 := by decide
  rw [h2] at h
  omega

/-! the reference's token at hand -/
noncomputable def kR (k : Nat) : Int32 := nI (k - 1)
noncomputable def WvR (b : Nat → Int32) (s nx : Nat) (va : Int64) : Prop := nx - s ≤ 12 → va = Int64.ofNat (wv b s (nx - s))
noncomputable def NvR (b : Nat → Int32) (s nx : Nat) (va : Int64) : Prop := nx - s ≤ 6 → va = Int64.ofNat (nv b s (nx - s))
/-- kn, st, nx, va: the token behind p -/
noncomputable def TkR (b : Nat → Int32) (p : Nat) (kn : Int32) (st nx : Nat) (va : Int64) : Prop := ∃ k, Tk b p k st nx ∧ kn = kR k ∧ ¬ k = 1 ∧ (k = 2 → va = Int64.ofNat (wv b st (nx - st))) ∧ (k = 3 → va = Int64.ofNat (nv b st (nx - st)))
theorem TkR.mk {b : Nat → Int32} {p st nx k : Nat} {kn : Int32} {va : Int64} (h : Tk b p k st nx) (h1 : kn = kR k) (h2 : ¬ k = 1) (h3 : k = 2 → WvR b st nx va ∧ nx - st ≤ 12) (h4 : k = 3 → NvR b st nx va ∧ nx - st ≤ 6) : TkR b p kn st nx va := ⟨k, h, h1, h2, fun e => (h3 e).1 (h3 e).2, fun e => (h4 e).1 (h4 e).2⟩
theorem kO_L {a : Int32} : inP a.toInt64 97 122 ↔ kO a = 2 := by
  rw [inP_iff, kO_2, show (97 : Int64).toInt = 97 from by decide, show (122 : Int64).toInt = 122 from by decide]
theorem kO_D {a : Int32} : inP a.toInt64 48 57 ↔ kO a = 3 := by
  rw [inP_iff, kO_3, show (48 : Int64).toInt = 48 from by decide, show (57 : Int64).toInt = 57 from by decide]
theorem WvR_0 {b : Nat → Int32} {s : Nat} : WvR b s s 0 := fun _ => by rw [Nat.sub_self]; rfl
theorem NvR_0 {b : Nat → Int32} {s : Nat} : NvR b s s 0 := fun _ => by rw [Nat.sub_self]; rfl
theorem WvR_x {b : Nat → Int32} {s nx : Nat} {va : Int64} (h : 12 < nx - s) : WvR b s nx va := fun h1 => absurd h1 (by omega)
theorem NvR_x {b : Nat → Int32} {s nx : Nat} {va : Int64} (h : 6 < nx - s) : NvR b s nx va := fun h1 => absurd h1 (by omega)
theorem ofNat_step {W m d q : Nat} (hq : d ≤ q) (h1 : q ≤ 255) (hW : W < 2 ^ 58) (hm : m ≤ 32) : Int64.ofNat W * Int64.ofNat m + (nI q).toInt64 - Int64.ofNat d = Int64.ofNat (m * W + (q - d)) := by
  have e1 : (nI q).toInt64 = Int64.ofNat q := nI_l (by omega)
  rw [e1, ← Int64.ofNat_mul, ← Int64.ofNat_add]
  have h2 : W * m + q = (m * W + (q - d)) + d := by rw [Nat.mul_comm]; omega
  rw [h2, Int64.ofNat_add, Int64.add_sub_cancel]
theorem bA_n {f : Nat → Int32} {n i : Nat} (h : i < n) : bA f n i = nI (bA f n i).toNatClampNeg ∧ (bA f n i).toNatClampNeg ≤ 255 := by
  obtain ⟨q, hq, e⟩ := bA_and (f := f) h
  rw [e, nI_clamp (by omega)]
  exact ⟨rfl, hq⟩
theorem WvR_s {f : Nat → Int32} {n s nx : Nat} {va : Int64} (h : WvR (bA f n) s nx va) (hs : s ≤ nx) (hl : nx - s < 12) (ha : ∀ i, s ≤ i → i < nx → kO (bA f n i) = 2) (hk : kO (bA f n nx) = 2) (hn : nx < n) : WvR (bA f n) s (nx + 1) (va * 32 + (bA f n nx).toInt64 - 96) := by
  intro _
  have h1 := h (by omega)
  have h2 := wv_lt (bA f n) s (nx - s) (fun i hi => ha (s + i) (by omega) (by omega))
  have h3 : 32 ^ (nx - s) ≤ 32 ^ 11 := Nat.pow_le_pow_right (by decide) (by omega)
  obtain ⟨e1, e2⟩ := bA_n (f := f) hn
  have h4 := kO_2.mp hk
  have h5 : 97 ≤ (bA f n nx).toNatClampNeg := by
    show 97 ≤ (bA f n nx).toInt.toNat
    omega
  have h6 := ofNat_step (W := wv (bA f n) s (nx - s)) (m := 32) (d := 96) (q := (bA f n nx).toNatClampNeg) (by omega) e2 (by omega) (by omega)
  rw [← e1] at h6
  rw [show nx + 1 - s = nx - s + 1 by omega]
  show _ = Int64.ofNat (32 * wv (bA f n) s (nx - s) + ((bA f n (s + (nx - s))).toNatClampNeg - 96))
  rw [show s + (nx - s) = nx by omega, ← h6, h1]
  rfl
theorem NvR_s {f : Nat → Int32} {n s nx : Nat} {va : Int64} (h : NvR (bA f n) s nx va) (hs : s ≤ nx) (hl : nx - s < 6) (ha : ∀ i, s ≤ i → i < nx → kO (bA f n i) = 3) (hk : kO (bA f n nx) = 3) (hn : nx < n) : NvR (bA f n) s (nx + 1) (va * 10 + (bA f n nx).toInt64 - 48) := by
  intro _
  have h1 := h (by omega)
  have h2 := nv_lt (bA f n) s (nx - s) (fun i hi => ha (s + i) (by omega) (by omega))
  have h3 : 10 ^ (nx - s) ≤ 10 ^ 5 := Nat.pow_le_pow_right (by decide) (by omega)
  obtain ⟨e1, e2⟩ := bA_n (f := f) hn
  have h4 := kO_3.mp hk
  have h5 : 48 ≤ (bA f n nx).toNatClampNeg := by
    show 48 ≤ (bA f n nx).toInt.toNat
    omega
  have h6 := ofNat_step (W := nv (bA f n) s (nx - s)) (m := 10) (d := 48) (q := (bA f n nx).toNatClampNeg) (by omega) e2 (by omega) (by omega)
  rw [← e1] at h6
  rw [show nx + 1 - s = nx - s + 1 by omega]
  show _ = Int64.ofNat (10 * nv (bA f n) s (nx - s) + ((bA f n (s + (nx - s))).toNatClampNeg - 48))
  rw [show s + (nx - s) = nx by omega, ← h6, h1]
  rfl

theorem hu_X12_byteAt_X12 : ∀ w ∈ u_ws RX12 TX12 54, w ∈ wsX12_byteAt := fun _ h => List.mem_cons_of_mem _ (List.mem_append_left _ (List.mem_append_right _ (h)))

theorem hv_X12_byteAt_441 : Cond.fieldLink RX12 441 "FlowExporterModel" (TX12 46).2.1 (TX12 46).2.2.1 ∈ wsX12_byteAt := List.mem_cons_of_mem _ (List.mem_append_left _ (List.mem_append_left _ (List.mem_of_getElem? (i := 0) rfl)))

theorem hv_X12_byteAt_88 : Cond.fieldLink RX12 88 "FlowExporterModel" (TX12 45).2.1 (TX12 45).2.2.1 ∈ wsX12_byteAt := List.mem_cons_of_mem _ (List.mem_append_left _ (List.mem_append_left _ (List.mem_of_getElem? (i := 1) rfl)))

set_option maxHeartbeats 4000000 in
set_option maxRecDepth 100000 in
theorem r_byteAt (G : EnvG) (l : Launch) (Φ : Hm) (sz x : Nat) (rd : (Nat → Int32) → Prop) (nw : (Nat → Int32) → Prop) (cr : (Nat → Int64) → Prop) (tp : (Nat → Int32) → Prop) (tt : (Nat → Int64) → Prop) (sI : (Nat → Int32) → Prop) (sT : (Nat → Int32) → Prop) (pt : (Nat → Int32) → Prop) (ql : (Nat → Int32) → Prop) (fl : Nat) (pe : Nat) (le : Nat) (nx : Nat) (il : Nat) (qu : Nat) (kn : Int32) (ec : Int32) (nu : Int32) (va : Int64) (st : Nat) (ep : Int32) (ti : Int32) (ad : Int32) (ob : Int64) (ra : Int32) (rt : Nat) (ex : Int32) (sa : Int64) (us : Int64) (tk : Nat) (th : Int32) (me : Int32) (dr : Int32) (se : Int64) (sn : Int64) (fB : Nat → Int32) (i : Nat) (hx : G.2.2.2 ≤ x) (hI : Im G x (rd, nw, cr, tp, tt, sI, sT, pt, ql, fl, pe, le, nx, il, qu, kn, ec, nu, va, st, ep, ti, ad, ob, ra, rt, ex, sa, us, tk, th, me, dr, se, sn) Φ) (hc0 : Φ (x + 25) = some (ab_ G 700 fB)) (hi : i ≤ 701) (hnw : ∀ f9 : Nat → Int32, nw f9 → NN f9) : Ct G l yX12_byteAt wsX12_byteAt ({ frames := 0, cells := 0, slots := 0, locals := 0 }) 0 0 [.ref x, .int (nI i)] Φ sz (fun v Φ1 sz1 => (v = some (.int (bA fB il i))) ∧ sz1 = sz ∧ (Im G x (rd, nw, cr, tp, tt, sI, sT, pt, ql, fl, pe, le, nx, il, qu, kn, ec, nu, va, st, ep, ti, ad, ob, ra, rt, ex, sa, us, tk, th, me, dr, se, sn) Φ1) ∧ Fr x (fun j9 => False) Φ Φ1) := by
  refine Ct.of (cc := cX12_byteAt) (maxL := 2) (ret := (some .int)) (by decide) rfl (Nat.le_of_ble_eq_true rfl) ?_
  intro p9 e9 s9 m9 w9 t9 k9 B
  show Z p9 l e9 _ s9 m9 _ w9 t9 k9 _ G 2 0 [(0, .ref x), (1, .int (nI i))] [] Φ sz 0 0
  refine z_iload_n B dX12_byteAt_0 rfl 1 rfl ?_
  refine z_aload_n B dX12_byteAt_1 rfl 0 rfl ?_
  obtain ⟨n_1, v_1, n_2, h_1, b_13, b_1, b_2, b_3, b_4, b_5, b_6, b_7, b_8, b_9, b_10, b_11, b_12⟩ := im0 hI
  replace b_1 : 1 ≤ rt := b_1
  replace b_2 : rt ≤ 1024 := b_2
  replace b_3 : fl ≤ 12 := b_3
  replace b_4 : pe ≤ 24 := b_4
  replace b_5 : le ≤ 700 := b_5
  replace b_6 : qu ≤ 12 := b_6
  replace b_7 : n_1 ≤ 8 := b_7
  replace b_8 : n_2 ≤ 24 := b_8
  replace b_9 : tk ≤ 24 := b_9
  replace b_10 : il ≤ 700 := b_10
  replace b_11 : nx ≤ 701 := b_11
  replace b_12 : st ≤ 701 := b_12
  have h_2 : Φ x = some (o_ 14 [.int th, .ref (x + 1), .ref (x + 2), .int ti, .int ra, .int (nI rt), .int ex, .int ad, .ref (x + 3), .ref (x + 4), .int me, .long se, .ref (x + 5), .int (nI fl), .int dr, .long ob, .long sa, .long sn, .long us, .ref (x + 6), .ref (x + 7), .int (nI pe), .ref (x + 8), .int (nI le), .ref (x + 9), .ref (x + 10), .int (nI qu), .ref (x + 11), .ref (x + 12), .ref (x + 13), .ref (x + 14), .ref (x + 15), .ref (x + 16), .int (nI n_1), .long v_1, .ref (x + 17), .ref (x + 18), .ref (x + 19), .ref (x + 20), .ref (x + 21), .ref (x + 22), .int (nI n_2), .ref (x + 23), .ref (x + 24), .int (nI tk), .ref (x + 25), .int (nI il), .int (nI nx), .int ec, .int ep, .int kn, .int (nI st), .int nu, .long va]) := h_1
  refine z_get (ref := "FlowExporterModel") (C := RX12) (T := TX12) (N := 54) (ci := 14) (v := .int (nI il)) B hu_X12_byteAt_X12 rfl 46 (Nat.le_of_ble_eq_true rfl) hv_X12_byteAt_441 rfl h_2 rfl dX12_byteAt_2 ?_
  refine z_icmp_ge (tgt := 21) B dX12_byteAt_5 rfl (fun c_1 => ?_) (fun c_1 => ?_)
  · have e_1 : il ≤ i := (nI_leI (a := il) (b := i) (by omega) (by omega)).mp c_1
    refine z_iconst (v := (-1)) B dX12_byteAt_21 rfl ?_
    exact z_ret_i B dX12_byteAt_22 ⟨(show some (Value.int (-1)) = some (.int (bA fB il i)) by unfold bA; rw [if_neg (by omega)]), rfl, hI, (fun b9 h9 => rfl)⟩
  · have e_2 : ¬ (il ≤ i) := fun h9 => c_1 ((nI_leI (a := il) (b := i) (by omega) (by omega)).mpr h9)
    refine z_aload_n B dX12_byteAt_8 rfl 0 rfl ?_
    refine z_get (ref := "FlowExporterModel") (C := RX12) (T := TX12) (N := 54) (ci := 14) (v := .ref (x + 25)) B hu_X12_byteAt_X12 rfl 45 (Nat.le_of_ble_eq_true rfl) hv_X12_byteAt_88 rfl h_2 rfl dX12_byteAt_9 ?_
    refine z_iload_n B dX12_byteAt_12 rfl 1 rfl ?_
    refine z_bald B hc0 (vp_in_nI (by omega) (by omega)) dX12_byteAt_13 ?_
    refine z_sipush (v := 255) B dX12_byteAt_14 rfl ?_
    refine z_iand B dX12_byteAt_17 ?_
    refine z_goto (tgt := 22) B dX12_byteAt_18 rfl ?_
    exact z_ret_i B dX12_byteAt_22 ⟨(show some (Value.int ((fB (nI i).toNatClampNeg) &&& 255)) = some (.int (bA fB il i)) by rw [nI_clamp (by omega)]; unfold bA; rw [if_pos (by omega)]), rfl, hI, (fun b9 h9 => rfl)⟩

theorem bA_k {f : Nat → Int32} {n i k : Nat} (hk : 1 ≤ k) (h : kO (bA f n i) = k) : i < n := Nat.lt_of_not_le (fun hc => by rw [kO_hi hc] at h; omega)

set_option maxHeartbeats 4000000 in
set_option maxRecDepth 100000 in
theorem r_isLetter (G : EnvG) (l : Launch) (Φ : Hm) (sz x : Nat) (rd : (Nat → Int32) → Prop) (nw : (Nat → Int32) → Prop) (cr : (Nat → Int64) → Prop) (tp : (Nat → Int32) → Prop) (tt : (Nat → Int64) → Prop) (sI : (Nat → Int32) → Prop) (sT : (Nat → Int32) → Prop) (pt : (Nat → Int32) → Prop) (ql : (Nat → Int32) → Prop) (fl : Nat) (pe : Nat) (le : Nat) (nx : Nat) (il : Nat) (qu : Nat) (kn : Int32) (ec : Int32) (nu : Int32) (va : Int64) (st : Nat) (ep : Int32) (ti : Int32) (ad : Int32) (ob : Int64) (ra : Int32) (rt : Nat) (ex : Int32) (sa : Int64) (us : Int64) (tk : Nat) (th : Int32) (me : Int32) (dr : Int32) (se : Int64) (sn : Int64) (a : Int32) (hx : G.2.2.2 ≤ x) (hI : Im G x (rd, nw, cr, tp, tt, sI, sT, pt, ql, fl, pe, le, nx, il, qu, kn, ec, nu, va, st, ep, ti, ad, ob, ra, rt, ex, sa, us, tk, th, me, dr, se, sn) Φ) (hnw : ∀ f9 : Nat → Int32, nw f9 → NN f9) : Ct G l yX12_isLetter wsX12_isLetter ({ frames := 1, cells := 0, slots := 0, locals := 25 }) 0 0 [.int a] Φ sz (fun v Φ1 sz1 => ((v = some (.int 0) ∧ ¬ kO a = 2) ∨ (v = some (.int 1) ∧ kO a = 2)) ∧ sz1 = sz ∧ (Im G x (rd, nw, cr, tp, tt, sI, sT, pt, ql, fl, pe, le, nx, il, qu, kn, ec, nu, va, st, ep, ti, ad, ob, ra, rt, ex, sa, us, tk, th, me, dr, se, sn) Φ1) ∧ Fr x (fun j9 => False) Φ Φ1) := by
  refine Ct.of (cc := cX12_isLetter) (maxL := 1) (ret := (some .boolean)) (by decide) rfl (Nat.le_of_ble_eq_true rfl) ?_
  intro p9 e9 s9 m9 w9 t9 k9 B
  show Z p9 l e9 _ s9 m9 _ w9 t9 k9 _ G 1 0 [(0, .int a)] [] Φ sz 0 0
  refine z_iload_n B dX12_isLetter_0 rfl 0 rfl ?_
  refine z_i2l (v := a.toInt64) B dX12_isLetter_1 rfl ?_
  refine z_ldc2 (v := 97) B (by decide +kernel) dX12_isLetter_2 ?_
  refine z_ldc2 (v := 122) B (by decide +kernel) dX12_isLetter_5 ?_
  by_cases hR1 : inP a.toInt64 97 122
  · obtain ⟨n_1, e_1, e_2, e_3, rfl⟩ := in_get (L := 97) (H := 122) (by decide) (by decide) hR1
    refine z_callS (As := [.long ((nI n_1).toInt64), .long 97, .long 122]) (rest := []) B (c_inR1 G l Φ sz ((nI n_1).toInt64) 97 122 hR1 (fun v8 Φ8 sz8 => v8 = some (.int 1) ∧ sz8 = sz ∧ Im G x (rd, nw, cr, tp, tt, sI, sT, pt, ql, fl, pe, le, nx, il, qu, kn, ec, nu, va, st, ep, ti, ad, ob, ra, rt, ex, sa, us, tk, th, me, dr, se, sn) Φ8 ∧ Fr x (fun j9 => False) Φ Φ8) ⟨rfl, rfl, hI, fun _ _ => rfl⟩) (va_cwS 3 B.1.2.2.2.2 gX12_isLetter_X12_inRange rfl rfl rfl (by decide +kernel) ⟨Nat.le_of_ble_eq_true rfl, Nat.le_of_ble_eq_true rfl⟩) rfl rfl (Nat.le_of_ble_eq_true rfl) dX12_isLetter_8 ⟨Nat.le_of_ble_eq_true rfl, Nat.le_of_ble_eq_true rfl⟩ (fun r_1 Φ1 sz1 st1 hp1 hs1 => ?_)
    obtain ⟨rfl, hq1, hI1, hF1⟩ := hp1
    subst sz1
    replace hs1 : st1 = [.int 1] := hs1
    subst st1
    exact z_ret_z B dX12_isLetter_11 (by decide) ⟨(Or.inr ⟨rfl, kO_L.mp hR1⟩), rfl, hI1, (fun b9 h9 => ((hF1 b9 (fun j9 h8 h7 => (show False from h7).elim)).trans rfl))⟩
  · have q_1 : ¬ (97 ≤ a.toInt ∧ a.toInt ≤ 122) := fun h9 => hR1 ((inP_i (by decide) (by decide)).mpr h9)
    refine z_callS (As := [.long a.toInt64, .long 97, .long 122]) (rest := []) B (c_inR0 G l Φ sz a.toInt64 97 122 hR1 (fun v8 Φ8 sz8 => v8 = some (.int 0) ∧ sz8 = sz ∧ Im G x (rd, nw, cr, tp, tt, sI, sT, pt, ql, fl, pe, le, nx, il, qu, kn, ec, nu, va, st, ep, ti, ad, ob, ra, rt, ex, sa, us, tk, th, me, dr, se, sn) Φ8 ∧ Fr x (fun j9 => False) Φ Φ8) ⟨rfl, rfl, hI, fun _ _ => rfl⟩) (va_cwS 3 B.1.2.2.2.2 gX12_isLetter_X12_inRange rfl rfl rfl (by decide +kernel) ⟨Nat.le_of_ble_eq_true rfl, Nat.le_of_ble_eq_true rfl⟩) rfl rfl (Nat.le_of_ble_eq_true rfl) dX12_isLetter_8 ⟨Nat.le_of_ble_eq_true rfl, Nat.le_of_ble_eq_true rfl⟩ (fun r_2 Φ2 sz2 st2 hp2 hs2 => ?_)
    obtain ⟨rfl, hq2, hI2, hF2⟩ := hp2
    subst sz2
    replace hs2 : st2 = [.int 0] := hs2
    subst st2
    exact z_ret_z B dX12_isLetter_11 (by decide) ⟨(Or.inl ⟨rfl, fun h9 => hR1 (kO_L.mpr h9)⟩), rfl, hI2, (fun b9 h9 => ((hF2 b9 (fun j9 h8 h7 => (show False from h7).elim)).trans rfl))⟩

set_option maxHeartbeats 4000000 in
set_option maxRecDepth 100000 in
theorem r_isDigit (G : EnvG) (l : Launch) (Φ : Hm) (sz x : Nat) (rd : (Nat → Int32) → Prop) (nw : (Nat → Int32) → Prop) (cr : (Nat → Int64) → Prop) (tp : (Nat → Int32) → Prop) (tt : (Nat → Int64) → Prop) (sI : (Nat → Int32) → Prop) (sT : (Nat → Int32) → Prop) (pt : (Nat → Int32) → Prop) (ql : (Nat → Int32) → Prop) (fl : Nat) (pe : Nat) (le : Nat) (nx : Nat) (il : Nat) (qu : Nat) (kn : Int32) (ec : Int32) (nu : Int32) (va : Int64) (st : Nat) (ep : Int32) (ti : Int32) (ad : Int32) (ob : Int64) (ra : Int32) (rt : Nat) (ex : Int32) (sa : Int64) (us : Int64) (tk : Nat) (th : Int32) (me : Int32) (dr : Int32) (se : Int64) (sn : Int64) (a : Int32) (hx : G.2.2.2 ≤ x) (hI : Im G x (rd, nw, cr, tp, tt, sI, sT, pt, ql, fl, pe, le, nx, il, qu, kn, ec, nu, va, st, ep, ti, ad, ob, ra, rt, ex, sa, us, tk, th, me, dr, se, sn) Φ) (hnw : ∀ f9 : Nat → Int32, nw f9 → NN f9) : Ct G l yX12_isDigit wsX12_isDigit ({ frames := 1, cells := 0, slots := 0, locals := 25 }) 0 0 [.int a] Φ sz (fun v Φ1 sz1 => ((v = some (.int 0) ∧ ¬ kO a = 3) ∨ (v = some (.int 1) ∧ kO a = 3)) ∧ sz1 = sz ∧ (Im G x (rd, nw, cr, tp, tt, sI, sT, pt, ql, fl, pe, le, nx, il, qu, kn, ec, nu, va, st, ep, ti, ad, ob, ra, rt, ex, sa, us, tk, th, me, dr, se, sn) Φ1) ∧ Fr x (fun j9 => False) Φ Φ1) := by
  refine Ct.of (cc := cX12_isDigit) (maxL := 1) (ret := (some .boolean)) (by decide) rfl (Nat.le_of_ble_eq_true rfl) ?_
  intro p9 e9 s9 m9 w9 t9 k9 B
  show Z p9 l e9 _ s9 m9 _ w9 t9 k9 _ G 1 0 [(0, .int a)] [] Φ sz 0 0
  refine z_iload_n B dX12_isDigit_0 rfl 0 rfl ?_
  refine z_i2l (v := a.toInt64) B dX12_isDigit_1 rfl ?_
  refine z_ldc2 (v := 48) B (by decide +kernel) dX12_isDigit_2 ?_
  refine z_ldc2 (v := 57) B (by decide +kernel) dX12_isDigit_5 ?_
  by_cases hR1 : inP a.toInt64 48 57
  · obtain ⟨n_1, e_1, e_2, e_3, rfl⟩ := in_get (L := 48) (H := 57) (by decide) (by decide) hR1
    refine z_callS (As := [.long ((nI n_1).toInt64), .long 48, .long 57]) (rest := []) B (c_inR1 G l Φ sz ((nI n_1).toInt64) 48 57 hR1 (fun v8 Φ8 sz8 => v8 = some (.int 1) ∧ sz8 = sz ∧ Im G x (rd, nw, cr, tp, tt, sI, sT, pt, ql, fl, pe, le, nx, il, qu, kn, ec, nu, va, st, ep, ti, ad, ob, ra, rt, ex, sa, us, tk, th, me, dr, se, sn) Φ8 ∧ Fr x (fun j9 => False) Φ Φ8) ⟨rfl, rfl, hI, fun _ _ => rfl⟩) (va_cwS 3 B.1.2.2.2.2 gX12_isDigit_X12_inRange rfl rfl rfl (by decide +kernel) ⟨Nat.le_of_ble_eq_true rfl, Nat.le_of_ble_eq_true rfl⟩) rfl rfl (Nat.le_of_ble_eq_true rfl) dX12_isDigit_8 ⟨Nat.le_of_ble_eq_true rfl, Nat.le_of_ble_eq_true rfl⟩ (fun r_1 Φ1 sz1 st1 hp1 hs1 => ?_)
    obtain ⟨rfl, hq1, hI1, hF1⟩ := hp1
    subst sz1
    replace hs1 : st1 = [.int 1] := hs1
    subst st1
    exact z_ret_z B dX12_isDigit_11 (by decide) ⟨(Or.inr ⟨rfl, kO_D.mp hR1⟩), rfl, hI1, (fun b9 h9 => ((hF1 b9 (fun j9 h8 h7 => (show False from h7).elim)).trans rfl))⟩
  · have q_1 : ¬ (48 ≤ a.toInt ∧ a.toInt ≤ 57) := fun h9 => hR1 ((inP_i (by decide) (by decide)).mpr h9)
    refine z_callS (As := [.long a.toInt64, .long 48, .long 57]) (rest := []) B (c_inR0 G l Φ sz a.toInt64 48 57 hR1 (fun v8 Φ8 sz8 => v8 = some (.int 0) ∧ sz8 = sz ∧ Im G x (rd, nw, cr, tp, tt, sI, sT, pt, ql, fl, pe, le, nx, il, qu, kn, ec, nu, va, st, ep, ti, ad, ob, ra, rt, ex, sa, us, tk, th, me, dr, se, sn) Φ8 ∧ Fr x (fun j9 => False) Φ Φ8) ⟨rfl, rfl, hI, fun _ _ => rfl⟩) (va_cwS 3 B.1.2.2.2.2 gX12_isDigit_X12_inRange rfl rfl rfl (by decide +kernel) ⟨Nat.le_of_ble_eq_true rfl, Nat.le_of_ble_eq_true rfl⟩) rfl rfl (Nat.le_of_ble_eq_true rfl) dX12_isDigit_8 ⟨Nat.le_of_ble_eq_true rfl, Nat.le_of_ble_eq_true rfl⟩ (fun r_2 Φ2 sz2 st2 hp2 hs2 => ?_)
    obtain ⟨rfl, hq2, hI2, hF2⟩ := hp2
    subst sz2
    replace hs2 : st2 = [.int 0] := hs2
    subst st2
    exact z_ret_z B dX12_isDigit_11 (by decide) ⟨(Or.inl ⟨rfl, fun h9 => hR1 (kO_D.mpr h9)⟩), rfl, hI2, (fun b9 h9 => ((hF2 b9 (fun j9 h8 h7 => (show False from h7).elim)).trans rfl))⟩

theorem bA_z {f : Nat → Int32} {n i : Nat} (h : kO (bA f n i) = 0) : n ≤ i := by
  refine Nat.le_of_not_lt (fun hc => ?_)
  have h1 := kO_0.mp h
  obtain ⟨q, hq, e⟩ := bA_and (f := f) hc
  rw [e] at h1
  have h8 := congrArg Int32.toInt h1
  rw [nI_toInt (by omega), show (-1 : Int32).toInt = -1 from by decide] at h8
  omega

theorem hu_X12_advanceToken_X12 : ∀ w ∈ u_ws RX12 TX12 54, w ∈ wsX12_advanceToken := fun _ h => List.mem_cons_of_mem _ (List.mem_append_left _ (List.mem_append_right _ (h)))

theorem hv_X12_advanceToken_458 : Cond.fieldLink RX12 458 "FlowExporterModel" (TX12 47).2.1 (TX12 47).2.2.1 ∈ wsX12_advanceToken := List.mem_cons_of_mem _ (List.mem_append_left _ (List.mem_append_left _ (List.mem_append_left _ (List.mem_of_getElem? (i := 0) rfl))))

theorem fq_1182 {x : Nat} : ∀ j9 : Nat, x + 25 = x + j9 → (j9 = 0) → False := by
  intro j9 h1 h2
  omega

theorem hv_X12_advanceToken_464 : Cond.fieldLink RX12 464 "FlowExporterModel" (TX12 51).2.1 (TX12 51).2.2.1 ∈ wsX12_advanceToken := List.mem_cons_of_mem _ (List.mem_append_left _ (List.mem_append_left _ (List.mem_append_left _ (List.mem_of_getElem? (i := 1) rfl))))

theorem hv_X12_advanceToken_467 : Cond.fieldLink RX12 467 "FlowExporterModel" (TX12 53).2.1 (TX12 53).2.2.1 ∈ wsX12_advanceToken := List.mem_cons_of_mem _ (List.mem_append_left _ (List.mem_append_left _ (List.mem_append_left _ (List.mem_of_getElem? (i := 2) rfl))))

theorem hv_X12_advanceToken_476 : Cond.fieldLink RX12 476 "FlowExporterModel" (TX12 50).2.1 (TX12 50).2.2.1 ∈ wsX12_advanceToken := List.mem_cons_of_mem _ (List.mem_append_left _ (List.mem_append_left _ (List.mem_append_left _ (List.mem_of_getElem? (i := 3) rfl))))

theorem dX12_copyMessage_0 : decode cX12_copyMessage 0 = .ok (.iconst 0, 1) := by decide +kernel
theorem dX12_copyMessage_1 : decode cX12_copyMessage 1 = .ok (.istore_n 3, 1) := by decide +kernel
theorem dX12_copyMessage_2 : decode cX12_copyMessage 2 = .ok (.iload_n 3, 1) := by decide +kernel
theorem dX12_copyMessage_3 : decode cX12_copyMessage 3 = .ok (.sipush 600, 3) := by decide +kernel
theorem dX12_copyMessage_6 : decode cX12_copyMessage 6 = .ok (.if_icmp .ge 33, 3) := by decide +kernel
theorem dX12_copyMessage_9 : decode cX12_copyMessage 9 = .ok (.aload_n 0, 1) := by decide +kernel
theorem dX12_copyMessage_10 : decode cX12_copyMessage 10 = .ok (.getfield 39, 3) := by decide +kernel
theorem dX12_copyMessage_13 : decode cX12_copyMessage 13 = .ok (.sipush 600, 3) := by decide +kernel
theorem dX12_copyMessage_16 : decode cX12_copyMessage 16 = .ok (.iload_n 2, 1) := by decide +kernel
theorem dX12_copyMessage_17 : decode cX12_copyMessage 17 = .ok (.imul, 1) := by decide +kernel
theorem dX12_copyMessage_18 : decode cX12_copyMessage 18 = .ok (.iload_n 3, 1) := by decide +kernel
theorem dX12_copyMessage_19 : decode cX12_copyMessage 19 = .ok (.iadd, 1) := by decide +kernel
theorem dX12_copyMessage_20 : decode cX12_copyMessage 20 = .ok (.aload_n 0, 1) := by decide +kernel
theorem dX12_copyMessage_21 : decode cX12_copyMessage 21 = .ok (.getfield 39, 3) := by decide +kernel
theorem dX12_copyMessage_24 : decode cX12_copyMessage 24 = .ok (.sipush 600, 3) := by decide +kernel
theorem dX12_copyMessage_27 : decode cX12_copyMessage 27 = .ok (.iload_n 1, 1) := by decide +kernel
theorem dX12_copyMessage_28 : decode cX12_copyMessage 28 = .ok (.imul, 1) := by decide +kernel
theorem dX12_copyMessage_29 : decode cX12_copyMessage 29 = .ok (.iload_n 3, 1) := by decide +kernel
theorem dX12_copyMessage_30 : decode cX12_copyMessage 30 = .ok (.iadd, 1) := by decide +kernel
theorem dX12_copyMessage_31 : decode cX12_copyMessage 31 = .ok (.iaload, 1) := by decide +kernel
theorem dX12_copyMessage_32 : decode cX12_copyMessage 32 = .ok (.iastore, 1) := by decide +kernel
theorem dX12_copyMessage_33 : decode cX12_copyMessage 33 = .ok (.iinc 3 1, 3) := by decide +kernel
theorem dX12_copyMessage_36 : decode cX12_copyMessage 36 = .ok (.goto (-34), 3) := by decide +kernel
theorem dX12_copyMessage_39 : decode cX12_copyMessage 39 = .ok (.aload_n 0, 1) := by decide +kernel
theorem dX12_copyMessage_40 : decode cX12_copyMessage 40 = .ok (.getfield 42, 3) := by decide +kernel
theorem dX12_copyMessage_43 : decode cX12_copyMessage 43 = .ok (.iload_n 2, 1) := by decide +kernel
theorem dX12_copyMessage_44 : decode cX12_copyMessage 44 = .ok (.aload_n 0, 1) := by decide +kernel
theorem dX12_copyMessage_45 : decode cX12_copyMessage 45 = .ok (.getfield 42, 3) := by decide +kernel
theorem dX12_copyMessage_48 : decode cX12_copyMessage 48 = .ok (.iload_n 1, 1) := by decide +kernel
theorem dX12_copyMessage_49 : decode cX12_copyMessage 49 = .ok (.iaload, 1) := by decide +kernel
theorem dX12_copyMessage_50 : decode cX12_copyMessage 50 = .ok (.iastore, 1) := by decide +kernel
theorem dX12_copyMessage_51 : decode cX12_copyMessage 51 = .ok (.return_, 1) := by decide +kernel
set_option maxRecDepth 20000 in
theorem ggX12_remove_X12_copyMessage : GoodIn wsX12_remove wsX12_copyMessage := goodIn_ca ((goodIn_ca (goodIn_r _ [6, 7, 8] rfl (by decide +kernel)) (goodIn_sub (fun _ h => List.mem_cons_of_mem _ (List.mem_append_left _ (List.mem_append_right _ h))) gw_wsX120))) (goodIn_sub (fun _ h => List.mem_cons_of_mem _ (List.mem_append_right _ h)) (all_fg _))
set_option maxRecDepth 20000 in
theorem gX12_remove_X12_copyMessage : GoodIn wsX12_remove (wsV RX12 314 RX12 yX12_copyMessage wsX12_copyMessage) := goodIn_app (goodIn_m (mem_cA (List.mem_cons_of_mem _ (List.mem_append_left _ (List.mem_append_left _ (List.mem_of_getElem? (i := 1) rfl)))) (mem_cA (List.mem_cons_of_mem _ (List.mem_append_left _ (List.mem_append_left _ (List.mem_of_getElem? (i := 2) rfl)))) (mem_cA (List.mem_cons_of_mem _ (List.mem_append_left _ (List.mem_append_left _ (List.mem_of_getElem? (i := 3) rfl)))) (mem_cA (List.mem_cons_of_mem _ (List.mem_append_left _ (List.mem_append_left _ (List.mem_of_getElem? (i := 4) rfl)))) mem_cZ)))) (by decide +kernel)) ggX12_remove_X12_copyMessage
theorem dX12_remove_0 : decode cX12_remove 0 = .ok (.aload_n 0, 1) := by decide +kernel
theorem dX12_remove_1 : decode cX12_remove 1 = .ok (.dup, 1) := by decide +kernel
theorem dX12_remove_2 : decode cX12_remove 2 = .ok (.getfield 139, 3) := by decide +kernel
theorem dX12_remove_5 : decode cX12_remove 5 = .ok (.iconst 1, 1) := by decide +kernel
theorem dX12_remove_6 : decode cX12_remove 6 = .ok (.isub, 1) := by decide +kernel
theorem dX12_remove_7 : decode cX12_remove 7 = .ok (.putfield 139, 3) := by decide +kernel
theorem dX12_remove_10 : decode cX12_remove 10 = .ok (.iload_n 1, 1) := by decide +kernel
theorem dX12_remove_11 : decode cX12_remove 11 = .ok (.istore_n 2, 1) := by decide +kernel
theorem dX12_remove_12 : decode cX12_remove 12 = .ok (.iload_n 2, 1) := by decide +kernel
theorem dX12_remove_13 : decode cX12_remove 13 = .ok (.aload_n 0, 1) := by decide +kernel
theorem dX12_remove_14 : decode cX12_remove 14 = .ok (.getfield 139, 3) := by decide +kernel
theorem dX12_remove_17 : decode cX12_remove 17 = .ok (.if_icmp .ge 17, 3) := by decide +kernel
theorem dX12_remove_20 : decode cX12_remove 20 = .ok (.aload_n 0, 1) := by decide +kernel
theorem dX12_remove_21 : decode cX12_remove 21 = .ok (.iload_n 2, 1) := by decide +kernel
theorem dX12_remove_22 : decode cX12_remove 22 = .ok (.iconst 1, 1) := by decide +kernel
theorem dX12_remove_23 : decode cX12_remove 23 = .ok (.iadd, 1) := by decide +kernel
theorem dX12_remove_24 : decode cX12_remove 24 = .ok (.iload_n 2, 1) := by decide +kernel
theorem dX12_remove_25 : decode cX12_remove 25 = .ok (.invokevirtual 314, 3) := by decide +kernel
theorem dX12_remove_28 : decode cX12_remove 28 = .ok (.iinc 2 1, 3) := by decide +kernel
theorem dX12_remove_31 : decode cX12_remove 31 = .ok (.goto (-19), 3) := by decide +kernel
theorem dX12_remove_34 : decode cX12_remove 34 = .ok (.return_, 1) := by decide +kernel
set_option maxRecDepth 20000 in
theorem ggX12_truth_X12_isWhat : GoodIn wsX12_truth wsX12_isWhat := (goodIn_r _ [5, 6, 7, 4, 8] rfl (by decide +kernel))
set_option maxRecDepth 20000 in
theorem gX12_truth_X12_isWhat : GoodIn wsX12_truth (va_wsS RX12 397 yX12_isWhat wsX12_isWhat) := goodIn_app (goodIn_m (mem_cA (List.mem_cons_of_mem _ (List.mem_append_left _ (List.mem_append_left _ (List.mem_append_left _ (List.mem_of_getElem? (i := 1) rfl))))) (mem_cA (List.mem_cons_of_mem _ (List.mem_append_left _ (List.mem_append_left _ (List.mem_append_left _ (List.mem_of_getElem? (i := 2) rfl))))) (mem_cA (List.mem_cons_of_mem _ (List.mem_append_left _ (List.mem_append_left _ (List.mem_append_left _ (List.mem_of_getElem? (i := 3) rfl))))) mem_cZ))) (by decide +kernel)) ggX12_truth_X12_isWhat
set_option maxRecDepth 20000 in
theorem ggX12_truth_X12_throwsIf : GoodIn wsX12_truth wsX12_throwsIf := (goodIn_ca (goodIn_r _ [12, 1] rfl (by decide +kernel)) (goodIn_sub (fun _ h => List.mem_cons_of_mem _ (List.mem_append_left _ (List.mem_append_right _ h))) gw_wsX120))
set_option maxRecDepth 20000 in
theorem gX12_truth_X12_throwsIf : GoodIn wsX12_truth (wsV RX12 185 RX12 yX12_throwsIf wsX12_throwsIf) := goodIn_app (goodIn_m (mem_cA (List.mem_cons_of_mem _ (List.mem_append_left _ (List.mem_append_left _ (List.mem_append_left _ (List.mem_of_getElem? (i := 8) rfl))))) (mem_cA (List.mem_cons_of_mem _ (List.mem_append_left _ (List.mem_append_left _ (List.mem_append_left _ (List.mem_of_getElem? (i := 9) rfl))))) (mem_cA (List.mem_cons_of_mem _ (List.mem_append_left _ (List.mem_append_left _ (List.mem_append_left _ (List.mem_of_getElem? (i := 10) rfl))))) (mem_cA (List.mem_cons_of_mem _ (List.mem_append_left _ (List.mem_append_left _ (List.mem_append_left _ (List.mem_of_getElem? (i := 3) rfl))))) mem_cZ)))) (by decide +kernel)) ggX12_truth_X12_throwsIf
set_option maxRecDepth 20000 in
theorem ggX12_truth_X12_truthOf : GoodIn wsX12_truth wsX12_truthOf := goodIn_ca ((goodIn_ca (goodIn_r _ [16, 17, 18, 19, 20, 4, 21, 22, 23, 24, 25, 26] rfl (by decide +kernel)) (goodIn_sub (fun _ h => List.mem_cons_of_mem _ (List.mem_append_left _ (List.mem_append_right _ h))) gw_wsX120))) (goodIn_sub (fun _ h => List.mem_cons_of_mem _ (List.mem_append_right _ h)) (all_fg _))
set_option maxRecDepth 20000 in
theorem gX12_truth_X12_truthOf : GoodIn wsX12_truth (wsV RX12 437 RX12 yX12_truthOf wsX12_truthOf) := goodIn_app (goodIn_m (mem_cA (List.mem_cons_of_mem _ (List.mem_append_left _ (List.mem_append_left _ (List.mem_append_left _ (List.mem_of_getElem? (i := 12) rfl))))) (mem_cA (List.mem_cons_of_mem _ (List.mem_append_left _ (List.mem_append_left _ (List.mem_append_left _ (List.mem_of_getElem? (i := 13) rfl))))) (mem_cA (List.mem_cons_of_mem _ (List.mem_append_left _ (List.mem_append_left _ (List.mem_append_left _ (List.mem_of_getElem? (i := 14) rfl))))) (mem_cA (List.mem_cons_of_mem _ (List.mem_append_left _ (List.mem_append_left _ (List.mem_append_left _ (List.mem_of_getElem? (i := 3) rfl))))) mem_cZ)))) (by decide +kernel)) ggX12_truth_X12_truthOf
theorem dX12_truth_0 : decode cX12_truth 0 = .ok (.aload_n 0, 1) := by decide +kernel
theorem dX12_truth_1 : decode cX12_truth 1 = .ok (.iconst 0, 1) := by decide +kernel
theorem dX12_truth_2 : decode cX12_truth 2 = .ok (.putfield 1, 3) := by decide +kernel
theorem dX12_truth_5 : decode cX12_truth 5 = .ok (.aload_n 0, 1) := by decide +kernel
theorem dX12_truth_6 : decode cX12_truth 6 = .ok (.iload 5, 2) := by decide +kernel
theorem dX12_truth_8 : decode cX12_truth 8 = .ok (.invokestatic 397, 3) := by decide +kernel
theorem dX12_truth_11 : decode cX12_truth 11 = .ok (.ifCond .ne 7, 3) := by decide +kernel
theorem dX12_truth_14 : decode cX12_truth 14 = .ok (.iconst 1, 1) := by decide +kernel
theorem dX12_truth_15 : decode cX12_truth 15 = .ok (.goto 4, 3) := by decide +kernel
theorem dX12_truth_18 : decode cX12_truth 18 = .ok (.iconst 0, 1) := by decide +kernel
theorem dX12_truth_19 : decode cX12_truth 19 = .ok (.iconst 1, 1) := by decide +kernel
theorem dX12_truth_20 : decode cX12_truth 20 = .ok (.invokevirtual 185, 3) := by decide +kernel
theorem dX12_truth_23 : decode cX12_truth 23 = .ok (.ifCond .eq 7, 3) := by decide +kernel
theorem dX12_truth_26 : decode cX12_truth 26 = .ok (.lconst 0, 1) := by decide +kernel
theorem dX12_truth_27 : decode cX12_truth 27 = .ok (.goto 14, 3) := by decide +kernel
theorem dX12_truth_30 : decode cX12_truth 30 = .ok (.aload_n 0, 1) := by decide +kernel
theorem dX12_truth_31 : decode cX12_truth 31 = .ok (.iload_n 1, 1) := by decide +kernel
theorem dX12_truth_32 : decode cX12_truth 32 = .ok (.iload_n 2, 1) := by decide +kernel
theorem dX12_truth_33 : decode cX12_truth 33 = .ok (.iload_n 3, 1) := by decide +kernel
theorem dX12_truth_34 : decode cX12_truth 34 = .ok (.iload 4, 2) := by decide +kernel
theorem dX12_truth_36 : decode cX12_truth 36 = .ok (.iload 5, 2) := by decide +kernel
theorem dX12_truth_38 : decode cX12_truth 38 = .ok (.invokevirtual 437, 3) := by decide +kernel
theorem dX12_truth_41 : decode cX12_truth 41 = .ok (.lreturn, 1) := by decide +kernel
set_option maxHeartbeats 4000000 in
set_option maxRecDepth 100000 in
theorem r_trueKeyOfN (G : EnvG) (l : Launch) (Φ : Hm) (sz x : Nat) (rd : (Nat → Int32) → Prop) (nw : (Nat → Int32) → Prop) (cr : (Nat → Int64) → Prop) (tt : (Nat → Int64) → Prop) (sI : (Nat → Int32) → Prop) (sT : (Nat → Int32) → Prop) (pt : (Nat → Int32) → Prop) (ql : (Nat → Int32) → Prop) (fl : Nat) (pe : Nat) (le : Nat) (nx : Nat) (il : Nat) (qu : Nat) (kn : Int32) (ec : Int32) (nu : Int32) (va : Int64) (st : Nat) (ep : Int32) (ti : Int32) (ad : Int32) (ob : Int64) (ra : Int32) (rt : Nat) (ex : Int32) (sa : Int64) (us : Int64) (tk : Nat) (th : Int32) (me : Int32) (dr : Int32) (se : Int64) (sn : Int64) (Ft : Nat → Fl) (a : Int32) (b : Int32) (d : Int32) (f : Int32) (hx : G.2.2.2 ≤ x) (hI : Im G x (rd, nw, cr, (TpQ tk Ft), tt, sI, sT, pt, ql, fl, pe, le, nx, il, qu, kn, ec, nu, va, st, ep, ti, ad, ob, ra, rt, ex, sa, us, tk, th, me, dr, se, sn) Φ) (hk : ¬ KyP a b d f) (hnw : ∀ f9 : Nat → Int32, nw f9 → NN f9) : Ct G l yX12_trueKeyOf wsX12_trueKeyOf ({ frames := 1, cells := 0, slots := 0, locals := 29 }) 0 0 [.ref x, .int a, .int b, .int d, .int f] Φ sz (fun v Φ1 sz1 => (v = some (.int (-1))) ∧ sz1 = sz ∧ (Im G x (rd, nw, cr, (TpQ tk Ft), tt, sI, sT, pt, ql, fl, pe, le, nx, il, qu, kn, ec, nu, va, st, ep, ti, ad, ob, ra, rt, ex, sa, us, tk, th, me, dr, se, sn) Φ1) ∧ Fr x (fun j9 => False) Φ Φ1) := by
  refine Ct.of (cc := cX12_trueKeyOf) (maxL := 6) (ret := (some .int)) (by decide) rfl (Nat.le_of_ble_eq_true rfl) ?_
  intro p9 e9 s9 m9 w9 t9 k9 B
  show Z p9 l e9 _ s9 m9 _ w9 t9 k9 _ G 6 0 [(0, .ref x), (1, .int a), (2, .int b), (3, .int d), (4, .int f)] [] Φ sz 0 0
  refine z_iconst (v := 0) B dX12_trueKeyOf_0 rfl ?_
  refine z_istore (lv' := [(5, .int 0), (0, .ref x), (1, .int a), (2, .int b), (3, .int d), (4, .int f)]) B dX12_trueKeyOf_1 (Nat.le_of_ble_eq_true rfl) rfl ?_
  refine z_lv [0, 1, 2, 3, 4, 5] rfl ?_
  refine z_loop (α := Nat) (fun (a9 : Nat) Φi => Im G x (rd, nw, cr, (TpQ tk Ft), tt, sI, sT, pt, ql, fl, pe, le, nx, il, qu, kn, ec, nu, va, st, ep, ti, ad, ob, ra, rt, ex, sa, us, tk, th, me, dr, se, sn) Φi ∧ Fr x (fun j9 => False) Φ Φi ∧ (a9 ≤ 24) ∧ (a9 ≤ tk) ∧ True) (fun a9 => [(5, .int (nI a9)), (0, .ref x), (1, .int a), (2, .int b), (3, .int d), (4, .int f)]) (fun a9 => 24 - a9) ?_ (0) ⟨hI, fun _ _ => rfl, (show 0 ≤ 24 by omega), (show 0 ≤ tk by omega), trivial⟩
  rintro i_1 Φl1 ⟨hI1, hF1, b_1, b_2, -⟩ ih1
  replace hI1 : Im G x (rd, nw, cr, (TpQ tk Ft), tt, sI, sT, pt, ql, fl, pe, le, nx, il, qu, kn, ec, nu, va, st, ep, ti, ad, ob, ra, rt, ex, sa, us, tk, th, me, dr, se, sn) Φl1 := hI1
  replace b_1 : i_1 ≤ 24 := b_1
  replace b_2 : i_1 ≤ tk := b_2
  show Z p9 l e9 _ s9 m9 _ w9 t9 k9 _ G 6 3 [(5, .int (nI i_1)), (0, .ref x), (1, .int a), (2, .int b), (3, .int d), (4, .int f)] [] Φl1 _ _ _
  refine z_iload B dX12_trueKeyOf_3 0 rfl ?_
  refine z_aload_n B dX12_trueKeyOf_5 rfl 1 rfl ?_
  obtain ⟨n_1, v_1, n_2, h_1, b_15, b_3, b_4, b_5, b_6, b_7, b_8, b_9, b_10, b_11, b_12, b_13, b_14⟩ := im0 hI1
  replace b_3 : 1 ≤ rt := b_3
  replace b_4 : rt ≤ 1024 := b_4
  replace b_5 : fl ≤ 12 := b_5
  replace b_6 : pe ≤ 24 := b_6
  replace b_7 : le ≤ 700 := b_7
  replace b_8 : qu ≤ 12 := b_8
  replace b_9 : n_1 ≤ 8 := b_9
  replace b_10 : n_2 ≤ 24 := b_10
  replace b_11 : tk ≤ 24 := b_11
  replace b_12 : il ≤ 700 := b_12
  replace b_13 : nx ≤ 701 := b_13
  replace b_14 : st ≤ 701 := b_14
  have h_2 : Φl1 x = some (o_ 14 [.int th, .ref (x + 1), .ref (x + 2), .int ti, .int ra, .int (nI rt), .int ex, .int ad, .ref (x + 3), .ref (x + 4), .int me, .long se, .ref (x + 5), .int (nI fl), .int dr, .long ob, .long sa, .long sn, .long us, .ref (x + 6), .ref (x + 7), .int (nI pe), .ref (x + 8), .int (nI le), .ref (x + 9), .ref (x + 10), .int (nI qu), .ref (x + 11), .ref (x + 12), .ref (x + 13), .ref (x + 14), .ref (x + 15), .ref (x + 16), .int (nI n_1), .long v_1, .ref (x + 17), .ref (x + 18), .ref (x + 19), .ref (x + 20), .ref (x + 21), .ref (x + 22), .int (nI n_2), .ref (x + 23), .ref (x + 24), .int (nI tk), .ref (x + 25), .int (nI il), .int (nI nx), .int ec, .int ep, .int kn, .int (nI st), .int nu, .long va]) := h_1
  refine z_get (ref := "FlowExporterModel") (C := RX12) (T := TX12) (N := 54) (ci := 14) (v := .int (nI tk)) B hu_X12_trueKeyOf_X12 rfl 44 (Nat.le_of_ble_eq_true rfl) hv_X12_trueKeyOf_145 rfl h_2 rfl dX12_trueKeyOf_6 ?_
  refine z_icmp_ge (tgt := 42) B dX12_trueKeyOf_9 rfl (fun c_1 => ?_) (fun c_1 => ?_)
  · have e_1 : tk ≤ i_1 := (nI_leI (a := tk) (b := i_1) (by omega) (by omega)).mp c_1
    refine z_iconst (v := (-1)) B dX12_trueKeyOf_42 rfl ?_
    exact z_ret_i B dX12_trueKeyOf_43 ⟨rfl, rfl, hI1, (fun b9 h9 => ((hF1 b9 (fun j9 h8 h7 => (show False from h7).elim)).trans rfl))⟩
  · have e_2 : ¬ (tk ≤ i_1) := fun h9 => c_1 ((nI_leI (a := tk) (b := i_1) (by omega) (by omega)).mpr h9)
    refine z_aload_n B dX12_trueKeyOf_12 rfl 1 rfl ?_
    refine z_get (ref := "FlowExporterModel") (C := RX12) (T := TX12) (N := 54) (ci := 14) (v := .ref (x + 23)) B hu_X12_trueKeyOf_X12 rfl 42 (Nat.le_of_ble_eq_true rfl) hv_X12_trueKeyOf_82 rfl h_2 rfl dX12_trueKeyOf_13 ?_
    refine z_iload B dX12_trueKeyOf_16 0 rfl ?_
    refine z_iload_n B dX12_trueKeyOf_18 rfl 2 rfl ?_
    refine z_i2l (v := a.toInt64) B dX12_trueKeyOf_19 rfl ?_
    refine z_iload_n B dX12_trueKeyOf_20 rfl 3 rfl ?_
    refine z_i2l (v := b.toInt64) B dX12_trueKeyOf_21 rfl ?_
    refine z_iload_n B dX12_trueKeyOf_22 rfl 4 rfl ?_
    refine z_i2l (v := d.toInt64) B dX12_trueKeyOf_23 rfl ?_
    refine z_iload B dX12_trueKeyOf_24 5 rfl ?_
    refine z_i2l (v := f.toInt64) B dX12_trueKeyOf_26 rfl ?_
    refine z_callS (As := [.ref (x + 23), .int (nI i_1), .long a.toInt64, .long b.toInt64, .long d.toInt64, .long f.toInt64]) (rest := []) B (r_isSame_23X G l Φl1 sz x rd nw cr tt sI sT pt ql fl pe le nx il qu kn ec nu va st ep ti ad ob ra rt ex sa us tk th me dr se sn Ft i_1 a.toInt64 b.toInt64 d.toInt64 f.toInt64 hx hI1 (show i_1 < tk by omega) (show i_1 < 24 by omega) hnw) (va_cwS 6 B.1.2.2.2.2 gX12_trueKeyOf_X12_isSame rfl rfl rfl (by decide +kernel) ⟨Nat.le_of_ble_eq_true rfl, Nat.le_of_ble_eq_true rfl⟩) rfl rfl (Nat.le_of_ble_eq_true rfl) dX12_trueKeyOf_27 ⟨Nat.le_of_ble_eq_true rfl, Nat.le_of_ble_eq_true rfl⟩ (fun r_1 Φ1 sz1 st1 hp1 hs1 => ?_)
    obtain ⟨ha1, hq1, hI2, hF2⟩ := hp1
    subst sz1
    replace hI2 : Im G x (rd, nw, cr, (TpQ tk Ft), tt, sI, sT, pt, ql, fl, pe, le, nx, il, qu, kn, ec, nu, va, st, ep, ti, ad, ob, ra, rt, ex, sa, us, tk, th, me, dr, se, sn) Φ1 := hI2
    rcases ha1 with ⟨rfl, e_3⟩ | ⟨rfl, e_4⟩
    · replace hs1 : st1 = [.int 1] := hs1
      subst st1
      replace e_3 : sm4 (Ft i_1).1 a.toInt64 b.toInt64 d.toInt64 f.toInt64 := e_3
      refine z_if_eq (tgt := 36) B dX12_trueKeyOf_30 rfl (fun h9 => absurd h9 (by decide)) (fun c_2 => ?_)
      refine z_iload B dX12_trueKeyOf_33 0 rfl ?_
      exact z_ret_i B dX12_trueKeyOf_35 ⟨(hk (sm4_KyP e_3)).elim, rfl, hI2, (fun b9 h9 => ((hF2 b9 (fun j9 h8 h7 => (show False from h7).elim)).trans ((hF1 b9 (fun j9 h8 h7 => (show False from h7).elim)).trans rfl)))⟩
    · replace hs1 : st1 = [.int 0] := hs1
      subst st1
      replace e_4 : ¬ sm4 (Ft i_1).1 a.toInt64 b.toInt64 d.toInt64 f.toInt64 := e_4
      refine z_if_eq (tgt := 36) B dX12_trueKeyOf_30 rfl (fun c_3 => ?_) (fun h9 => absurd (by decide) h9)
      refine z_iinc (k := 0) (v := nI (i_1 + 1)) (lv' := [(5, .int (nI (i_1 + 1))), (0, .ref x), (1, .int a), (2, .int b), (3, .int d), (4, .int f)]) B dX12_trueKeyOf_36 rfl (nI_add i_1 1) (Nat.le_of_ble_eq_true rfl) rfl ?_
      refine z_goto (tgt := 3) B dX12_trueKeyOf_39 rfl ?_
      refine z_lv [0, 1, 2, 3, 4, 5] rfl ?_
      exact ih1 (i_1 + 1) Φ1 (show 24 - (i_1 + 1) < 24 - i_1 by omega) ⟨hI2, (fun b9 h9 => ((hF2 b9 (fun j9 h8 h7 => (show False from h7).elim)).trans ((hF1 b9 (fun j9 h8 h7 => (show False from h7).elim)).trans rfl))), (show (i_1 + 1) ≤ 24 by omega), (show (i_1 + 1) ≤ tk by omega), trivial⟩

set_option maxHeartbeats 4000000 in
set_option maxRecDepth 100000 in
theorem r_truthOfN (G : EnvG) (l : Launch) (Φ : Hm) (sz x : Nat) (rd : (Nat → Int32) → Prop) (nw : (Nat → Int32) → Prop) (cr : (Nat → Int64) → Prop) (tt : (Nat → Int64) → Prop) (sI : (Nat → Int32) → Prop) (sT : (Nat → Int32) → Prop) (pt : (Nat → Int32) → Prop) (ql : (Nat → Int32) → Prop) (fl : Nat) (pe : Nat) (le : Nat) (nx : Nat) (il : Nat) (qu : Nat) (kn : Int32) (ec : Int32) (nu : Int32) (va : Int64) (st : Nat) (ep : Int32) (ti : Int32) (ad : Int32) (ob : Int64) (ra : Int32) (rt : Nat) (ex : Int32) (sa : Int64) (us : Int64) (tk : Nat) (th : Int32) (me : Int32) (dr : Int32) (se : Int64) (sn : Int64) (Ft : Nat → Fl) (a : Int32) (b : Int32) (d : Int32) (f : Int32) (w : Nat) (hx : G.2.2.2 ≤ x) (hI : Im G x (rd, nw, cr, (TpQ tk Ft), tt, sI, sT, pt, ql, fl, pe, le, nx, il, qu, kn, ec, nu, va, st, ep, ti, ad, ob, ra, rt, ex, sa, us, tk, th, me, dr, se, sn) Φ) (hw : w < 2) (hk : ¬ KyP a b d f) (hnw : ∀ f9 : Nat → Int32, nw f9 → NN f9) : Ct G l yX12_truthOf wsX12_truthOf ({ frames := 2, cells := 0, slots := 0, locals := 54 }) 0 0 [.ref x, .int a, .int b, .int d, .int f, .int (nI w)] Φ sz (fun v Φ1 sz1 => (v = some (.long 0)) ∧ sz1 = sz ∧ (Im G x (rd, nw, cr, (TpQ tk Ft), tt, sI, sT, pt, ql, fl, pe, le, nx, il, qu, kn, ec, nu, va, st, ep, ti, ad, ob, ra, rt, ex, sa, us, tk, th, me, dr, se, sn) Φ1) ∧ Fr x (fun j9 => False) Φ Φ1) := by
  refine Ct.of (cc := cX12_truthOf) (maxL := 7) (ret := (some .long)) (by decide) rfl (Nat.le_of_ble_eq_true rfl) ?_
  intro p9 e9 s9 m9 w9 t9 k9 B
  show Z p9 l e9 _ s9 m9 _ w9 t9 k9 _ G 7 0 [(0, .ref x), (1, .int a), (2, .int b), (3, .int d), (4, .int f), (5, .int (nI w))] [] Φ sz 0 0
  refine z_aload_n B dX12_truthOf_0 rfl 0 rfl ?_
  refine z_iload_n B dX12_truthOf_1 rfl 1 rfl ?_
  refine z_iload_n B dX12_truthOf_2 rfl 2 rfl ?_
  refine z_iload_n B dX12_truthOf_3 rfl 3 rfl ?_
  refine z_iload B dX12_truthOf_4 4 rfl ?_
  obtain ⟨n_1, v_1, n_2, h_1, b_13, b_1, b_2, b_3, b_4, b_5, b_6, b_7, b_8, b_9, b_10, b_11, b_12⟩ := im0 hI
  replace b_1 : 1 ≤ rt := b_1
  replace b_2 : rt ≤ 1024 := b_2
  replace b_3 : fl ≤ 12 := b_3
  replace b_4 : pe ≤ 24 := b_4
  replace b_5 : le ≤ 700 := b_5
  replace b_6 : qu ≤ 12 := b_6
  replace b_7 : n_1 ≤ 8 := b_7
  replace b_8 : n_2 ≤ 24 := b_8
  replace b_9 : tk ≤ 24 := b_9
  replace b_10 : il ≤ 700 := b_10
  replace b_11 : nx ≤ 701 := b_11
  replace b_12 : st ≤ 701 := b_12
  have h_2 : Φ x = some (o_ 14 [.int th, .ref (x + 1), .ref (x + 2), .int ti, .int ra, .int (nI rt), .int ex, .int ad, .ref (x + 3), .ref (x + 4), .int me, .long se, .ref (x + 5), .int (nI fl), .int dr, .long ob, .long sa, .long sn, .long us, .ref (x + 6), .ref (x + 7), .int (nI pe), .ref (x + 8), .int (nI le), .ref (x + 9), .ref (x + 10), .int (nI qu), .ref (x + 11), .ref (x + 12), .ref (x + 13), .ref (x + 14), .ref (x + 15), .ref (x + 16), .int (nI n_1), .long v_1, .ref (x + 17), .ref (x + 18), .ref (x + 19), .ref (x + 20), .ref (x + 21), .ref (x + 22), .int (nI n_2), .ref (x + 23), .ref (x + 24), .int (nI tk), .ref (x + 25), .int (nI il), .int (nI nx), .int ec, .int ep, .int kn, .int (nI st), .int nu, .long va]) := h_1
  refine z_callV (As := [.int a, .int b, .int d, .int f]) (rest := []) B (r_trueKeyOfN G l Φ sz x rd nw cr tt sI sT pt ql fl pe le nx il qu kn ec nu va st ep ti ad ob ra rt ex sa us tk th me dr se sn Ft a b d f hx hI hk hnw) (cwV 4 B.1.2.2.2.2 gX12_truthOf_X12_trueKeyOf rfl rfl rfl (by decide +kernel) ⟨Nat.le_of_ble_eq_true rfl, Nat.le_of_ble_eq_true rfl⟩) h_2 rfl rfl rfl rfl (Nat.le_of_ble_eq_true rfl) dX12_truthOf_6 ⟨Nat.le_of_ble_eq_true rfl, Nat.le_of_ble_eq_true rfl⟩ (fun r_1 Φ1 sz1 st1 hp1 hs1 => ?_)
  obtain ⟨rfl, hq1, hI1, hF1⟩ := hp1
  subst sz1
  replace hs1 : st1 = [.int (-1)] := hs1
  subst st1
  replace hI1 : Im G x (rd, nw, cr, (TpQ tk Ft), tt, sI, sT, pt, ql, fl, pe, le, nx, il, qu, kn, ec, nu, va, st, ep, ti, ad, ob, ra, rt, ex, sa, us, tk, th, me, dr, se, sn) Φ1 := hI1
  refine z_istore (lv' := [(6, .int (-1)), (0, .ref x), (1, .int a), (2, .int b), (3, .int d), (4, .int f), (5, .int (nI w))]) B dX12_truthOf_9 (Nat.le_of_ble_eq_true rfl) rfl ?_
  refine z_iload B dX12_truthOf_11 0 rfl ?_
  refine z_iconst (v := (-1)) B dX12_truthOf_13 rfl ?_
  refine z_icmp_ne (tgt := 21) B dX12_truthOf_14 rfl (fun h9 => absurd (by decide) h9) (fun c_1 => ?_)
  refine z_lconst (v := 0) B dX12_truthOf_17 rfl ?_
  refine z_goto (tgt := 33) B dX12_truthOf_18 rfl ?_
  exact z_ret_l B dX12_truthOf_33 ⟨rfl, rfl, hI1, (fun b9 h9 => ((hF1 b9 (fun j9 h8 h7 => (show False from h7).elim)).trans rfl))⟩

set_option maxHeartbeats 4000000 in
set_option maxRecDepth 100000 in
theorem r_isWhatX (G : EnvG) (l : Launch) (Φ : Hm) (sz x : Nat) (rd : (Nat → Int32) → Prop) (nw : (Nat → Int32) → Prop) (cr : (Nat → Int64) → Prop) (tp : (Nat → Int32) → Prop) (tt : (Nat → Int64) → Prop) (sI : (Nat → Int32) → Prop) (sT : (Nat → Int32) → Prop) (pt : (Nat → Int32) → Prop) (ql : (Nat → Int32) → Prop) (fl : Nat) (pe : Nat) (le : Nat) (nx : Nat) (il : Nat) (qu : Nat) (kn : Int32) (ec : Int32) (nu : Int32) (va : Int64) (st : Nat) (ep : Int32) (ti : Int32) (ad : Int32) (ob : Int64) (ra : Int32) (rt : Nat) (ex : Int32) (sa : Int64) (us : Int64) (tk : Nat) (th : Int32) (me : Int32) (dr : Int32) (se : Int64) (sn : Int64) (a : Int32) (hx : G.2.2.2 ≤ x) (hI : Im G x (rd, nw, cr, tp, tt, sI, sT, pt, ql, fl, pe, le, nx, il, qu, kn, ec, nu, va, st, ep, ti, ad, ob, ra, rt, ex, sa, us, tk, th, me, dr, se, sn) Φ) (hnw : ∀ f9 : Nat → Int32, nw f9 → NN f9) : Ct G l yX12_isWhat wsX12_isWhat ({ frames := 1, cells := 0, slots := 0, locals := 25 }) 0 0 [.int a] Φ sz (fun v Φ1 sz1 => ((v = some (.int 0) ∧ ¬ (a = 0 ∨ a = 1)) ∨ (v = some (.int 1) ∧ ∃ n9 : Nat, n9 < 2 ∧ a = nI n9)) ∧ sz1 = sz ∧ (Im G x (rd, nw, cr, tp, tt, sI, sT, pt, ql, fl, pe, le, nx, il, qu, kn, ec, nu, va, st, ep, ti, ad, ob, ra, rt, ex, sa, us, tk, th, me, dr, se, sn) Φ1) ∧ Fr x (fun j9 => False) Φ Φ1) := by
  refine Ct.of (cc := cX12_isWhat) (maxL := 1) (ret := (some .boolean)) (by decide) rfl (Nat.le_of_ble_eq_true rfl) ?_
  intro p9 e9 s9 m9 w9 t9 k9 B
  show Z p9 l e9 _ s9 m9 _ w9 t9 k9 _ G 1 0 [(0, .int a)] [] Φ sz 0 0
  refine z_iload_n B dX12_isWhat_0 rfl 0 rfl ?_
  refine z_i2l (v := a.toInt64) B dX12_isWhat_1 rfl ?_
  refine z_lconst (v := 0) B dX12_isWhat_2 rfl ?_
  refine z_lconst (v := 1) B dX12_isWhat_3 rfl ?_
  by_cases hR1 : inP a.toInt64 0 1
  · obtain ⟨n_1, e_1, e_2, e_3, rfl⟩ := in_get (L := 0) (H := 1) (by decide) (by decide) hR1
    refine z_callS (As := [.long ((nI n_1).toInt64), .long 0, .long 1]) (rest := []) B (c_inR1 G l Φ sz ((nI n_1).toInt64) 0 1 hR1 (fun v8 Φ8 sz8 => v8 = some (.int 1) ∧ sz8 = sz ∧ Im G x (rd, nw, cr, tp, tt, sI, sT, pt, ql, fl, pe, le, nx, il, qu, kn, ec, nu, va, st, ep, ti, ad, ob, ra, rt, ex, sa, us, tk, th, me, dr, se, sn) Φ8 ∧ Fr x (fun j9 => False) Φ Φ8) ⟨rfl, rfl, hI, fun _ _ => rfl⟩) (va_cwS 3 B.1.2.2.2.2 gX12_isWhat_X12_inRange rfl rfl rfl (by decide +kernel) ⟨Nat.le_of_ble_eq_true rfl, Nat.le_of_ble_eq_true rfl⟩) rfl rfl (Nat.le_of_ble_eq_true rfl) dX12_isWhat_4 ⟨Nat.le_of_ble_eq_true rfl, Nat.le_of_ble_eq_true rfl⟩ (fun r_1 Φ1 sz1 st1 hp1 hs1 => ?_)
    obtain ⟨rfl, hq1, hI1, hF1⟩ := hp1
    subst sz1
    replace hs1 : st1 = [.int 1] := hs1
    subst st1
    exact z_ret_z B dX12_isWhat_7 (by decide) ⟨(Or.inr ⟨rfl, n_1, by omega, rfl⟩), rfl, hI1, (fun b9 h9 => ((hF1 b9 (fun j9 h8 h7 => (show False from h7).elim)).trans rfl))⟩
  · have q_1 : ¬ (0 ≤ a.toInt ∧ a.toInt ≤ 1) := fun h9 => hR1 ((inP_i (by decide) (by decide)).mpr h9)
    refine z_callS (As := [.long a.toInt64, .long 0, .long 1]) (rest := []) B (c_inR0 G l Φ sz a.toInt64 0 1 hR1 (fun v8 Φ8 sz8 => v8 = some (.int 0) ∧ sz8 = sz ∧ Im G x (rd, nw, cr, tp, tt, sI, sT, pt, ql, fl, pe, le, nx, il, qu, kn, ec, nu, va, st, ep, ti, ad, ob, ra, rt, ex, sa, us, tk, th, me, dr, se, sn) Φ8 ∧ Fr x (fun j9 => False) Φ Φ8) ⟨rfl, rfl, hI, fun _ _ => rfl⟩) (va_cwS 3 B.1.2.2.2.2 gX12_isWhat_X12_inRange rfl rfl rfl (by decide +kernel) ⟨Nat.le_of_ble_eq_true rfl, Nat.le_of_ble_eq_true rfl⟩) rfl rfl (Nat.le_of_ble_eq_true rfl) dX12_isWhat_4 ⟨Nat.le_of_ble_eq_true rfl, Nat.le_of_ble_eq_true rfl⟩ (fun r_2 Φ2 sz2 st2 hp2 hs2 => ?_)
    obtain ⟨rfl, hq2, hI2, hF2⟩ := hp2
    subst sz2
    replace hs2 : st2 = [.int 0] := hs2
    subst st2
    exact z_ret_z B dX12_isWhat_7 (by decide) ⟨(Or.inl ⟨rfl, fun h9 => hR1 ((inP_i (L := 0) (H := 1) (by decide) (by decide)).mpr (by rcases h9 with rfl | rfl <;> decide))⟩), rfl, hI2, (fun b9 h9 => ((hF2 b9 (fun j9 h8 h7 => (show False from h7).elim)).trans rfl))⟩

theorem hu_X12_truth_X12 : ∀ w ∈ u_ws RX12 TX12 54, w ∈ wsX12_truth := fun _ h => List.mem_cons_of_mem _ (List.mem_append_left _ (List.mem_append_right _ (h)))

theorem hv_X12_truth_1 : Cond.fieldLink RX12 1 "FlowExporterModel" (TX12 0).2.1 (TX12 0).2.2.1 ∈ wsX12_truth := List.mem_cons_of_mem _ (List.mem_append_left _ (List.mem_append_left _ (List.mem_append_left _ (List.mem_of_getElem? (i := 0) rfl))))

set_option maxHeartbeats 4000000 in
set_option maxRecDepth 100000 in
theorem r_truthX (G : EnvG) (l : Launch) (Φ : Hm) (sz x : Nat) (rd : (Nat → Int32) → Prop) (nw : (Nat → Int32) → Prop) (cr : (Nat → Int64) → Prop) (sI : (Nat → Int32) → Prop) (sT : (Nat → Int32) → Prop) (pt : (Nat → Int32) → Prop) (ql : (Nat → Int32) → Prop) (fl : Nat) (pe : Nat) (le : Nat) (nx : Nat) (il : Nat) (qu : Nat) (kn : Int32) (ec : Int32) (nu : Int32) (va : Int64) (st : Nat) (ep : Int32) (ti : Int32) (ad : Int32) (ob : Int64) (ra : Int32) (rt : Nat) (ex : Int32) (sa : Int64) (us : Int64) (tk : Nat) (th : Int32) (me : Int32) (dr : Int32) (se : Int64) (sn : Int64) (Ft : Nat → Fl) (a : Int32) (b : Int32) (d : Int32) (f : Int32) (g : Int32) (hx : G.2.2.2 ≤ x) (hI : Im G x (rd, nw, cr, (TpQ tk Ft), (TtQ tk Ft), sI, sT, pt, ql, fl, pe, le, nx, il, qu, kn, ec, nu, va, st, ep, ti, ad, ob, ra, rt, ex, sa, us, tk, th, me, dr, se, sn) Φ) (hnw : ∀ f9 : Nat → Int32, nw f9 → NN f9) : Ct G l yX12_truth wsX12_truth ({ frames := 3, cells := 0, slots := 0, locals := 80 }) 0 0 [.ref x, .int a, .int b, .int d, .int f, .int g] Φ sz (fun v Φ1 sz1 => (∃ (r9 : Int64) (th9 : Int32) (l9 : List Value), v = some (.long r9) ∧ Φ1 x = some (o_ 14 (.int th9 :: l9)) ∧ AnsR (g = 0 ∨ g = 1) True (trU a b d f g (tk, Ft)) th9 r9) ∧ sz1 = sz ∧ (∃ (th1 : Int32), Im G x (rd, nw, cr, (TpQ tk Ft), (TtQ tk Ft), sI, sT, pt, ql, fl, pe, le, nx, il, qu, kn, ec, nu, va, st, ep, ti, ad, ob, ra, rt, ex, sa, us, tk, th1, me, dr, se, sn) Φ1) ∧ Fr x (fun j9 => j9 = 0) Φ Φ1) := by
  refine Ct.of (cc := cX12_truth) (maxL := 6) (ret := (some .long)) (by decide) rfl (Nat.le_of_ble_eq_true rfl) ?_
  intro p9 e9 s9 m9 w9 t9 k9 B
  show Z p9 l e9 _ s9 m9 _ w9 t9 k9 _ G 6 0 [(0, .ref x), (1, .int a), (2, .int b), (3, .int d), (4, .int f), (5, .int g)] [] Φ sz 0 0
  refine z_aload_n B dX12_truth_0 rfl 0 rfl ?_
  refine z_iconst (v := 0) B dX12_truth_1 rfl ?_
  obtain ⟨n_1, v_1, n_2, h_1, b_13, b_1, b_2, b_3, b_4, b_5, b_6, b_7, b_8, b_9, b_10, b_11, b_12⟩ := im0 hI
  replace b_1 : 1 ≤ rt := b_1
  replace b_2 : rt ≤ 1024 := b_2
  replace b_3 : fl ≤ 12 := b_3
  replace b_4 : pe ≤ 24 := b_4
  replace b_5 : le ≤ 700 := b_5
  replace b_6 : qu ≤ 12 := b_6
  replace b_7 : n_1 ≤ 8 := b_7
  replace b_8 : n_2 ≤ 24 := b_8
  replace b_9 : tk ≤ 24 := b_9
  replace b_10 : il ≤ 700 := b_10
  replace b_11 : nx ≤ 701 := b_11
  replace b_12 : st ≤ 701 := b_12
  have h_2 : Φ x = some (o_ 14 [.int th, .ref (x + 1), .ref (x + 2), .int ti, .int ra, .int (nI rt), .int ex, .int ad, .ref (x + 3), .ref (x + 4), .int me, .long se, .ref (x + 5), .int (nI fl), .int dr, .long ob, .long sa, .long sn, .long us, .ref (x + 6), .ref (x + 7), .int (nI pe), .ref (x + 8), .int (nI le), .ref (x + 9), .ref (x + 10), .int (nI qu), .ref (x + 11), .ref (x + 12), .ref (x + 13), .ref (x + 14), .ref (x + 15), .ref (x + 16), .int (nI n_1), .long v_1, .ref (x + 17), .ref (x + 18), .ref (x + 19), .ref (x + 20), .ref (x + 21), .ref (x + 22), .int (nI n_2), .ref (x + 23), .ref (x + 24), .int (nI tk), .ref (x + 25), .int (nI il), .int (nI nx), .int ec, .int ep, .int kn, .int (nI st), .int nu, .long va]) := h_1
  refine z_put (ref := "FlowExporterModel") (C := RX12) (T := TX12) (N := 54) (ci := 14) (v := .int 0) B hu_X12_truth_X12 tyX12 tyX12_ok nmX12 rfl 0 (Nat.le_of_ble_eq_true rfl) hv_X12_truth_1 rfl (Or.inl rfl) h_2 hx rfl rfl (Nat.le_of_ble_eq_true rfl) dX12_truth_2 (fun Φ1 hΦ1 => ?_)
  have h_3 : Φ1 x = some (o_ 14 [.int 0, .ref (x + 1), .ref (x + 2), .int ti, .int ra, .int (nI rt), .int ex, .int ad, .ref (x + 3), .ref (x + 4), .int me, .long se, .ref (x + 5), .int (nI fl), .int dr, .long ob, .long sa, .long sn, .long us, .ref (x + 6), .ref (x + 7), .int (nI pe), .ref (x + 8), .int (nI le), .ref (x + 9), .ref (x + 10), .int (nI qu), .ref (x + 11), .ref (x + 12), .ref (x + 13), .ref (x + 14), .ref (x + 15), .ref (x + 16), .int (nI n_1), .long v_1, .ref (x + 17), .ref (x + 18), .ref (x + 19), .ref (x + 20), .ref (x + 21), .ref (x + 22), .int (nI n_2), .ref (x + 23), .ref (x + 24), .int (nI tk), .ref (x + 25), .int (nI il), .int (nI nx), .int ec, .int ep, .int kn, .int (nI st), .int nu, .long va]) := fset_at hΦ1
  have hI1 : Im G x (rd, nw, cr, (TpQ tk Ft), (TtQ tk Ft), sI, sT, pt, ql, fl, pe, le, nx, il, qu, kn, ec, nu, va, st, ep, ti, ad, ob, ra, rt, ex, sa, us, tk, 0, me, dr, se, sn) Φ1 := Im.put0 hI hΦ1 ⟨n_1, v_1, n_2, rfl, b_13, b_1, b_2, b_3, b_4, b_5, b_6, b_7, b_8, b_9, b_10, b_11, b_12⟩
  refine z_aload_n B dX12_truth_5 rfl 0 rfl ?_
  refine z_iload B dX12_truth_6 5 rfl ?_
  refine z_callS (As := [.int g]) (rest := [.ref x]) B (r_isWhatX G l Φ1 sz x rd nw cr (TpQ tk Ft) (TtQ tk Ft) sI sT pt ql fl pe le nx il qu kn ec nu va st ep ti ad ob ra rt ex sa us tk 0 me dr se sn g hx hI1 hnw) (va_cwS 1 B.1.2.2.2.2 gX12_truth_X12_isWhat rfl rfl rfl (by decide +kernel) ⟨Nat.le_of_ble_eq_true rfl, Nat.le_of_ble_eq_true rfl⟩) rfl rfl (Nat.le_of_ble_eq_true rfl) dX12_truth_8 ⟨Nat.le_of_ble_eq_true rfl, Nat.le_of_ble_eq_true rfl⟩ (fun r_1 Φ2 sz1 st1 hp1 hs1 => ?_)
  obtain ⟨ha1, hq1, hI2, hF1⟩ := hp1
  subst sz1
  replace hI2 : Im G x (rd, nw, cr, (TpQ tk Ft), (TtQ tk Ft), sI, sT, pt, ql, fl, pe, le, nx, il, qu, kn, ec, nu, va, st, ep, ti, ad, ob, ra, rt, ex, sa, us, tk, 0, me, dr, se, sn) Φ2 := hI2
  rcases ha1 with ⟨rfl, hq2⟩ | ⟨rfl, n_3, b_14, rfl⟩
  · replace hs1 : st1 = [.int 0, .ref x] := hs1
    subst st1
    replace hq2 : ¬ (g = 0 ∨ g = 1) := hq2
    refine z_if_ne (tgt := 18) B dX12_truth_11 rfl (fun h9 => absurd (by decide) h9) (fun c_1 => ?_)
    refine z_iconst (v := 1) B dX12_truth_14 rfl ?_
    refine z_goto (tgt := 19) B dX12_truth_15 rfl ?_
    refine z_iconst (v := 1) B dX12_truth_19 rfl ?_
    have h_4 : Φ2 x = some (o_ 14 [.int 0, .ref (x + 1), .ref (x + 2), .int ti, .int ra, .int (nI rt), .int ex, .int ad, .ref (x + 3), .ref (x + 4), .int me, .long se, .ref (x + 5), .int (nI fl), .int dr, .long ob, .long sa, .long sn, .long us, .ref (x + 6), .ref (x + 7), .int (nI pe), .ref (x + 8), .int (nI le), .ref (x + 9), .ref (x + 10), .int (nI qu), .ref (x + 11), .ref (x + 12), .ref (x + 13), .ref (x + 14), .ref (x + 15), .ref (x + 16), .int (nI n_1), .long v_1, .ref (x + 17), .ref (x + 18), .ref (x + 19), .ref (x + 20), .ref (x + 21), .ref (x + 22), .int (nI n_2), .ref (x + 23), .ref (x + 24), .int (nI tk), .ref (x + 25), .int (nI il), .int (nI nx), .int ec, .int ep, .int kn, .int (nI st), .int nu, .long va]) := ((hF1 x (fun j9 h8 h7 => (show False from h7).elim)).trans h_3)
    refine z_callV (As := [.int 1, .int 1]) (rest := []) B (r_throwsIf1 G l Φ2 sz x rd nw cr (TpQ tk Ft) (TtQ tk Ft) sI sT pt ql fl pe le nx il qu kn ec nu va st ep ti ad ob ra rt ex sa us tk 0 me dr se sn  hx hI2 hnw) (cwV 2 B.1.2.2.2.2 gX12_truth_X12_throwsIf rfl rfl rfl (by decide +kernel) ⟨Nat.le_of_ble_eq_true rfl, Nat.le_of_ble_eq_true rfl⟩) h_4 rfl rfl rfl rfl (Nat.le_of_ble_eq_true rfl) dX12_truth_20 ⟨Nat.le_of_ble_eq_true rfl, Nat.le_of_ble_eq_true rfl⟩ (fun r_2 Φ3 sz2 st2 hp2 hs2 => ?_)
    obtain ⟨⟨rfl, l_1, h_5⟩, hq3, hI3, hF2⟩ := hp2
    subst sz2
    replace hs2 : st2 = [.int 1] := hs2
    subst st2
    replace hI3 : Im G x (rd, nw, cr, (TpQ tk Ft), (TtQ tk Ft), sI, sT, pt, ql, fl, pe, le, nx, il, qu, kn, ec, nu, va, st, ep, ti, ad, ob, ra, rt, ex, sa, us, tk, 1, me, dr, se, sn) Φ3 := hI3
    refine z_if_eq (tgt := 30) B dX12_truth_23 rfl (fun h9 => absurd h9 (by decide)) (fun c_2 => ?_)
    refine z_lconst (v := 0) B dX12_truth_26 rfl ?_
    refine z_goto (tgt := 41) B dX12_truth_27 rfl ?_
    exact z_ret_l B dX12_truth_41 ⟨⟨0, 1, l_1, rfl, h_5, Or.inr (Or.inl ⟨hq2, rfl⟩)⟩, rfl, ⟨1, hI3⟩, (fun b9 h9 => ((hF2 b9 h9).trans ((hF1 b9 (fun j9 h8 h7 => (show False from h7).elim)).trans ((fset_fr hΦ1 (fun h8 => h9 (0) h8 (show 0 = 0 by decide))).trans rfl))))⟩
  · replace hs1 : st1 = [.int 1, .ref x] := hs1
    subst st1
    replace b_14 : n_3 < 2 := b_14
    refine z_if_ne (tgt := 18) B dX12_truth_11 rfl (fun c_3 => ?_) (fun h9 => absurd h9 (by decide))
    refine z_iconst (v := 0) B dX12_truth_18 rfl ?_
    refine z_iconst (v := 1) B dX12_truth_19 rfl ?_
    have h_6 : Φ2 x = some (o_ 14 [.int 0, .ref (x + 1), .ref (x + 2), .int ti, .int ra, .int (nI rt), .int ex, .int ad, .ref (x + 3), .ref (x + 4), .int me, .long se, .ref (x + 5), .int (nI fl), .int dr, .long ob, .long sa, .long sn, .long us, .ref (x + 6), .ref (x + 7), .int (nI pe), .ref (x + 8), .int (nI le), .ref (x + 9), .ref (x + 10), .int (nI qu), .ref (x + 11), .ref (x + 12), .ref (x + 13), .ref (x + 14), .ref (x + 15), .ref (x + 16), .int (nI n_1), .long v_1, .ref (x + 17), .ref (x + 18), .ref (x + 19), .ref (x + 20), .ref (x + 21), .ref (x + 22), .int (nI n_2), .ref (x + 23), .ref (x + 24), .int (nI tk), .ref (x + 25), .int (nI il), .int (nI nx), .int ec, .int ep, .int kn, .int (nI st), .int nu, .long va]) := ((hF1 x (fun j9 h8 h7 => (show False from h7).elim)).trans h_3)
    refine z_callV (As := [.int 0, .int 1]) (rest := []) B (r_throwsIf0 G l Φ2 sz x rd nw cr (TpQ tk Ft) (TtQ tk Ft) sI sT pt ql fl pe le nx il qu kn ec nu va st ep ti ad ob ra rt ex sa us tk 0 me dr se sn  hx hI2 hnw) (cwV 2 B.1.2.2.2.2 gX12_truth_X12_throwsIf rfl rfl rfl (by decide +kernel) ⟨Nat.le_of_ble_eq_true rfl, Nat.le_of_ble_eq_true rfl⟩) h_6 rfl rfl rfl rfl (Nat.le_of_ble_eq_true rfl) dX12_truth_20 ⟨Nat.le_of_ble_eq_true rfl, Nat.le_of_ble_eq_true rfl⟩ (fun r_3 Φ4 sz3 st3 hp3 hs3 => ?_)
    obtain ⟨rfl, hq4, hI4, hF3⟩ := hp3
    subst sz3
    replace hs3 : st3 = [.int 0] := hs3
    subst st3
    replace hI4 : Im G x (rd, nw, cr, (TpQ tk Ft), (TtQ tk Ft), sI, sT, pt, ql, fl, pe, le, nx, il, qu, kn, ec, nu, va, st, ep, ti, ad, ob, ra, rt, ex, sa, us, tk, 0, me, dr, se, sn) Φ4 := hI4
    refine z_if_eq (tgt := 30) B dX12_truth_23 rfl (fun c_4 => ?_) (fun h9 => absurd (by decide) h9)
    by_cases hK9 : KyP a b d f
    · refine z_aload_n B dX12_truth_30 rfl 0 rfl ?_
      refine z_iload_n B dX12_truth_31 rfl 1 rfl ?_
      refine z_iload_n B dX12_truth_32 rfl 2 rfl ?_
      refine z_iload_n B dX12_truth_33 rfl 3 rfl ?_
      refine z_iload B dX12_truth_34 4 rfl ?_
      refine z_iload B dX12_truth_36 5 rfl ?_
      have h_7 : Φ4 x = some (o_ 14 [.int 0, .ref (x + 1), .ref (x + 2), .int ti, .int ra, .int (nI rt), .int ex, .int ad, .ref (x + 3), .ref (x + 4), .int me, .long se, .ref (x + 5), .int (nI fl), .int dr, .long ob, .long sa, .long sn, .long us, .ref (x + 6), .ref (x + 7), .int (nI pe), .ref (x + 8), .int (nI le), .ref (x + 9), .ref (x + 10), .int (nI qu), .ref (x + 11), .ref (x + 12), .ref (x + 13), .ref (x + 14), .ref (x + 15), .ref (x + 16), .int (nI n_1), .long v_1, .ref (x + 17), .ref (x + 18), .ref (x + 19), .ref (x + 20), .ref (x + 21), .ref (x + 22), .int (nI n_2), .ref (x + 23), .ref (x + 24), .int (nI tk), .ref (x + 25), .int (nI il), .int (nI nx), .int ec, .int ep, .int kn, .int (nI st), .int nu, .long va]) := ((hF3 x (fun j9 h8 h7 => (show False from h7).elim)).trans h_6)
      refine z_callV (As := [.int a, .int b, .int d, .int f, .int (nI n_3)]) (rest := []) B (r_truthOfX G l Φ4 sz x rd nw cr sI sT pt ql fl pe le nx il qu kn ec nu va st ep ti ad ob ra rt ex sa us tk 0 me dr se sn Ft a b d f n_3 hx hI4 (show n_3 < 2 by omega) hK9 hnw) (cwV 5 B.1.2.2.2.2 gX12_truth_X12_truthOf rfl rfl rfl (by decide +kernel) ⟨Nat.le_of_ble_eq_true rfl, Nat.le_of_ble_eq_true rfl⟩) h_7 rfl rfl rfl rfl (Nat.le_of_ble_eq_true rfl) dX12_truth_38 ⟨Nat.le_of_ble_eq_true rfl, Nat.le_of_ble_eq_true rfl⟩ (fun r_4 Φ5 sz4 st4 hp4 hs4 => ?_)
      obtain ⟨rfl, hq5, hI5, hF4⟩ := hp4
      subst sz4
      replace hs4 : st4 = [.long (trL (kyN a b d f) (nI n_3) (tk, Ft))] := hs4
      subst st4
      replace hI5 : Im G x (rd, nw, cr, (TpQ tk Ft), (TtQ tk Ft), sI, sT, pt, ql, fl, pe, le, nx, il, qu, kn, ec, nu, va, st, ep, ti, ad, ob, ra, rt, ex, sa, us, tk, 0, me, dr, se, sn) Φ5 := hI5
      have hg9 : nI n_3 = 0 ∨ nI n_3 = 1 := by
        rcases (show n_3 = 0 ∨ n_3 = 1 by omega) with h9 | h9
        · exact Or.inl (by rw [h9]; rfl)
        · exact Or.inr (by rw [h9]; rfl)
      have h_8 : Φ5 x = some (o_ 14 [.int 0, .ref (x + 1), .ref (x + 2), .int ti, .int ra, .int (nI rt), .int ex, .int ad, .ref (x + 3), .ref (x + 4), .int me, .long se, .ref (x + 5), .int (nI fl), .int dr, .long ob, .long sa, .long sn, .long us, .ref (x + 6), .ref (x + 7), .int (nI pe), .ref (x + 8), .int (nI le), .ref (x + 9), .ref (x + 10), .int (nI qu), .ref (x + 11), .ref (x + 12), .ref (x + 13), .ref (x + 14), .ref (x + 15), .ref (x + 16), .int (nI n_1), .long v_1, .ref (x + 17), .ref (x + 18), .ref (x + 19), .ref (x + 20), .ref (x + 21), .ref (x + 22), .int (nI n_2), .ref (x + 23), .ref (x + 24), .int (nI tk), .ref (x + 25), .int (nI il), .int (nI nx), .int ec, .int ep, .int kn, .int (nI st), .int nu, .long va]) := ((hF4 x (fun j9 h8 h7 => (show False from h7).elim)).trans h_7)
      exact z_ret_l B dX12_truth_41 ⟨⟨_, 0, _, rfl, h_8, Or.inl ⟨hg9, trivial, rfl, (trU_y hK9).symm⟩⟩, rfl, ⟨0, hI5⟩, (fun b9 h9 => ((hF4 b9 (fun j9 h8 h7 => (show False from h7).elim)).trans ((hF3 b9 (fun j9 h8 h7 => (show False from h7).elim)).trans ((hF1 b9 (fun j9 h8 h7 => (show False from h7).elim)).trans ((fset_fr hΦ1 (fun h8 => h9 (0) h8 (show 0 = 0 by decide))).trans rfl)))))⟩
    · refine z_aload_n B dX12_truth_30 rfl 0 rfl ?_
      refine z_iload_n B dX12_truth_31 rfl 1 rfl ?_
      refine z_iload_n B dX12_truth_32 rfl 2 rfl ?_
      refine z_iload_n B dX12_truth_33 rfl 3 rfl ?_
      refine z_iload B dX12_truth_34 4 rfl ?_
      refine z_iload B dX12_truth_36 5 rfl ?_
      have h_9 : Φ4 x = some (o_ 14 [.int 0, .ref (x + 1), .ref (x + 2), .int ti, .int ra, .int (nI rt), .int ex, .int ad, .ref (x + 3), .ref (x + 4), .int me, .long se, .ref (x + 5), .int (nI fl), .int dr, .long ob, .long sa, .long sn, .long us, .ref (x + 6), .ref (x + 7), .int (nI pe), .ref (x + 8), .int (nI le), .ref (x + 9), .ref (x + 10), .int (nI qu), .ref (x + 11), .ref (x + 12), .ref (x + 13), .ref (x + 14), .ref (x + 15), .ref (x + 16), .int (nI n_1), .long v_1, .ref (x + 17), .ref (x + 18), .ref (x + 19), .ref (x + 20), .ref (x + 21), .ref (x + 22), .int (nI n_2), .ref (x + 23), .ref (x + 24), .int (nI tk), .ref (x + 25), .int (nI il), .int (nI nx), .int ec, .int ep, .int kn, .int (nI st), .int nu, .long va]) := ((hF3 x (fun j9 h8 h7 => (show False from h7).elim)).trans h_6)
      refine z_callV (As := [.int a, .int b, .int d, .int f, .int (nI n_3)]) (rest := []) B (r_truthOfN G l Φ4 sz x rd nw cr (TtQ tk Ft) sI sT pt ql fl pe le nx il qu kn ec nu va st ep ti ad ob ra rt ex sa us tk 0 me dr se sn Ft a b d f n_3 hx hI4 (show n_3 < 2 by omega) hK9 hnw) (cwV 5 B.1.2.2.2.2 gX12_truth_X12_truthOf rfl rfl rfl (by decide +kernel) ⟨Nat.le_of_ble_eq_true rfl, Nat.le_of_ble_eq_true rfl⟩) h_9 rfl rfl rfl rfl (Nat.le_of_ble_eq_true rfl) dX12_truth_38 ⟨Nat.le_of_ble_eq_true rfl, Nat.le_of_ble_eq_true rfl⟩ (fun r_5 Φ6 sz5 st5 hp5 hs5 => ?_)
      obtain ⟨rfl, hq6, hI6, hF5⟩ := hp5
      subst sz5
      replace hs5 : st5 = [.long 0] := hs5
      subst st5
      replace hI6 : Im G x (rd, nw, cr, (TpQ tk Ft), (TtQ tk Ft), sI, sT, pt, ql, fl, pe, le, nx, il, qu, kn, ec, nu, va, st, ep, ti, ad, ob, ra, rt, ex, sa, us, tk, 0, me, dr, se, sn) Φ6 := hI6
      have hg9 : nI n_3 = 0 ∨ nI n_3 = 1 := by
        rcases (show n_3 = 0 ∨ n_3 = 1 by omega) with h9 | h9
        · exact Or.inl (by rw [h9]; rfl)
        · exact Or.inr (by rw [h9]; rfl)
      have h_10 : Φ6 x = some (o_ 14 [.int 0, .ref (x + 1), .ref (x + 2), .int ti, .int ra, .int (nI rt), .int ex, .int ad, .ref (x + 3), .ref (x + 4), .int me, .long se, .ref (x + 5), .int (nI fl), .int dr, .long ob, .long sa, .long sn, .long us, .ref (x + 6), .ref (x + 7), .int (nI pe), .ref (x + 8), .int (nI le), .ref (x + 9), .ref (x + 10), .int (nI qu), .ref (x + 11), .ref (x + 12), .ref (x + 13), .ref (x + 14), .ref (x + 15), .ref (x + 16), .int (nI n_1), .long v_1, .ref (x + 17), .ref (x + 18), .ref (x + 19), .ref (x + 20), .ref (x + 21), .ref (x + 22), .int (nI n_2), .ref (x + 23), .ref (x + 24), .int (nI tk), .ref (x + 25), .int (nI il), .int (nI nx), .int ec, .int ep, .int kn, .int (nI st), .int nu, .long va]) := ((hF5 x (fun j9 h8 h7 => (show False from h7).elim)).trans h_9)
      exact z_ret_l B dX12_truth_41 ⟨⟨_, 0, _, rfl, h_10, Or.inl ⟨hg9, trivial, rfl, (trU_n hK9).symm⟩⟩, rfl, ⟨0, hI6⟩, (fun b9 h9 => ((hF5 b9 (fun j9 h8 h7 => (show False from h7).elim)).trans ((hF3 b9 (fun j9 h8 h7 => (show False from h7).elim)).trans ((hF1 b9 (fun j9 h8 h7 => (show False from h7).elim)).trans ((fset_fr hΦ1 (fun h8 => h9 (0) h8 (show 0 = 0 by decide))).trans rfl)))))⟩

theorem z_join {p : Program} {l : Launch} {e : Env} {R : Room} {s : State} {m : MethodId} {args : Array Value} {below : List Frame} {meth : Method} {c : Code} {Q : State → Prop} {G : EnvG} {nL pc : Nat} {lv : List (Nat × Value)} {st : List Value} {Φ : Hm} {sz cells slots : Nat} {α : Type} (Iv : α → Hm → Prop) (lvf : α → List (Nat × Value)) (pj : Nat) (body : ∀ (a : α) (Φi : Hm), Iv a Φi → Z p l e R s m args below meth c Q G nL pj (lvf a) [] Φi sz cells slots) (main : (∀ (a : α) (Φi : Hm), Iv a Φi → Z p l e R s m args below meth c Q G nL pj (lvf a) [] Φi sz cells slots) → Z p l e R s m args below meth c Q G nL pc lv st Φ sz cells slots) : Z p l e R s m args below meth c Q G nL pc lv st Φ sz cells slots := main body
theorem np2 {v : Int64} (h : np 2 v) : ∃ n : Nat, n ≤ 65535 ∧ v.toInt32 = nI n ∧ v = Int64.ofNat n := by
  obtain ⟨A, h1, h2⟩ := h (by decide)
  have h3 : A < 65536 := h1
  exact ⟨A, by omega, by rw [h2, ofL (by omega)], h2⟩

theorem hu_X12_copyMessage_X12 : ∀ w ∈ u_ws RX12 TX12 54, w ∈ wsX12_copyMessage := fun _ h => List.mem_cons_of_mem _ (List.mem_append_left _ (List.mem_append_right _ (h)))

theorem hv_X12_copyMessage_42 : Cond.fieldLink RX12 42 "FlowExporterModel" (TX12 25).2.1 (TX12 25).2.2.1 ∈ wsX12_copyMessage := List.mem_cons_of_mem _ (List.mem_append_left _ (List.mem_append_left _ (List.mem_of_getElem? (i := 1) rfl)))

theorem fq_1072 : ∀ j9 : Nat, (j9 = 9) → (j9 = 9 ∨ j9 = 10) := by
  intro j9 h
  omega

theorem hv_X12_copyMessage_39 : Cond.fieldLink RX12 39 "FlowExporterModel" (TX12 24).2.1 (TX12 24).2.2.1 ∈ wsX12_copyMessage := List.mem_cons_of_mem _ (List.mem_append_left _ (List.mem_append_left _ (List.mem_of_getElem? (i := 0) rfl)))

set_option maxHeartbeats 4000000 in
set_option maxRecDepth 100000 in
theorem r_copyMessage (G : EnvG) (l : Launch) (Φ : Hm) (sz x : Nat) (rd : (Nat → Int32) → Prop) (nw : (Nat → Int32) → Prop) (cr : (Nat → Int64) → Prop) (tp : (Nat → Int32) → Prop) (tt : (Nat → Int64) → Prop) (sI : (Nat → Int32) → Prop) (sT : (Nat → Int32) → Prop) (pt : (Nat → Int32) → Prop) (ql : (Nat → Int32) → Prop) (fl : Nat) (pe : Nat) (le : Nat) (nx : Nat) (il : Nat) (qu : Nat) (kn : Int32) (ec : Int32) (nu : Int32) (va : Int64) (st : Nat) (ep : Int32) (ti : Int32) (ad : Int32) (ob : Int64) (ra : Int32) (rt : Nat) (ex : Int32) (sa : Int64) (us : Int64) (tk : Nat) (th : Int32) (me : Int32) (dr : Int32) (se : Int64) (sn : Int64) (f : Nat) (t : Nat) (hx : G.2.2.2 ≤ x) (hI : Im G x (rd, nw, cr, tp, tt, sI, sT, pt, ql, fl, pe, le, nx, il, qu, kn, ec, nu, va, st, ep, ti, ad, ob, ra, rt, ex, sa, us, tk, th, me, dr, se, sn) Φ) (hf : f < 12) (ht : t < 12) (hnw : ∀ f9 : Nat → Int32, nw f9 → NN f9) : Ct G l yX12_copyMessage wsX12_copyMessage ({ frames := 0, cells := 0, slots := 0, locals := 0 }) 0 0 [.ref x, .int (nI f), .int (nI t)] Φ sz (fun v Φ1 sz1 => (v = none) ∧ sz1 = sz ∧ (Im G x (rd, nw, cr, tp, tt, sI, sT, pt, (CpW ql f t), fl, pe, le, nx, il, qu, kn, ec, nu, va, st, ep, ti, ad, ob, ra, rt, ex, sa, us, tk, th, me, dr, se, sn) Φ1) ∧ Fr x (fun j9 => j9 = 9 ∨ j9 = 10) Φ Φ1) := by
  refine Ct.of (cc := cX12_copyMessage) (maxL := 4) (ret := none) (by decide) rfl (Nat.le_of_ble_eq_true rfl) ?_
  intro p9 e9 s9 m9 w9 t9 k9 B
  show Z p9 l e9 _ s9 m9 _ w9 t9 k9 _ G 4 0 [(0, .ref x), (1, .int (nI f)), (2, .int (nI t))] [] Φ sz 0 0
  refine z_iconst (v := 0) B dX12_copyMessage_0 rfl ?_
  refine z_istore_n (lv' := [(3, .int 0), (0, .ref x), (1, .int (nI f)), (2, .int (nI t))]) B dX12_copyMessage_1 rfl (Nat.le_of_ble_eq_true rfl) rfl ?_
  refine z_lv [0, 1, 2, 3] rfl ?_
  refine z_loop (α := Nat) (fun (a9 : Nat) Φi => Im G x (rd, nw, cr, tp, tt, sI, sT, pt, ql, fl, pe, le, nx, il, qu, kn, ec, nu, va, st, ep, ti, ad, ob, ra, rt, ex, sa, us, tk, th, me, dr, se, sn) Φi ∧ Fr x (fun j9 => j9 = 9) Φ Φi ∧ (a9 ≤ 600) ∧ True) (fun a9 => [(3, .int (nI a9)), (0, .ref x), (1, .int (nI f)), (2, .int (nI t))]) (fun a9 => 600 - a9) ?_ (0) ⟨hI, fun _ _ => rfl, (show 0 ≤ 600 by omega), trivial⟩
  rintro i_1 Φl1 ⟨hI1, hF1, b_1, -⟩ ih1
  replace hI1 : Im G x (rd, nw, cr, tp, tt, sI, sT, pt, ql, fl, pe, le, nx, il, qu, kn, ec, nu, va, st, ep, ti, ad, ob, ra, rt, ex, sa, us, tk, th, me, dr, se, sn) Φl1 := hI1
  replace b_1 : i_1 ≤ 600 := b_1
  show Z p9 l e9 _ s9 m9 _ w9 t9 k9 _ G 4 2 [(3, .int (nI i_1)), (0, .ref x), (1, .int (nI f)), (2, .int (nI t))] [] Φl1 _ _ _
  refine z_iload_n B dX12_copyMessage_2 rfl 0 rfl ?_
  refine z_sipush (v := 600) B dX12_copyMessage_3 rfl ?_
  refine z_icmp_ge (tgt := 39) B dX12_copyMessage_6 rfl (fun c_1 => ?_) (fun c_1 => ?_)
  · have e_1 : 600 ≤ i_1 := (nI_leI (a := 600) (b := i_1) (by omega) (by omega)).mp c_1
    refine z_aload_n B dX12_copyMessage_39 rfl 1 rfl ?_
    obtain ⟨n_1, v_1, n_2, h_1, b_14, b_2, b_3, b_4, b_5, b_6, b_7, b_8, b_9, b_10, b_11, b_12, b_13⟩ := im0 hI1
    replace b_2 : 1 ≤ rt := b_2
    replace b_3 : rt ≤ 1024 := b_3
    replace b_4 : fl ≤ 12 := b_4
    replace b_5 : pe ≤ 24 := b_5
    replace b_6 : le ≤ 700 := b_6
    replace b_7 : qu ≤ 12 := b_7
    replace b_8 : n_1 ≤ 8 := b_8
    replace b_9 : n_2 ≤ 24 := b_9
    replace b_10 : tk ≤ 24 := b_10
    replace b_11 : il ≤ 700 := b_11
    replace b_12 : nx ≤ 701 := b_12
    replace b_13 : st ≤ 701 := b_13
    have h_2 : Φl1 x = some (o_ 14 [.int th, .ref (x + 1), .ref (x + 2), .int ti, .int ra, .int (nI rt), .int ex, .int ad, .ref (x + 3), .ref (x + 4), .int me, .long se, .ref (x + 5), .int (nI fl), .int dr, .long ob, .long sa, .long sn, .long us, .ref (x + 6), .ref (x + 7), .int (nI pe), .ref (x + 8), .int (nI le), .ref (x + 9), .ref (x + 10), .int (nI qu), .ref (x + 11), .ref (x + 12), .ref (x + 13), .ref (x + 14), .ref (x + 15), .ref (x + 16), .int (nI n_1), .long v_1, .ref (x + 17), .ref (x + 18), .ref (x + 19), .ref (x + 20), .ref (x + 21), .ref (x + 22), .int (nI n_2), .ref (x + 23), .ref (x + 24), .int (nI tk), .ref (x + 25), .int (nI il), .int (nI nx), .int ec, .int ep, .int kn, .int (nI st), .int nu, .long va]) := h_1
    refine z_get (ref := "FlowExporterModel") (C := RX12) (T := TX12) (N := 54) (ci := 14) (v := .ref (x + 10)) B hu_X12_copyMessage_X12 rfl 25 (Nat.le_of_ble_eq_true rfl) hv_X12_copyMessage_42 rfl h_2 rfl dX12_copyMessage_40 ?_
    refine z_iload_n B dX12_copyMessage_43 rfl 3 rfl ?_
    refine z_aload_n B dX12_copyMessage_44 rfl 1 rfl ?_
    refine z_get (ref := "FlowExporterModel") (C := RX12) (T := TX12) (N := 54) (ci := 14) (v := .ref (x + 10)) B hu_X12_copyMessage_X12 rfl 25 (Nat.le_of_ble_eq_true rfl) hv_X12_copyMessage_42 rfl h_2 rfl dX12_copyMessage_45 ?_
    refine z_iload_n B dX12_copyMessage_48 rfl 2 rfl ?_
    obtain ⟨f_1, h_3, r_1, r_2⟩ := imk (k := 10) hI1
    replace r_2 : ql f_1 := r_2
    replace r_1 : Rw 600 f_1 := r_1
    have h_4 : Φl1 (x + 10) = some (ai_ G 12 f_1) := h_3
    refine z_iald B h_4 (vp_in_nI (by omega) (by omega)) dX12_copyMessage_49 ?_
    obtain ⟨n_3, b_15, e_2⟩ := r_1 (nI f).toNatClampNeg
    refine z_top (st1 := [.int (nI n_3), .int (nI t), .ref (x + 10)]) (congrArg (fun w9 : Int32 => ([.int w9, .int (nI t), .ref (x + 10)] : List Value)) (e_2)) ?_
    refine z_iast B h_4 (Nat.le_trans hx (Nat.le_add_right x 10)) (vp_in_nI (by omega) (by omega)) dX12_copyMessage_50 (fun Φ1 hΦ1 => ?_)
    have h_5 : Φ1 (x + 10) = some (ai_ G 12 (upd f_1 (nI t).toNatClampNeg (nI n_3))) := fset_at hΦ1
    have hI2 : Im G x (rd, nw, cr, tp, tt, sI, sT, pt, (fun g9 => g9 = (upd f_1 (nI t).toNatClampNeg (nI n_3))), fl, pe, le, nx, il, qu, kn, ec, nu, va, st, ep, ti, ad, ob, ra, rt, ex, sa, us, tk, th, me, dr, se, sn) Φ1 := Im.put10 (ql1 := (fun g9 => g9 = (upd f_1 (nI t).toNatClampNeg (nI n_3)))) hI1 hΦ1 (Rw.up (n := n_3) r_1 (show n_3 ≤ 600 by omega)) rfl
    have hI3 : Im G x (rd, nw, cr, tp, tt, sI, sT, pt, (CpW ql f t), fl, pe, le, nx, il, qu, kn, ec, nu, va, st, ep, ti, ad, ob, ra, rt, ex, sa, us, tk, th, me, dr, se, sn) Φ1 := Im.weak5 hI2 (fun _ q9 => q9) (fun _ q9 => q9) (fun _ q9 => q9) (fun _ q9 => q9) (fun _ q9 => q9) (fun _ q9 => q9) (fun _ q9 => q9) (fun _ q9 => q9) (eqw (CpW.i r_2 (nI_clamp (by omega)) (nI_clamp (by omega)) e_2))
    exact z_ret_v B dX12_copyMessage_51 ⟨rfl, rfl, hI3, (fun b9 h9 => ((fset_fr hΦ1 (fun h8 => h9 (10) h8 (show 10 = 9 ∨ 10 = 10 by decide))).trans ((hF1 b9 (fun j9 h8 h7 => h9 j9 h8 (fq_1072 j9 h7))).trans rfl)))⟩
  · have e_3 : ¬ (600 ≤ i_1) := fun h9 => c_1 ((nI_leI (a := 600) (b := i_1) (by omega) (by omega)).mpr h9)
    refine z_aload_n B dX12_copyMessage_9 rfl 1 rfl ?_
    obtain ⟨n_4, v_2, n_5, h_6, b_28, b_16, b_17, b_18, b_19, b_20, b_21, b_22, b_23, b_24, b_25, b_26, b_27⟩ := im0 hI1
    replace b_16 : 1 ≤ rt := b_16
    replace b_17 : rt ≤ 1024 := b_17
    replace b_18 : fl ≤ 12 := b_18
    replace b_19 : pe ≤ 24 := b_19
    replace b_20 : le ≤ 700 := b_20
    replace b_21 : qu ≤ 12 := b_21
    replace b_22 : n_4 ≤ 8 := b_22
    replace b_23 : n_5 ≤ 24 := b_23
    replace b_24 : tk ≤ 24 := b_24
    replace b_25 : il ≤ 700 := b_25
    replace b_26 : nx ≤ 701 := b_26
    replace b_27 : st ≤ 701 := b_27
    have h_7 : Φl1 x = some (o_ 14 [.int th, .ref (x + 1), .ref (x + 2), .int ti, .int ra, .int (nI rt), .int ex, .int ad, .ref (x + 3), .ref (x + 4), .int me, .long se, .ref (x + 5), .int (nI fl), .int dr, .long ob, .long sa, .long sn, .long us, .ref (x + 6), .ref (x + 7), .int (nI pe), .ref (x + 8), .int (nI le), .ref (x + 9), .ref (x + 10), .int (nI qu), .ref (x + 11), .ref (x + 12), .ref (x + 13), .ref (x + 14), .ref (x + 15), .ref (x + 16), .int (nI n_4), .long v_2, .ref (x + 17), .ref (x + 18), .ref (x + 19), .ref (x + 20), .ref (x + 21), .ref (x + 22), .int (nI n_5), .ref (x + 23), .ref (x + 24), .int (nI tk), .ref (x + 25), .int (nI il), .int (nI nx), .int ec, .int ep, .int kn, .int (nI st), .int nu, .long va]) := h_6
    refine z_get (ref := "FlowExporterModel") (C := RX12) (T := TX12) (N := 54) (ci := 14) (v := .ref (x + 9)) B hu_X12_copyMessage_X12 rfl 24 (Nat.le_of_ble_eq_true rfl) hv_X12_copyMessage_39 rfl h_7 rfl dX12_copyMessage_10 ?_
    refine z_sipush (v := 600) B dX12_copyMessage_13 rfl ?_
    refine z_iload_n B dX12_copyMessage_16 rfl 3 rfl ?_
    refine z_imul B dX12_copyMessage_17 ?_
    refine z_top (st1 := [.int (nI (600 * t)), .ref (x + 9)]) (congrArg (fun w9 : Int32 => ([.int w9, .ref (x + 9)] : List Value)) (nI_mul 600 t)) ?_
    refine z_iload_n B dX12_copyMessage_18 rfl 0 rfl ?_
    refine z_iadd B dX12_copyMessage_19 ?_
    refine z_top (st1 := [.int (nI (600 * t + i_1)), .ref (x + 9)]) (congrArg (fun w9 : Int32 => ([.int w9, .ref (x + 9)] : List Value)) (nI_add (600 * t) i_1)) ?_
    refine z_aload_n B dX12_copyMessage_20 rfl 1 rfl ?_
    refine z_get (ref := "FlowExporterModel") (C := RX12) (T := TX12) (N := 54) (ci := 14) (v := .ref (x + 9)) B hu_X12_copyMessage_X12 rfl 24 (Nat.le_of_ble_eq_true rfl) hv_X12_copyMessage_39 rfl h_7 rfl dX12_copyMessage_21 ?_
    refine z_sipush (v := 600) B dX12_copyMessage_24 rfl ?_
    refine z_iload_n B dX12_copyMessage_27 rfl 2 rfl ?_
    refine z_imul B dX12_copyMessage_28 ?_
    refine z_top (st1 := [.int (nI (600 * f)), .ref (x + 9), .int (nI (600 * t + i_1)), .ref (x + 9)]) (congrArg (fun w9 : Int32 => ([.int w9, .ref (x + 9), .int (nI (600 * t + i_1)), .ref (x + 9)] : List Value)) (nI_mul 600 f)) ?_
    refine z_iload_n B dX12_copyMessage_29 rfl 0 rfl ?_
    refine z_iadd B dX12_copyMessage_30 ?_
    refine z_top (st1 := [.int (nI (600 * f + i_1)), .ref (x + 9), .int (nI (600 * t + i_1)), .ref (x + 9)]) (congrArg (fun w9 : Int32 => ([.int w9, .ref (x + 9), .int (nI (600 * t + i_1)), .ref (x + 9)] : List Value)) (nI_add (600 * f) i_1)) ?_
    obtain ⟨f_2, h_8, r_3⟩ := imk (k := 9) hI1
    replace r_3 : Rw 255 f_2 := r_3
    have h_9 : Φl1 (x + 9) = some (ai_ G 7200 f_2) := h_8
    refine z_iald B h_9 (vp_in_nI (by omega) (by omega)) dX12_copyMessage_31 ?_
    obtain ⟨n_6, b_29, e_4⟩ := r_3 ((nI (600 * f + i_1)).toNatClampNeg)
    refine z_top (st1 := [.int (nI n_6), .int (nI (600 * t + i_1)), .ref (x + 9)]) (congrArg (fun w9 : Int32 => ([.int w9, .int (nI (600 * t + i_1)), .ref (x + 9)] : List Value)) (e_4)) ?_
    refine z_iast B h_9 (Nat.le_trans hx (Nat.le_add_right x 9)) (vp_in_nI (by omega) (by omega)) dX12_copyMessage_32 (fun Φ2 hΦ2 => ?_)
    have h_10 : Φ2 (x + 9) = some (ai_ G 7200 (upd f_2 (nI (600 * t + i_1)).toNatClampNeg (nI n_6))) := fset_at hΦ2
    have hI4 : Im G x (rd, nw, cr, tp, tt, sI, sT, pt, ql, fl, pe, le, nx, il, qu, kn, ec, nu, va, st, ep, ti, ad, ob, ra, rt, ex, sa, us, tk, th, me, dr, se, sn) Φ2 := Im.put (k := 9) hI1 hΦ2 ⟨_, rfl, Rw.up (n := n_6) r_3 (show n_6 ≤ 255 by omega)⟩
    refine z_iinc (k := 0) (v := nI (i_1 + 1)) (lv' := [(3, .int (nI (i_1 + 1))), (0, .ref x), (1, .int (nI f)), (2, .int (nI t))]) B dX12_copyMessage_33 rfl (nI_add i_1 1) (Nat.le_of_ble_eq_true rfl) rfl ?_
    refine z_goto (tgt := 2) B dX12_copyMessage_36 rfl ?_
    refine z_lv [0, 1, 2, 3] rfl ?_
    exact ih1 (i_1 + 1) Φ2 (show 600 - (i_1 + 1) < 600 - i_1 by omega) ⟨hI4, (fun b9 h9 => ((fset_fr hΦ2 (fun h8 => h9 (9) h8 (show 9 = 9 by decide))).trans ((hF1 b9 h9).trans rfl))), (show (i_1 + 1) ≤ 600 by omega), trivial⟩

theorem hu_X12_remove_X12 : ∀ w ∈ u_ws RX12 TX12 54, w ∈ wsX12_remove := fun _ h => List.mem_cons_of_mem _ (List.mem_append_left _ (List.mem_append_right _ (h)))

theorem hv_X12_remove_139 : Cond.fieldLink RX12 139 "FlowExporterModel" (TX12 26).2.1 (TX12 26).2.2.1 ∈ wsX12_remove := List.mem_cons_of_mem _ (List.mem_append_left _ (List.mem_append_left _ (List.mem_of_getElem? (i := 0) rfl)))

theorem fq_1076 {x : Nat} : ∀ j9 : Nat, x = x + j9 → (j9 = 9 ∨ j9 = 10) → False := by
  intro j9 h1 h2
  omega

theorem fq_1077 : ∀ j9 : Nat, (j9 = 9 ∨ j9 = 10) → (j9 = 0 ∨ j9 = 9 ∨ j9 = 10) := by
  intro j9 h
  omega

set_option maxHeartbeats 4000000 in
set_option maxRecDepth 100000 in
theorem r_remove (G : EnvG) (l : Launch) (Φ : Hm) (sz x : Nat) (rd : (Nat → Int32) → Prop) (nw : (Nat → Int32) → Prop) (cr : (Nat → Int64) → Prop) (tp : (Nat → Int32) → Prop) (tt : (Nat → Int64) → Prop) (sI : (Nat → Int32) → Prop) (sT : (Nat → Int32) → Prop) (pt : (Nat → Int32) → Prop) (fl : Nat) (pe : Nat) (le : Nat) (nx : Nat) (il : Nat) (qu : Nat) (kn : Int32) (ec : Int32) (nu : Int32) (va : Int64) (st : Nat) (ep : Int32) (ti : Int32) (ad : Int32) (ob : Int64) (ra : Int32) (rt : Nat) (ex : Int32) (sa : Int64) (us : Int64) (tk : Nat) (th : Int32) (me : Int32) (dr : Int32) (se : Int64) (sn : Int64) (L : Nat → Nat) (i : Nat) (hx : G.2.2.2 ≤ x) (hI : Im G x (rd, nw, cr, tp, tt, sI, sT, pt, (QlQ qu L), fl, pe, le, nx, il, qu, kn, ec, nu, va, st, ep, ti, ad, ob, ra, rt, ex, sa, us, tk, th, me, dr, se, sn) Φ) (hi : i < qu) (hnw : ∀ f9 : Nat → Int32, nw f9 → NN f9) : Ct G l yX12_remove wsX12_remove ({ frames := 1, cells := 0, slots := 0, locals := 23 }) 0 0 [.ref x, .int (nI i)] Φ sz (fun v Φ1 sz1 => (v = none) ∧ sz1 = sz ∧ (Im G x (rd, nw, cr, tp, tt, sI, sT, pt, (QlQ (qu - 1) (rmL L i)), fl, pe, le, nx, il, qu - 1, kn, ec, nu, va, st, ep, ti, ad, ob, ra, rt, ex, sa, us, tk, th, me, dr, se, sn) Φ1) ∧ Fr x (fun j9 => j9 = 0 ∨ j9 = 9 ∨ j9 = 10) Φ Φ1) := by
  refine Ct.of (cc := cX12_remove) (maxL := 3) (ret := none) (by decide) rfl (Nat.le_of_ble_eq_true rfl) ?_
  intro p9 e9 s9 m9 w9 t9 k9 B
  show Z p9 l e9 _ s9 m9 _ w9 t9 k9 _ G 3 0 [(0, .ref x), (1, .int (nI i))] [] Φ sz 0 0
  refine z_aload_n B dX12_remove_0 rfl 0 rfl ?_
  refine z_dup B dX12_remove_1 rfl ?_
  obtain ⟨n_1, v_1, n_2, h_1, b_13, b_1, b_2, b_3, b_4, b_5, b_6, b_7, b_8, b_9, b_10, b_11, b_12⟩ := im0 hI
  replace b_1 : 1 ≤ rt := b_1
  replace b_2 : rt ≤ 1024 := b_2
  replace b_3 : fl ≤ 12 := b_3
  replace b_4 : pe ≤ 24 := b_4
  replace b_5 : le ≤ 700 := b_5
  replace b_6 : qu ≤ 12 := b_6
  replace b_7 : n_1 ≤ 8 := b_7
  replace b_8 : n_2 ≤ 24 := b_8
  replace b_9 : tk ≤ 24 := b_9
  replace b_10 : il ≤ 700 := b_10
  replace b_11 : nx ≤ 701 := b_11
  replace b_12 : st ≤ 701 := b_12
  have h_2 : Φ x = some (o_ 14 [.int th, .ref (x + 1), .ref (x + 2), .int ti, .int ra, .int (nI rt), .int ex, .int ad, .ref (x + 3), .ref (x + 4), .int me, .long se, .ref (x + 5), .int (nI fl), .int dr, .long ob, .long sa, .long sn, .long us, .ref (x + 6), .ref (x + 7), .int (nI pe), .ref (x + 8), .int (nI le), .ref (x + 9), .ref (x + 10), .int (nI qu), .ref (x + 11), .ref (x + 12), .ref (x + 13), .ref (x + 14), .ref (x + 15), .ref (x + 16), .int (nI n_1), .long v_1, .ref (x + 17), .ref (x + 18), .ref (x + 19), .ref (x + 20), .ref (x + 21), .ref (x + 22), .int (nI n_2), .ref (x + 23), .ref (x + 24), .int (nI tk), .ref (x + 25), .int (nI il), .int (nI nx), .int ec, .int ep, .int kn, .int (nI st), .int nu, .long va]) := h_1
  refine z_get (ref := "FlowExporterModel") (C := RX12) (T := TX12) (N := 54) (ci := 14) (v := .int (nI qu)) B hu_X12_remove_X12 rfl 26 (Nat.le_of_ble_eq_true rfl) hv_X12_remove_139 rfl h_2 rfl dX12_remove_2 ?_
  refine z_iconst (v := 1) B dX12_remove_5 rfl ?_
  refine z_isub B dX12_remove_6 ?_
  refine z_top (st1 := [.int (nI (qu - 1)), .ref x]) (congrArg (fun w9 : Int32 => ([.int w9, .ref x] : List Value)) (nI_sub (show 1 ≤ qu by omega))) ?_
  refine z_put (ref := "FlowExporterModel") (C := RX12) (T := TX12) (N := 54) (ci := 14) (v := .int (nI (qu - 1))) B hu_X12_remove_X12 tyX12 tyX12_ok nmX12 rfl 26 (Nat.le_of_ble_eq_true rfl) hv_X12_remove_139 rfl (Or.inl rfl) h_2 hx rfl rfl (Nat.le_of_ble_eq_true rfl) dX12_remove_7 (fun Φ1 hΦ1 => ?_)
  have h_3 : Φ1 x = some (o_ 14 [.int th, .ref (x + 1), .ref (x + 2), .int ti, .int ra, .int (nI rt), .int ex, .int ad, .ref (x + 3), .ref (x + 4), .int me, .long se, .ref (x + 5), .int (nI fl), .int dr, .long ob, .long sa, .long sn, .long us, .ref (x + 6), .ref (x + 7), .int (nI pe), .ref (x + 8), .int (nI le), .ref (x + 9), .ref (x + 10), .int (nI (qu - 1)), .ref (x + 11), .ref (x + 12), .ref (x + 13), .ref (x + 14), .ref (x + 15), .ref (x + 16), .int (nI n_1), .long v_1, .ref (x + 17), .ref (x + 18), .ref (x + 19), .ref (x + 20), .ref (x + 21), .ref (x + 22), .int (nI n_2), .ref (x + 23), .ref (x + 24), .int (nI tk), .ref (x + 25), .int (nI il), .int (nI nx), .int ec, .int ep, .int kn, .int (nI st), .int nu, .long va]) := fset_at hΦ1
  have hI1 : Im G x (rd, nw, cr, tp, tt, sI, sT, pt, (QlQ qu L), fl, pe, le, nx, il, qu - 1, kn, ec, nu, va, st, ep, ti, ad, ob, ra, rt, ex, sa, us, tk, th, me, dr, se, sn) Φ1 := Im.put0 hI hΦ1 ⟨n_1, v_1, n_2, rfl, b_13, b_1, b_2, b_3, b_4, b_5, (show (qu - 1) ≤ 12 by omega), b_7, b_8, b_9, b_10, b_11, b_12⟩
  refine z_iload_n B dX12_remove_10 rfl 1 rfl ?_
  refine z_istore_n (lv' := [(2, .int (nI i)), (0, .ref x), (1, .int (nI i))]) B dX12_remove_11 rfl (Nat.le_of_ble_eq_true rfl) rfl ?_
  refine z_lv [0, 1, 2] rfl ?_
  refine z_loop (α := Nat) (fun (a9 : Nat) Φi => Im G x (rd, nw, cr, tp, tt, sI, sT, pt, (RlQ qu L i a9), fl, pe, le, nx, il, qu - 1, kn, ec, nu, va, st, ep, ti, ad, ob, ra, rt, ex, sa, us, tk, th, me, dr, se, sn) Φi ∧ Fr x (fun j9 => j9 = 9 ∨ j9 = 10) Φ1 Φi ∧ (a9 ≤ 12) ∧ (i ≤ a9) ∧ True) (fun a9 => [(2, .int (nI a9)), (0, .ref x), (1, .int (nI i))]) (fun a9 => 12 - a9) ?_ (i) ⟨(Im.weak5 hI1 (fun _ q9 => q9) (fun _ q9 => q9) (fun _ q9 => q9) (fun _ q9 => q9) (fun _ q9 => q9) (fun _ q9 => q9) (fun _ q9 => q9) (fun _ q9 => q9) (fun _ q9 => RlQ.z q9)), fun _ _ => rfl, (show i ≤ 12 by omega), (show i ≤ i by omega), trivial⟩
  rintro i_1 Φl1 ⟨hI2, hF1, b_14, b_15, -⟩ ih1
  replace hI2 : Im G x (rd, nw, cr, tp, tt, sI, sT, pt, (RlQ qu L i i_1), fl, pe, le, nx, il, qu - 1, kn, ec, nu, va, st, ep, ti, ad, ob, ra, rt, ex, sa, us, tk, th, me, dr, se, sn) Φl1 := hI2
  replace b_14 : i_1 ≤ 12 := b_14
  replace b_15 : i ≤ i_1 := b_15
  show Z p9 l e9 _ s9 m9 _ w9 t9 k9 _ G 3 12 [(2, .int (nI i_1)), (0, .ref x), (1, .int (nI i))] [] Φl1 _ _ _
  refine z_iload_n B dX12_remove_12 rfl 0 rfl ?_
  refine z_aload_n B dX12_remove_13 rfl 1 rfl ?_
  have h_4 : Φl1 x = some (o_ 14 [.int th, .ref (x + 1), .ref (x + 2), .int ti, .int ra, .int (nI rt), .int ex, .int ad, .ref (x + 3), .ref (x + 4), .int me, .long se, .ref (x + 5), .int (nI fl), .int dr, .long ob, .long sa, .long sn, .long us, .ref (x + 6), .ref (x + 7), .int (nI pe), .ref (x + 8), .int (nI le), .ref (x + 9), .ref (x + 10), .int (nI (qu - 1)), .ref (x + 11), .ref (x + 12), .ref (x + 13), .ref (x + 14), .ref (x + 15), .ref (x + 16), .int (nI n_1), .long v_1, .ref (x + 17), .ref (x + 18), .ref (x + 19), .ref (x + 20), .ref (x + 21), .ref (x + 22), .int (nI n_2), .ref (x + 23), .ref (x + 24), .int (nI tk), .ref (x + 25), .int (nI il), .int (nI nx), .int ec, .int ep, .int kn, .int (nI st), .int nu, .long va]) := ((hF1 x fq_1076).trans h_3)
  refine z_get (ref := "FlowExporterModel") (C := RX12) (T := TX12) (N := 54) (ci := 14) (v := .int (nI (qu - 1))) B hu_X12_remove_X12 rfl 26 (Nat.le_of_ble_eq_true rfl) hv_X12_remove_139 rfl h_4 rfl dX12_remove_14 ?_
  refine z_icmp_ge (tgt := 34) B dX12_remove_17 rfl (fun c_1 => ?_) (fun c_1 => ?_)
  · have e_1 : qu - 1 ≤ i_1 := (nI_leI (a := qu - 1) (b := i_1) (by omega) (by omega)).mp c_1
    have hI3 : Im G x (rd, nw, cr, tp, tt, sI, sT, pt, (QlQ (qu - 1) (rmL L i)), fl, pe, le, nx, il, qu - 1, kn, ec, nu, va, st, ep, ti, ad, ob, ra, rt, ex, sa, us, tk, th, me, dr, se, sn) Φl1 := Im.weak5 hI2 (fun _ q9 => q9) (fun _ q9 => q9) (fun _ q9 => q9) (fun _ q9 => q9) (fun _ q9 => q9) (fun _ q9 => q9) (fun _ q9 => q9) (fun _ q9 => q9) (fun _ q9 => RlQ.e (show qu ≤ i_1 + 1 by omega) q9)
    exact z_ret_v B dX12_remove_34 ⟨rfl, rfl, hI3, (fun b9 h9 => ((hF1 b9 (fun j9 h8 h7 => h9 j9 h8 (fq_1077 j9 h7))).trans ((fset_fr hΦ1 (fun h8 => h9 (0) h8 (show 0 = 0 ∨ 0 = 9 ∨ 0 = 10 by decide))).trans rfl)))⟩
  · have e_2 : ¬ (qu - 1 ≤ i_1) := fun h9 => c_1 ((nI_leI (a := qu - 1) (b := i_1) (by omega) (by omega)).mpr h9)
    refine z_aload_n B dX12_remove_20 rfl 1 rfl ?_
    refine z_iload_n B dX12_remove_21 rfl 0 rfl ?_
    refine z_iconst (v := 1) B dX12_remove_22 rfl ?_
    refine z_iadd B dX12_remove_23 ?_
    refine z_top (st1 := [.int (nI (i_1 + 1)), .ref x]) (congrArg (fun w9 : Int32 => ([.int w9, .ref x] : List Value)) (nI_add i_1 1)) ?_
    refine z_iload_n B dX12_remove_24 rfl 0 rfl ?_
    refine z_callV (As := [.int (nI (i_1 + 1)), .int (nI i_1)]) (rest := []) B (r_copyMessage G l Φl1 sz x rd nw cr tp tt sI sT pt (RlQ qu L i i_1) fl pe le nx il (qu - 1) kn ec nu va st ep ti ad ob ra rt ex sa us tk th me dr se sn (i_1 + 1) i_1 hx hI2 (show (i_1 + 1) < 12 by omega) (show i_1 < 12 by omega) hnw) (cwV 2 B.1.2.2.2.2 gX12_remove_X12_copyMessage rfl rfl rfl (by decide +kernel) ⟨Nat.le_of_ble_eq_true rfl, Nat.le_of_ble_eq_true rfl⟩) h_4 rfl rfl rfl rfl (Nat.le_of_ble_eq_true rfl) dX12_remove_25 ⟨Nat.le_of_ble_eq_true rfl, Nat.le_of_ble_eq_true rfl⟩ (fun r_1 Φ2 sz1 st1 hp1 hs1 => ?_)
    obtain ⟨rfl, hq1, hI4, hF2⟩ := hp1
    subst sz1
    replace hs1 : st1 = [] := hs1
    subst st1
    replace hI4 : Im G x (rd, nw, cr, tp, tt, sI, sT, pt, CpW ((RlQ qu L i i_1)) (i_1 + 1) i_1, fl, pe, le, nx, il, qu - 1, kn, ec, nu, va, st, ep, ti, ad, ob, ra, rt, ex, sa, us, tk, th, me, dr, se, sn) Φ2 := hI4
    refine z_iinc (k := 0) (v := nI (i_1 + 1)) (lv' := [(2, .int (nI (i_1 + 1))), (0, .ref x), (1, .int (nI i))]) B dX12_remove_28 rfl (nI_add i_1 1) (Nat.le_of_ble_eq_true rfl) rfl ?_
    refine z_goto (tgt := 12) B dX12_remove_31 rfl ?_
    refine z_lv [0, 1, 2] rfl ?_
    exact ih1 (i_1 + 1) Φ2 (show 12 - (i_1 + 1) < 12 - i_1 by omega) ⟨(Im.weak5 hI4 (fun _ q9 => q9) (fun _ q9 => q9) (fun _ q9 => q9) (fun _ q9 => q9) (fun _ q9 => q9) (fun _ q9 => q9) (fun _ q9 => q9) (fun _ q9 => q9) (fun _ q9 => RlQ.s (show i_1 + 1 < qu by omega) (show i ≤ i_1 by omega) q9)), (fun b9 h9 => ((hF2 b9 h9).trans ((hF1 b9 h9).trans rfl))), (show (i_1 + 1) ≤ 12 by omega), (show i ≤ (i_1 + 1) by omega), trivial⟩

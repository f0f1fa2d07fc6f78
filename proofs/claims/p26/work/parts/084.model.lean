set_option maxRecDepth 20000 in
theorem ggX12_messageLength_X12_isMessage : GoodIn wsX12_messageLength wsX12_isMessage := (goodIn_ca (goodIn_r _ [7, 8, 9, 10, 6, 11] rfl (by decide +kernel)) (goodIn_sub (fun _ h => List.mem_cons_of_mem _ (List.mem_append_left _ (List.mem_append_right _ h))) gw_wsX120))
set_option maxRecDepth 20000 in
theorem gX12_messageLength_X12_isMessage : GoodIn wsX12_messageLength (wsV RX12 311 RX12 yX12_isMessage wsX12_isMessage) := goodIn_app (goodIn_m (mem_cA (List.mem_cons_of_mem _ (List.mem_append_left _ (List.mem_append_left _ (List.mem_of_getElem? (i := 2) rfl)))) (mem_cA (List.mem_cons_of_mem _ (List.mem_append_left _ (List.mem_append_left _ (List.mem_of_getElem? (i := 3) rfl)))) (mem_cA (List.mem_cons_of_mem _ (List.mem_append_left _ (List.mem_append_left _ (List.mem_of_getElem? (i := 4) rfl)))) (mem_cA (List.mem_cons_of_mem _ (List.mem_append_left _ (List.mem_append_left _ (List.mem_of_getElem? (i := 5) rfl)))) mem_cZ)))) (by decide +kernel)) ggX12_messageLength_X12_isMessage
set_option maxRecDepth 20000 in
theorem ggX12_messageLength_X12_throwsIf : GoodIn wsX12_messageLength wsX12_throwsIf := (goodIn_ca (goodIn_r _ [15, 1] rfl (by decide +kernel)) (goodIn_sub (fun _ h => List.mem_cons_of_mem _ (List.mem_append_left _ (List.mem_append_right _ h))) gw_wsX120))
set_option maxRecDepth 20000 in
theorem gX12_messageLength_X12_throwsIf : GoodIn wsX12_messageLength (wsV RX12 185 RX12 yX12_throwsIf wsX12_throwsIf) := goodIn_app (goodIn_m (mem_cA (List.mem_cons_of_mem _ (List.mem_append_left _ (List.mem_append_left _ (List.mem_of_getElem? (i := 11) rfl)))) (mem_cA (List.mem_cons_of_mem _ (List.mem_append_left _ (List.mem_append_left _ (List.mem_of_getElem? (i := 12) rfl)))) (mem_cA (List.mem_cons_of_mem _ (List.mem_append_left _ (List.mem_append_left _ (List.mem_of_getElem? (i := 13) rfl)))) (mem_cA (List.mem_cons_of_mem _ (List.mem_append_left _ (List.mem_append_left _ (List.mem_of_getElem? (i := 5) rfl)))) mem_cZ)))) (by decide +kernel)) ggX12_messageLength_X12_throwsIf
theorem dX12_messageLength_0 : decode cX12_messageLength 0 = .ok (.aload_n 0, 1) := by decide +kernel
theorem dX12_messageLength_1 : decode cX12_messageLength 1 = .ok (.iconst 0, 1) := by decide +kernel
theorem dX12_messageLength_2 : decode cX12_messageLength 2 = .ok (.putfield 1, 3) := by decide +kernel
theorem dX12_messageLength_5 : decode cX12_messageLength 5 = .ok (.aload_n 0, 1) := by decide +kernel
theorem dX12_messageLength_6 : decode cX12_messageLength 6 = .ok (.aload_n 0, 1) := by decide +kernel
theorem dX12_messageLength_7 : decode cX12_messageLength 7 = .ok (.iload_n 1, 1) := by decide +kernel
theorem dX12_messageLength_8 : decode cX12_messageLength 8 = .ok (.invokevirtual 311, 3) := by decide +kernel
theorem dX12_messageLength_11 : decode cX12_messageLength 11 = .ok (.ifCond .ne 7, 3) := by decide +kernel
theorem dX12_messageLength_14 : decode cX12_messageLength 14 = .ok (.iconst 1, 1) := by decide +kernel
theorem dX12_messageLength_15 : decode cX12_messageLength 15 = .ok (.goto 4, 3) := by decide +kernel
theorem dX12_messageLength_18 : decode cX12_messageLength 18 = .ok (.iconst 0, 1) := by decide +kernel
theorem dX12_messageLength_19 : decode cX12_messageLength 19 = .ok (.iconst 1, 1) := by decide +kernel
theorem dX12_messageLength_20 : decode cX12_messageLength 20 = .ok (.invokevirtual 185, 3) := by decide +kernel
theorem dX12_messageLength_23 : decode cX12_messageLength 23 = .ok (.ifCond .eq 7, 3) := by decide +kernel
theorem dX12_messageLength_26 : decode cX12_messageLength 26 = .ok (.iconst 0, 1) := by decide +kernel
theorem dX12_messageLength_27 : decode cX12_messageLength 27 = .ok (.goto 9, 3) := by decide +kernel
theorem dX12_messageLength_30 : decode cX12_messageLength 30 = .ok (.aload_n 0, 1) := by decide +kernel
theorem dX12_messageLength_31 : decode cX12_messageLength 31 = .ok (.getfield 42, 3) := by decide +kernel
theorem dX12_messageLength_34 : decode cX12_messageLength 34 = .ok (.iload_n 1, 1) := by decide +kernel
theorem dX12_messageLength_35 : decode cX12_messageLength 35 = .ok (.iaload, 1) := by decide +kernel
theorem dX12_messageLength_36 : decode cX12_messageLength 36 = .ok (.ireturn, 1) := by decide +kernel
set_option maxRecDepth 20000 in
theorem ggX12_lose_X12_isMessage : GoodIn wsX12_lose wsX12_isMessage := (goodIn_ca (goodIn_r _ [7, 8, 9, 10, 6, 11] rfl (by decide +kernel)) (goodIn_sub (fun _ h => List.mem_cons_of_mem _ (List.mem_append_left _ (List.mem_append_right _ h))) gw_wsX120))
set_option maxRecDepth 20000 in
theorem gX12_lose_X12_isMessage : GoodIn wsX12_lose (wsV RX12 311 RX12 yX12_isMessage wsX12_isMessage) := goodIn_app (goodIn_m (mem_cA (List.mem_cons_of_mem _ (List.mem_append_left _ (List.mem_append_left _ (List.mem_of_getElem? (i := 2) rfl)))) (mem_cA (List.mem_cons_of_mem _ (List.mem_append_left _ (List.mem_append_left _ (List.mem_of_getElem? (i := 3) rfl)))) (mem_cA (List.mem_cons_of_mem _ (List.mem_append_left _ (List.mem_append_left _ (List.mem_of_getElem? (i := 4) rfl)))) (mem_cA (List.mem_cons_of_mem _ (List.mem_append_left _ (List.mem_append_left _ (List.mem_of_getElem? (i := 5) rfl)))) mem_cZ)))) (by decide +kernel)) ggX12_lose_X12_isMessage
set_option maxRecDepth 20000 in
theorem ggX12_lose_X12_throwsIf : GoodIn wsX12_lose wsX12_throwsIf := (goodIn_ca (goodIn_r _ [15, 1] rfl (by decide +kernel)) (goodIn_sub (fun _ h => List.mem_cons_of_mem _ (List.mem_append_left _ (List.mem_append_right _ h))) gw_wsX120))
set_option maxRecDepth 20000 in
theorem gX12_lose_X12_throwsIf : GoodIn wsX12_lose (wsV RX12 185 RX12 yX12_throwsIf wsX12_throwsIf) := goodIn_app (goodIn_m (mem_cA (List.mem_cons_of_mem _ (List.mem_append_left _ (List.mem_append_left _ (List.mem_of_getElem? (i := 11) rfl)))) (mem_cA (List.mem_cons_of_mem _ (List.mem_append_left _ (List.mem_append_left _ (List.mem_of_getElem? (i := 12) rfl)))) (mem_cA (List.mem_cons_of_mem _ (List.mem_append_left _ (List.mem_append_left _ (List.mem_of_getElem? (i := 13) rfl)))) (mem_cA (List.mem_cons_of_mem _ (List.mem_append_left _ (List.mem_append_left _ (List.mem_of_getElem? (i := 5) rfl)))) mem_cZ)))) (by decide +kernel)) ggX12_lose_X12_throwsIf
set_option maxRecDepth 20000 in
theorem ggX12_lose_X12_remove : GoodIn wsX12_lose wsX12_remove := goodIn_ca ((goodIn_ca (goodIn_r _ [19, 8, 20, 21, 22, 6, 23, 24, 2] rfl (by decide +kernel)) (goodIn_sub (fun _ h => List.mem_cons_of_mem _ (List.mem_append_left _ (List.mem_append_right _ h))) gw_wsX120))) (goodIn_sub (fun _ h => List.mem_cons_of_mem _ (List.mem_append_right _ h)) (all_fg _))
set_option maxRecDepth 20000 in
theorem gX12_lose_X12_remove : GoodIn wsX12_lose (wsV RX12 317 RX12 yX12_remove wsX12_remove) := goodIn_app (goodIn_m (mem_cA (List.mem_cons_of_mem _ (List.mem_append_left _ (List.mem_append_left _ (List.mem_of_getElem? (i := 15) rfl)))) (mem_cA (List.mem_cons_of_mem _ (List.mem_append_left _ (List.mem_append_left _ (List.mem_of_getElem? (i := 16) rfl)))) (mem_cA (List.mem_cons_of_mem _ (List.mem_append_left _ (List.mem_append_left _ (List.mem_of_getElem? (i := 17) rfl)))) (mem_cA (List.mem_cons_of_mem _ (List.mem_append_left _ (List.mem_append_left _ (List.mem_of_getElem? (i := 5) rfl)))) mem_cZ)))) (by decide +kernel)) ggX12_lose_X12_remove
theorem dX12_lose_0 : decode cX12_lose 0 = .ok (.aload_n 0, 1) := by decide +kernel
theorem dX12_lose_1 : decode cX12_lose 1 = .ok (.iconst 0, 1) := by decide +kernel
theorem dX12_lose_2 : decode cX12_lose 2 = .ok (.putfield 1, 3) := by decide +kernel
theorem dX12_lose_5 : decode cX12_lose 5 = .ok (.aload_n 0, 1) := by decide +kernel
theorem dX12_lose_6 : decode cX12_lose 6 = .ok (.aload_n 0, 1) := by decide +kernel
theorem dX12_lose_7 : decode cX12_lose 7 = .ok (.iload_n 1, 1) := by decide +kernel
theorem dX12_lose_8 : decode cX12_lose 8 = .ok (.invokevirtual 311, 3) := by decide +kernel
theorem dX12_lose_11 : decode cX12_lose 11 = .ok (.ifCond .ne 7, 3) := by decide +kernel
theorem dX12_lose_14 : decode cX12_lose 14 = .ok (.iconst 1, 1) := by decide +kernel
theorem dX12_lose_15 : decode cX12_lose 15 = .ok (.goto 4, 3) := by decide +kernel
theorem dX12_lose_18 : decode cX12_lose 18 = .ok (.iconst 0, 1) := by decide +kernel
theorem dX12_lose_19 : decode cX12_lose 19 = .ok (.iconst 1, 1) := by decide +kernel
theorem dX12_lose_20 : decode cX12_lose 20 = .ok (.invokevirtual 185, 3) := by decide +kernel
theorem dX12_lose_23 : decode cX12_lose 23 = .ok (.ifCond .eq 5, 3) := by decide +kernel
theorem dX12_lose_26 : decode cX12_lose 26 = .ok (.iconst 0, 1) := by decide +kernel
theorem dX12_lose_27 : decode cX12_lose 27 = .ok (.ireturn, 1) := by decide +kernel
theorem dX12_lose_28 : decode cX12_lose 28 = .ok (.aload_n 0, 1) := by decide +kernel
theorem dX12_lose_29 : decode cX12_lose 29 = .ok (.getfield 42, 3) := by decide +kernel
theorem dX12_lose_32 : decode cX12_lose 32 = .ok (.iload_n 1, 1) := by decide +kernel
theorem dX12_lose_33 : decode cX12_lose 33 = .ok (.iaload, 1) := by decide +kernel
theorem dX12_lose_34 : decode cX12_lose 34 = .ok (.istore_n 2, 1) := by decide +kernel
theorem dX12_lose_35 : decode cX12_lose 35 = .ok (.aload_n 0, 1) := by decide +kernel
theorem dX12_lose_36 : decode cX12_lose 36 = .ok (.iload_n 1, 1) := by decide +kernel
theorem dX12_lose_37 : decode cX12_lose 37 = .ok (.invokevirtual 317, 3) := by decide +kernel
theorem dX12_lose_40 : decode cX12_lose 40 = .ok (.iload_n 2, 1) := by decide +kernel
theorem dX12_lose_41 : decode cX12_lose 41 = .ok (.ireturn, 1) := by decide +kernel
set_option maxRecDepth 20000 in
theorem ggX12_duplicate_X12_isMessage : GoodIn wsX12_duplicate wsX12_isMessage := (goodIn_ca (goodIn_r _ [7, 2, 8, 9, 6, 10] rfl (by decide +kernel)) (goodIn_sub (fun _ h => List.mem_cons_of_mem _ (List.mem_append_left _ (List.mem_append_right _ h))) gw_wsX120))
set_option maxRecDepth 20000 in
theorem gX12_duplicate_X12_isMessage : GoodIn wsX12_duplicate (wsV RX12 311 RX12 yX12_isMessage wsX12_isMessage) := goodIn_app (goodIn_m (mem_cA (List.mem_cons_of_mem _ (List.mem_append_left _ (List.mem_append_left _ (List.mem_of_getElem? (i := 2) rfl)))) (mem_cA (List.mem_cons_of_mem _ (List.mem_append_left _ (List.mem_append_left _ (List.mem_of_getElem? (i := 3) rfl)))) (mem_cA (List.mem_cons_of_mem _ (List.mem_append_left _ (List.mem_append_left _ (List.mem_of_getElem? (i := 4) rfl)))) (mem_cA (List.mem_cons_of_mem _ (List.mem_append_left _ (List.mem_append_left _ (List.mem_of_getElem? (i := 5) rfl)))) mem_cZ)))) (by decide +kernel)) ggX12_duplicate_X12_isMessage
set_option maxRecDepth 20000 in
theorem ggX12_duplicate_X12_throwsIf : GoodIn wsX12_duplicate wsX12_throwsIf := (goodIn_ca (goodIn_r _ [14, 1] rfl (by decide +kernel)) (goodIn_sub (fun _ h => List.mem_cons_of_mem _ (List.mem_append_left _ (List.mem_append_right _ h))) gw_wsX120))
set_option maxRecDepth 20000 in
theorem gX12_duplicate_X12_throwsIf : GoodIn wsX12_duplicate (wsV RX12 185 RX12 yX12_throwsIf wsX12_throwsIf) := goodIn_app (goodIn_m (mem_cA (List.mem_cons_of_mem _ (List.mem_append_left _ (List.mem_append_left _ (List.mem_of_getElem? (i := 10) rfl)))) (mem_cA (List.mem_cons_of_mem _ (List.mem_append_left _ (List.mem_append_left _ (List.mem_of_getElem? (i := 11) rfl)))) (mem_cA (List.mem_cons_of_mem _ (List.mem_append_left _ (List.mem_append_left _ (List.mem_of_getElem? (i := 12) rfl)))) (mem_cA (List.mem_cons_of_mem _ (List.mem_append_left _ (List.mem_append_left _ (List.mem_of_getElem? (i := 5) rfl)))) mem_cZ)))) (by decide +kernel)) ggX12_duplicate_X12_throwsIf
set_option maxRecDepth 20000 in
theorem ggX12_duplicate_X12_copyMessage : GoodIn wsX12_duplicate wsX12_copyMessage := goodIn_ca ((goodIn_ca (goodIn_r _ [18, 19, 20] rfl (by decide +kernel)) (goodIn_sub (fun _ h => List.mem_cons_of_mem _ (List.mem_append_left _ (List.mem_append_right _ h))) gw_wsX120))) (goodIn_sub (fun _ h => List.mem_cons_of_mem _ (List.mem_append_right _ h)) (all_fg _))
set_option maxRecDepth 20000 in
theorem gX12_duplicate_X12_copyMessage : GoodIn wsX12_duplicate (wsV RX12 314 RX12 yX12_copyMessage wsX12_copyMessage) := goodIn_app (goodIn_m (mem_cA (List.mem_cons_of_mem _ (List.mem_append_left _ (List.mem_append_left _ (List.mem_of_getElem? (i := 14) rfl)))) (mem_cA (List.mem_cons_of_mem _ (List.mem_append_left _ (List.mem_append_left _ (List.mem_of_getElem? (i := 15) rfl)))) (mem_cA (List.mem_cons_of_mem _ (List.mem_append_left _ (List.mem_append_left _ (List.mem_of_getElem? (i := 16) rfl)))) (mem_cA (List.mem_cons_of_mem _ (List.mem_append_left _ (List.mem_append_left _ (List.mem_of_getElem? (i := 5) rfl)))) mem_cZ)))) (by decide +kernel)) ggX12_duplicate_X12_copyMessage
theorem dX12_duplicate_0 : decode cX12_duplicate 0 = .ok (.aload_n 0, 1) := by decide +kernel
theorem dX12_duplicate_1 : decode cX12_duplicate 1 = .ok (.iconst 0, 1) := by decide +kernel
theorem dX12_duplicate_2 : decode cX12_duplicate 2 = .ok (.putfield 1, 3) := by decide +kernel
theorem dX12_duplicate_5 : decode cX12_duplicate 5 = .ok (.aload_n 0, 1) := by decide +kernel
theorem dX12_duplicate_6 : decode cX12_duplicate 6 = .ok (.aload_n 0, 1) := by decide +kernel
theorem dX12_duplicate_7 : decode cX12_duplicate 7 = .ok (.iload_n 1, 1) := by decide +kernel
theorem dX12_duplicate_8 : decode cX12_duplicate 8 = .ok (.invokevirtual 311, 3) := by decide +kernel
theorem dX12_duplicate_11 : decode cX12_duplicate 11 = .ok (.ifCond .ne 7, 3) := by decide +kernel
theorem dX12_duplicate_14 : decode cX12_duplicate 14 = .ok (.iconst 1, 1) := by decide +kernel
theorem dX12_duplicate_15 : decode cX12_duplicate 15 = .ok (.goto 4, 3) := by decide +kernel
theorem dX12_duplicate_18 : decode cX12_duplicate 18 = .ok (.iconst 0, 1) := by decide +kernel
theorem dX12_duplicate_19 : decode cX12_duplicate 19 = .ok (.iconst 1, 1) := by decide +kernel
theorem dX12_duplicate_20 : decode cX12_duplicate 20 = .ok (.invokevirtual 185, 3) := by decide +kernel
theorem dX12_duplicate_23 : decode cX12_duplicate 23 = .ok (.ifCond .ne 12, 3) := by decide +kernel
theorem dX12_duplicate_26 : decode cX12_duplicate 26 = .ok (.aload_n 0, 1) := by decide +kernel
theorem dX12_duplicate_27 : decode cX12_duplicate 27 = .ok (.getfield 139, 3) := by decide +kernel
theorem dX12_duplicate_30 : decode cX12_duplicate 30 = .ok (.bipush 12, 2) := by decide +kernel
theorem dX12_duplicate_32 : decode cX12_duplicate 32 = .ok (.if_icmp .ne 5, 3) := by decide +kernel
theorem dX12_duplicate_35 : decode cX12_duplicate 35 = .ok (.iconst 0, 1) := by decide +kernel
theorem dX12_duplicate_36 : decode cX12_duplicate 36 = .ok (.ireturn, 1) := by decide +kernel
theorem dX12_duplicate_37 : decode cX12_duplicate 37 = .ok (.aload_n 0, 1) := by decide +kernel
theorem dX12_duplicate_38 : decode cX12_duplicate 38 = .ok (.iload_n 1, 1) := by decide +kernel
theorem dX12_duplicate_39 : decode cX12_duplicate 39 = .ok (.aload_n 0, 1) := by decide +kernel
theorem dX12_duplicate_40 : decode cX12_duplicate 40 = .ok (.getfield 139, 3) := by decide +kernel
theorem dX12_duplicate_43 : decode cX12_duplicate 43 = .ok (.invokevirtual 314, 3) := by decide +kernel
theorem dX12_duplicate_46 : decode cX12_duplicate 46 = .ok (.aload_n 0, 1) := by decide +kernel
theorem dX12_duplicate_47 : decode cX12_duplicate 47 = .ok (.dup, 1) := by decide +kernel
theorem dX12_duplicate_48 : decode cX12_duplicate 48 = .ok (.getfield 139, 3) := by decide +kernel
theorem dX12_duplicate_51 : decode cX12_duplicate 51 = .ok (.iconst 1, 1) := by decide +kernel
theorem dX12_duplicate_52 : decode cX12_duplicate 52 = .ok (.iadd, 1) := by decide +kernel
theorem dX12_duplicate_53 : decode cX12_duplicate 53 = .ok (.putfield 139, 3) := by decide +kernel
theorem dX12_duplicate_56 : decode cX12_duplicate 56 = .ok (.iconst 1, 1) := by decide +kernel
theorem dX12_duplicate_57 : decode cX12_duplicate 57 = .ok (.ireturn, 1) := by decide +kernel
set_option maxHeartbeats 4000000 in
set_option maxRecDepth 100000 in
theorem r_isMessageX (G : EnvG) (l : Launch) (Φ : Hm) (sz x : Nat) (rd : (Nat → Int32) → Prop) (nw : (Nat → Int32) → Prop) (cr : (Nat → Int64) → Prop) (tp : (Nat → Int32) → Prop) (tt : (Nat → Int64) → Prop) (sI : (Nat → Int32) → Prop) (sT : (Nat → Int32) → Prop) (pt : (Nat → Int32) → Prop) (ql : (Nat → Int32) → Prop) (fl : Nat) (pe : Nat) (le : Nat) (nx : Nat) (il : Nat) (qu : Nat) (kn : Int32) (ec : Int32) (nu : Int32) (va : Int64) (st : Nat) (ep : Int32) (ti : Int32) (ad : Int32) (ob : Int64) (ra : Int32) (rt : Nat) (ex : Int32) (sa : Int64) (us : Int64) (tk : Nat) (th : Int32) (me : Int32) (dr : Int32) (se : Int64) (sn : Int64) (a : Int32) (hx : G.2.2.2 ≤ x) (hI : Im G x (rd, nw, cr, tp, tt, sI, sT, pt, ql, fl, pe, le, nx, il, qu, kn, ec, nu, va, st, ep, ti, ad, ob, ra, rt, ex, sa, us, tk, th, me, dr, se, sn) Φ) (hnw : ∀ f9 : Nat → Int32, nw f9 → NN f9) : Ct G l yX12_isMessage wsX12_isMessage ({ frames := 1, cells := 0, slots := 0, locals := 25 }) 0 0 [.ref x, .int a] Φ sz (fun v Φ1 sz1 => ((v = some (.int 0) ∧ ¬ InQ qu a) ∨ (v = some (.int 1) ∧ ∃ n9 : Nat, n9 < qu ∧ a = nI n9 ∧ InQ qu a)) ∧ sz1 = sz ∧ (Im G x (rd, nw, cr, tp, tt, sI, sT, pt, ql, fl, pe, le, nx, il, qu, kn, ec, nu, va, st, ep, ti, ad, ob, ra, rt, ex, sa, us, tk, th, me, dr, se, sn) Φ1) ∧ Fr x (fun j9 => False) Φ Φ1) := by
  refine Ct.of (cc := cX12_isMessage) (maxL := 2) (ret := (some .boolean)) (by decide) rfl (Nat.le_of_ble_eq_true rfl) ?_
  intro p9 e9 s9 m9 w9 t9 k9 B
  show Z p9 l e9 _ s9 m9 _ w9 t9 k9 _ G 2 0 [(0, .ref x), (1, .int a)] [] Φ sz 0 0
  refine z_iload_n B dX12_isMessage_0 rfl 1 rfl ?_
  refine z_i2l (v := a.toInt64) B dX12_isMessage_1 rfl ?_
  refine z_lconst (v := 0) B dX12_isMessage_2 rfl ?_
  refine z_aload_n B dX12_isMessage_3 rfl 0 rfl ?_
  obtain ⟨n_1, v_1, n_2, h_1, b_13, b_1, b_2, b_3, b_4, b_5, b_6, b_7, b_8, b_9, b_10, b_11, b_12⟩ := im0 hI
  replace b_1 : 1 ≤ rt := b_1
  replace b_2 : rt ≤ 1024 := b_2
  replace b_3 : fl ≤ 12 := b_3
  replace b_4 : pe ≤ 24 := b_4
  replace b_5 : le ≤ 700 := b_5
  replace b_6 : qu ≤ 12 := b_6
  replace b_7 : n_1 ≤ 8 := b_7
  replace b_8 : n_2 ≤ 24 := b_8
  replace b_9 : tk ≤ 24 := b_9
  replace b_10 : il ≤ 700 := b_10
  replace b_11 : nx ≤ 701 := b_11
  replace b_12 : st ≤ 701 := b_12
  have h_2 : Φ x = some (o_ 14 [.int th, .ref (x + 1), .ref (x + 2), .int ti, .int ra, .int (nI rt), .int ex, .int ad, .ref (x + 3), .ref (x + 4), .int me, .long se, .ref (x + 5), .int (nI fl), .int dr, .long ob, .long sa, .long sn, .long us, .ref (x + 6), .ref (x + 7), .int (nI pe), .ref (x + 8), .int (nI le), .ref (x + 9), .ref (x + 10), .int (nI qu), .ref (x + 11), .ref (x + 12), .ref (x + 13), .ref (x + 14), .ref (x + 15), .ref (x + 16), .int (nI n_1), .long v_1, .ref (x + 17), .ref (x + 18), .ref (x + 19), .ref (x + 20), .ref (x + 21), .ref (x + 22), .int (nI n_2), .ref (x + 23), .ref (x + 24), .int (nI tk), .ref (x + 25), .int (nI il), .int (nI nx), .int ec, .int ep, .int kn, .int (nI st), .int nu, .long va]) := h_1
  refine z_get (ref := "FlowExporterModel") (C := RX12) (T := TX12) (N := 54) (ci := 14) (v := .int (nI qu)) B hu_X12_isMessage_X12 rfl 26 (Nat.le_of_ble_eq_true rfl) hv_X12_isMessage_139 rfl h_2 rfl dX12_isMessage_4 ?_
  refine z_iconst (v := 1) B dX12_isMessage_7 rfl ?_
  refine z_isub B dX12_isMessage_8 ?_
  refine z_i2l (v := (nI qu - 1).toInt64) B dX12_isMessage_9 rfl ?_
  by_cases hR1 : inP a.toInt64 0 ((nI qu - 1).toInt64)
  · obtain ⟨n_3, e_1, e_2, e_3, rfl⟩ := in_get (L := 0) (H := ((qu : Nat) : Int) - 1) (by decide) (predL (by omega)) hR1
    refine z_callS (As := [.long ((nI n_3).toInt64), .long 0, .long ((nI qu - 1).toInt64)]) (rest := []) B (c_inR1 G l Φ sz ((nI n_3).toInt64) 0 ((nI qu - 1).toInt64) hR1 (fun v8 Φ8 sz8 => v8 = some (.int 1) ∧ sz8 = sz ∧ Im G x (rd, nw, cr, tp, tt, sI, sT, pt, ql, fl, pe, le, nx, il, qu, kn, ec, nu, va, st, ep, ti, ad, ob, ra, rt, ex, sa, us, tk, th, me, dr, se, sn) Φ8 ∧ Fr x (fun j9 => False) Φ Φ8) ⟨rfl, rfl, hI, fun _ _ => rfl⟩) (va_cwS 3 B.1.2.2.2.2 gX12_isMessage_X12_inRange rfl rfl rfl (by decide +kernel) ⟨Nat.le_of_ble_eq_true rfl, Nat.le_of_ble_eq_true rfl⟩) rfl rfl (Nat.le_of_ble_eq_true rfl) dX12_isMessage_10 ⟨Nat.le_of_ble_eq_true rfl, Nat.le_of_ble_eq_true rfl⟩ (fun r_1 Φ1 sz1 st1 hp1 hs1 => ?_)
    obtain ⟨rfl, hq1, hI1, hF1⟩ := hp1
    subst sz1
    replace hs1 : st1 = [.int 1] := hs1
    subst st1
    exact z_ret_z B dX12_isMessage_13 (by decide) ⟨(Or.inr ⟨rfl, n_3, (show n_3 < qu by omega), rfl, InQ_i (by omega) (by omega)⟩), rfl, hI1, (fun b9 h9 => ((hF1 b9 (fun j9 h8 h7 => (show False from h7).elim)).trans rfl))⟩
  · refine z_callS (As := [.long a.toInt64, .long 0, .long ((nI qu - 1).toInt64)]) (rest := []) B (c_inR0 G l Φ sz a.toInt64 0 ((nI qu - 1).toInt64) hR1 (fun v8 Φ8 sz8 => v8 = some (.int 0) ∧ sz8 = sz ∧ Im G x (rd, nw, cr, tp, tt, sI, sT, pt, ql, fl, pe, le, nx, il, qu, kn, ec, nu, va, st, ep, ti, ad, ob, ra, rt, ex, sa, us, tk, th, me, dr, se, sn) Φ8 ∧ Fr x (fun j9 => False) Φ Φ8) ⟨rfl, rfl, hI, fun _ _ => rfl⟩) (va_cwS 3 B.1.2.2.2.2 gX12_isMessage_X12_inRange rfl rfl rfl (by decide +kernel) ⟨Nat.le_of_ble_eq_true rfl, Nat.le_of_ble_eq_true rfl⟩) rfl rfl (Nat.le_of_ble_eq_true rfl) dX12_isMessage_10 ⟨Nat.le_of_ble_eq_true rfl, Nat.le_of_ble_eq_true rfl⟩ (fun r_2 Φ2 sz2 st2 hp2 hs2 => ?_)
    obtain ⟨rfl, hq2, hI2, hF2⟩ := hp2
    subst sz2
    replace hs2 : st2 = [.int 0] := hs2
    subst st2
    exact z_ret_z B dX12_isMessage_13 (by decide) ⟨(Or.inl ⟨rfl, fun h7 => by obtain ⟨n9, h8, h9⟩ := InQ_n h7; exact hR1 (by subst h9; exact (in_nat (m := n9) (L := 0) (H := ((qu : Nat) : Int) - 1) (by decide) (predL (by omega)) (by omega)).mpr ⟨by omega, by omega⟩)⟩), rfl, hI2, (fun b9 h9 => ((hF2 b9 (fun j9 h8 h7 => (show False from h7).elim)).trans rfl))⟩

theorem hu_X12_messageLength_X12 : ∀ w ∈ u_ws RX12 TX12 54, w ∈ wsX12_messageLength := fun _ h => List.mem_cons_of_mem _ (List.mem_append_left _ (List.mem_append_right _ (h)))

theorem hv_X12_messageLength_1 : Cond.fieldLink RX12 1 "FlowExporterModel" (TX12 0).2.1 (TX12 0).2.2.1 ∈ wsX12_messageLength := List.mem_cons_of_mem _ (List.mem_append_left _ (List.mem_append_left _ (List.mem_of_getElem? (i := 0) rfl)))

theorem hv_X12_messageLength_42 : Cond.fieldLink RX12 42 "FlowExporterModel" (TX12 25).2.1 (TX12 25).2.2.1 ∈ wsX12_messageLength := List.mem_cons_of_mem _ (List.mem_append_left _ (List.mem_append_left _ (List.mem_of_getElem? (i := 1) rfl)))

set_option maxHeartbeats 4000000 in
set_option maxRecDepth 100000 in
theorem r_messageLength (G : EnvG) (l : Launch) (Φ : Hm) (sz x : Nat) (rd : (Nat → Int32) → Prop) (nw : (Nat → Int32) → Prop) (cr : (Nat → Int64) → Prop) (tp : (Nat → Int32) → Prop) (tt : (Nat → Int64) → Prop) (sI : (Nat → Int32) → Prop) (sT : (Nat → Int32) → Prop) (pt : (Nat → Int32) → Prop) (fl : Nat) (pe : Nat) (le : Nat) (nx : Nat) (il : Nat) (qu : Nat) (kn : Int32) (ec : Int32) (nu : Int32) (va : Int64) (st : Nat) (ep : Int32) (ti : Int32) (ad : Int32) (ob : Int64) (ra : Int32) (rt : Nat) (ex : Int32) (sa : Int64) (us : Int64) (tk : Nat) (th : Int32) (me : Int32) (dr : Int32) (se : Int64) (sn : Int64) (L : Nat → Nat) (a : Int32) (hx : G.2.2.2 ≤ x) (hI : Im G x (rd, nw, cr, tp, tt, sI, sT, pt, (QlQ qu L), fl, pe, le, nx, il, qu, kn, ec, nu, va, st, ep, ti, ad, ob, ra, rt, ex, sa, us, tk, th, me, dr, se, sn) Φ) (hnw : ∀ f9 : Nat → Int32, nw f9 → NN f9) : Ct G l yX12_messageLength wsX12_messageLength ({ frames := 2, cells := 0, slots := 0, locals := 46 }) 0 0 [.ref x, .int a] Φ sz (fun v Φ1 sz1 => (∃ (r9 th9 : Int32) (l9 : List Value), v = some (.int r9) ∧ Φ1 x = some (o_ 14 (.int th9 :: l9)) ∧ AnsR (InQ qu a) True (nI (L a.toNatClampNeg)).toInt64 th9 r9.toInt64) ∧ sz1 = sz ∧ (∃ (th1 : Int32), Im G x (rd, nw, cr, tp, tt, sI, sT, pt, (QlQ qu L), fl, pe, le, nx, il, qu, kn, ec, nu, va, st, ep, ti, ad, ob, ra, rt, ex, sa, us, tk, th1, me, dr, se, sn) Φ1) ∧ Fr x (fun j9 => j9 = 0) Φ Φ1) := by
  refine Ct.of (cc := cX12_messageLength) (maxL := 2) (ret := (some .int)) (by decide) rfl (Nat.le_of_ble_eq_true rfl) ?_
  intro p9 e9 s9 m9 w9 t9 k9 B
  show Z p9 l e9 _ s9 m9 _ w9 t9 k9 _ G 2 0 [(0, .ref x), (1, .int a)] [] Φ sz 0 0
  refine z_aload_n B dX12_messageLength_0 rfl 0 rfl ?_
  refine z_iconst (v := 0) B dX12_messageLength_1 rfl ?_
  obtain ⟨n_1, v_1, n_2, h_1, b_13, b_1, b_2, b_3, b_4, b_5, b_6, b_7, b_8, b_9, b_10, b_11, b_12⟩ := im0 hI
  replace b_1 : 1 ≤ rt := b_1
  replace b_2 : rt ≤ 1024 := b_2
  replace b_3 : fl ≤ 12 := b_3
  replace b_4 : pe ≤ 24 := b_4
  replace b_5 : le ≤ 700 := b_5
  replace b_6 : qu ≤ 12 := b_6
  replace b_7 : n_1 ≤ 8 := b_7
  replace b_8 : n_2 ≤ 24 := b_8
  replace b_9 : tk ≤ 24 := b_9
  replace b_10 : il ≤ 700 := b_10
  replace b_11 : nx ≤ 701 := b_11
  replace b_12 : st ≤ 701 := b_12
  have h_2 : Φ x = some (o_ 14 [.int th, .ref (x + 1), .ref (x + 2), .int ti, .int ra, .int (nI rt), .int ex, .int ad, .ref (x + 3), .ref (x + 4), .int me, .long se, .ref (x + 5), .int (nI fl), .int dr, .long ob, .long sa, .long sn, .long us, .ref (x + 6), .ref (x + 7), .int (nI pe), .ref (x + 8), .int (nI le), .ref (x + 9), .ref (x + 10), .int (nI qu), .ref (x + 11), .ref (x + 12), .ref (x + 13), .ref (x + 14), .ref (x + 15), .ref (x + 16), .int (nI n_1), .long v_1, .ref (x + 17), .ref (x + 18), .ref (x + 19), .ref (x + 20), .ref (x + 21), .ref (x + 22), .int (nI n_2), .ref (x + 23), .ref (x + 24), .int (nI tk), .ref (x + 25), .int (nI il), .int (nI nx), .int ec, .int ep, .int kn, .int (nI st), .int nu, .long va]) := h_1
  refine z_put (ref := "FlowExporterModel") (C := RX12) (T := TX12) (N := 54) (ci := 14) (v := .int 0) B hu_X12_messageLength_X12 tyX12 tyX12_ok nmX12 rfl 0 (Nat.le_of_ble_eq_true rfl) hv_X12_messageLength_1 rfl (Or.inl rfl) h_2 hx rfl rfl (Nat.le_of_ble_eq_true rfl) dX12_messageLength_2 (fun Φ1 hΦ1 => ?_)
  have h_3 : Φ1 x = some (o_ 14 [.int 0, .ref (x + 1), .ref (x + 2), .int ti, .int ra, .int (nI rt), .int ex, .int ad, .ref (x + 3), .ref (x + 4), .int me, .long se, .ref (x + 5), .int (nI fl), .int dr, .long ob, .long sa, .long sn, .long us, .ref (x + 6), .ref (x + 7), .int (nI pe), .ref (x + 8), .int (nI le), .ref (x + 9), .ref (x + 10), .int (nI qu), .ref (x + 11), .ref (x + 12), .ref (x + 13), .ref (x + 14), .ref (x + 15), .ref (x + 16), .int (nI n_1), .long v_1, .ref (x + 17), .ref (x + 18), .ref (x + 19), .ref (x + 20), .ref (x + 21), .ref (x + 22), .int (nI n_2), .ref (x + 23), .ref (x + 24), .int (nI tk), .ref (x + 25), .int (nI il), .int (nI nx), .int ec, .int ep, .int kn, .int (nI st), .int nu, .long va]) := fset_at hΦ1
  have hI1 : Im G x (rd, nw, cr, tp, tt, sI, sT, pt, (QlQ qu L), fl, pe, le, nx, il, qu, kn, ec, nu, va, st, ep, ti, ad, ob, ra, rt, ex, sa, us, tk, 0, me, dr, se, sn) Φ1 := Im.put0 hI hΦ1 ⟨n_1, v_1, n_2, rfl, b_13, b_1, b_2, b_3, b_4, b_5, b_6, b_7, b_8, b_9, b_10, b_11, b_12⟩
  refine z_aload_n B dX12_messageLength_5 rfl 0 rfl ?_
  refine z_aload_n B dX12_messageLength_6 rfl 0 rfl ?_
  refine z_iload_n B dX12_messageLength_7 rfl 1 rfl ?_
  refine z_callV (As := [.int a]) (rest := [.ref x]) B (r_isMessageX G l Φ1 sz x rd nw cr tp tt sI sT pt (QlQ qu L) fl pe le nx il qu kn ec nu va st ep ti ad ob ra rt ex sa us tk 0 me dr se sn a hx hI1 hnw) (cwV 1 B.1.2.2.2.2 gX12_messageLength_X12_isMessage rfl rfl rfl (by decide +kernel) ⟨Nat.le_of_ble_eq_true rfl, Nat.le_of_ble_eq_true rfl⟩) h_3 rfl rfl rfl rfl (Nat.le_of_ble_eq_true rfl) dX12_messageLength_8 ⟨Nat.le_of_ble_eq_true rfl, Nat.le_of_ble_eq_true rfl⟩ (fun r_1 Φ2 sz1 st1 hp1 hs1 => ?_)
  obtain ⟨ha1, hq1, hI2, hF1⟩ := hp1
  subst sz1
  replace hI2 : Im G x (rd, nw, cr, tp, tt, sI, sT, pt, (QlQ qu L), fl, pe, le, nx, il, qu, kn, ec, nu, va, st, ep, ti, ad, ob, ra, rt, ex, sa, us, tk, 0, me, dr, se, sn) Φ2 := hI2
  rcases ha1 with ⟨rfl, hq2⟩ | ⟨rfl, n_3, b_14, rfl, hq3⟩
  · replace hs1 : st1 = [.int 0, .ref x] := hs1
    subst st1
    refine z_if_ne (tgt := 18) B dX12_messageLength_11 rfl (fun h9 => absurd (by decide) h9) (fun c_1 => ?_)
    refine z_iconst (v := 1) B dX12_messageLength_14 rfl ?_
    refine z_goto (tgt := 19) B dX12_messageLength_15 rfl ?_
    refine z_iconst (v := 1) B dX12_messageLength_19 rfl ?_
    have h_4 : Φ2 x = some (o_ 14 [.int 0, .ref (x + 1), .ref (x + 2), .int ti, .int ra, .int (nI rt), .int ex, .int ad, .ref (x + 3), .ref (x + 4), .int me, .long se, .ref (x + 5), .int (nI fl), .int dr, .long ob, .long sa, .long sn, .long us, .ref (x + 6), .ref (x + 7), .int (nI pe), .ref (x + 8), .int (nI le), .ref (x + 9), .ref (x + 10), .int (nI qu), .ref (x + 11), .ref (x + 12), .ref (x + 13), .ref (x + 14), .ref (x + 15), .ref (x + 16), .int (nI n_1), .long v_1, .ref (x + 17), .ref (x + 18), .ref (x + 19), .ref (x + 20), .ref (x + 21), .ref (x + 22), .int (nI n_2), .ref (x + 23), .ref (x + 24), .int (nI tk), .ref (x + 25), .int (nI il), .int (nI nx), .int ec, .int ep, .int kn, .int (nI st), .int nu, .long va]) := ((hF1 x (fun j9 h8 h7 => (show False from h7).elim)).trans h_3)
    refine z_callV (As := [.int 1, .int 1]) (rest := []) B (r_throwsIf1 G l Φ2 sz x rd nw cr tp tt sI sT pt (QlQ qu L) fl pe le nx il qu kn ec nu va st ep ti ad ob ra rt ex sa us tk 0 me dr se sn  hx hI2 hnw) (cwV 2 B.1.2.2.2.2 gX12_messageLength_X12_throwsIf rfl rfl rfl (by decide +kernel) ⟨Nat.le_of_ble_eq_true rfl, Nat.le_of_ble_eq_true rfl⟩) h_4 rfl rfl rfl rfl (Nat.le_of_ble_eq_true rfl) dX12_messageLength_20 ⟨Nat.le_of_ble_eq_true rfl, Nat.le_of_ble_eq_true rfl⟩ (fun r_2 Φ3 sz2 st2 hp2 hs2 => ?_)
    obtain ⟨⟨rfl, l_1, h_5⟩, hq4, hI3, hF2⟩ := hp2
    subst sz2
    replace hs2 : st2 = [.int 1] := hs2
    subst st2
    replace hI3 : Im G x (rd, nw, cr, tp, tt, sI, sT, pt, (QlQ qu L), fl, pe, le, nx, il, qu, kn, ec, nu, va, st, ep, ti, ad, ob, ra, rt, ex, sa, us, tk, 1, me, dr, se, sn) Φ3 := hI3
    refine z_if_eq (tgt := 30) B dX12_messageLength_23 rfl (fun h9 => absurd h9 (by decide)) (fun c_2 => ?_)
    refine z_iconst (v := 0) B dX12_messageLength_26 rfl ?_
    refine z_goto (tgt := 36) B dX12_messageLength_27 rfl ?_
    exact z_ret_i B dX12_messageLength_36 ⟨⟨0, 1, l_1, rfl, h_5, Or.inr (Or.inl ⟨hq2, rfl⟩)⟩, rfl, ⟨1, hI3⟩, (fun b9 h9 => ((hF2 b9 h9).trans ((hF1 b9 (fun j9 h8 h7 => (show False from h7).elim)).trans ((fset_fr hΦ1 (fun h8 => h9 (0) h8 (show 0 = 0 by decide))).trans rfl))))⟩
  · replace hs1 : st1 = [.int 1, .ref x] := hs1
    subst st1
    replace b_14 : n_3 < qu := b_14
    refine z_if_ne (tgt := 18) B dX12_messageLength_11 rfl (fun c_3 => ?_) (fun h9 => absurd h9 (by decide))
    refine z_iconst (v := 0) B dX12_messageLength_18 rfl ?_
    refine z_iconst (v := 1) B dX12_messageLength_19 rfl ?_
    have h_6 : Φ2 x = some (o_ 14 [.int 0, .ref (x + 1), .ref (x + 2), .int ti, .int ra, .int (nI rt), .int ex, .int ad, .ref (x + 3), .ref (x + 4), .int me, .long se, .ref (x + 5), .int (nI fl), .int dr, .long ob, .long sa, .long sn, .long us, .ref (x + 6), .ref (x + 7), .int (nI pe), .ref (x + 8), .int (nI le), .ref (x + 9), .ref (x + 10), .int (nI qu), .ref (x + 11), .ref (x + 12), .ref (x + 13), .ref (x + 14), .ref (x + 15), .ref (x + 16), .int (nI n_1), .long v_1, .ref (x + 17), .ref (x + 18), .ref (x + 19), .ref (x + 20), .ref (x + 21), .ref (x + 22), .int (nI n_2), .ref (x + 23), .ref (x + 24), .int (nI tk), .ref (x + 25), .int (nI il), .int (nI nx), .int ec, .int ep, .int kn, .int (nI st), .int nu, .long va]) := ((hF1 x (fun j9 h8 h7 => (show False from h7).elim)).trans h_3)
    refine z_callV (As := [.int 0, .int 1]) (rest := []) B (r_throwsIf0 G l Φ2 sz x rd nw cr tp tt sI sT pt (QlQ qu L) fl pe le nx il qu kn ec nu va st ep ti ad ob ra rt ex sa us tk 0 me dr se sn  hx hI2 hnw) (cwV 2 B.1.2.2.2.2 gX12_messageLength_X12_throwsIf rfl rfl rfl (by decide +kernel) ⟨Nat.le_of_ble_eq_true rfl, Nat.le_of_ble_eq_true rfl⟩) h_6 rfl rfl rfl rfl (Nat.le_of_ble_eq_true rfl) dX12_messageLength_20 ⟨Nat.le_of_ble_eq_true rfl, Nat.le_of_ble_eq_true rfl⟩ (fun r_3 Φ4 sz3 st3 hp3 hs3 => ?_)
    obtain ⟨rfl, hq5, hI4, hF3⟩ := hp3
    subst sz3
    replace hs3 : st3 = [.int 0] := hs3
    subst st3
    replace hI4 : Im G x (rd, nw, cr, tp, tt, sI, sT, pt, (QlQ qu L), fl, pe, le, nx, il, qu, kn, ec, nu, va, st, ep, ti, ad, ob, ra, rt, ex, sa, us, tk, 0, me, dr, se, sn) Φ4 := hI4
    refine z_if_eq (tgt := 30) B dX12_messageLength_23 rfl (fun c_4 => ?_) (fun h9 => absurd (by decide) h9)
    refine z_aload_n B dX12_messageLength_30 rfl 0 rfl ?_
    have h_7 : Φ4 x = some (o_ 14 [.int 0, .ref (x + 1), .ref (x + 2), .int ti, .int ra, .int (nI rt), .int ex, .int ad, .ref (x + 3), .ref (x + 4), .int me, .long se, .ref (x + 5), .int (nI fl), .int dr, .long ob, .long sa, .long sn, .long us, .ref (x + 6), .ref (x + 7), .int (nI pe), .ref (x + 8), .int (nI le), .ref (x + 9), .ref (x + 10), .int (nI qu), .ref (x + 11), .ref (x + 12), .ref (x + 13), .ref (x + 14), .ref (x + 15), .ref (x + 16), .int (nI n_1), .long v_1, .ref (x + 17), .ref (x + 18), .ref (x + 19), .ref (x + 20), .ref (x + 21), .ref (x + 22), .int (nI n_2), .ref (x + 23), .ref (x + 24), .int (nI tk), .ref (x + 25), .int (nI il), .int (nI nx), .int ec, .int ep, .int kn, .int (nI st), .int nu, .long va]) := ((hF3 x (fun j9 h8 h7 => (show False from h7).elim)).trans h_6)
    refine z_get (ref := "FlowExporterModel") (C := RX12) (T := TX12) (N := 54) (ci := 14) (v := .ref (x + 10)) B hu_X12_messageLength_X12 rfl 25 (Nat.le_of_ble_eq_true rfl) hv_X12_messageLength_42 rfl h_7 rfl dX12_messageLength_31 ?_
    refine z_iload_n B dX12_messageLength_34 rfl 1 rfl ?_
    obtain ⟨f_1, h_8, r_4, r_5⟩ := imk (k := 10) hI4
    replace r_5 : (QlQ qu L) f_1 := r_5
    replace r_4 : Rw 600 f_1 := r_4
    have h_9 : Φ4 (x + 10) = some (ai_ G 12 f_1) := h_8
    refine z_iald B h_9 (vp_in_nI (by omega) (by omega)) dX12_messageLength_35 ?_
    have b_15 := (r_5 n_3 (by omega)).2
    refine z_top (st1 := [.int (nI (L n_3))]) (congrArg (fun w9 : Int32 => ([.int w9] : List Value)) ((congrArg f_1 (nI_clamp (by omega))).trans (r_5 n_3 (by omega)).1)) ?_
    exact z_ret_i B dX12_messageLength_36 ⟨⟨nI (L n_3), 0, _, rfl, h_7, Or.inl ⟨hq3, trivial, rfl, (congrArg Int32.toInt64 (show nI (L n_3) = nI (L n_3) from rfl)).trans (congrArg (fun w9 : Nat => (nI (L w9)).toInt64) (nI_clamp (n := n_3) (by omega)).symm)⟩⟩, rfl, ⟨0, hI4⟩, (fun b9 h9 => ((hF3 b9 (fun j9 h8 h7 => (show False from h7).elim)).trans ((hF1 b9 (fun j9 h8 h7 => (show False from h7).elim)).trans ((fset_fr hΦ1 (fun h8 => h9 (0) h8 (show 0 = 0 by decide))).trans rfl))))⟩

theorem hu_X12_lose_X12 : ∀ w ∈ u_ws RX12 TX12 54, w ∈ wsX12_lose := fun _ h => List.mem_cons_of_mem _ (List.mem_append_left _ (List.mem_append_right _ (h)))

theorem hv_X12_lose_1 : Cond.fieldLink RX12 1 "FlowExporterModel" (TX12 0).2.1 (TX12 0).2.2.1 ∈ wsX12_lose := List.mem_cons_of_mem _ (List.mem_append_left _ (List.mem_append_left _ (List.mem_of_getElem? (i := 0) rfl)))

theorem fq_1083 : ∀ j9 : Nat, (j9 = 0) → (j9 = 0 ∨ j9 = 9 ∨ j9 = 10) := by
  intro j9 h
  omega

theorem hv_X12_lose_42 : Cond.fieldLink RX12 42 "FlowExporterModel" (TX12 25).2.1 (TX12 25).2.2.1 ∈ wsX12_lose := List.mem_cons_of_mem _ (List.mem_append_left _ (List.mem_append_left _ (List.mem_of_getElem? (i := 1) rfl)))

set_option maxHeartbeats 4000000 in
set_option maxRecDepth 100000 in
theorem r_lose (G : EnvG) (l : Launch) (Φ : Hm) (sz x : Nat) (rd : (Nat → Int32) → Prop) (nw : (Nat → Int32) → Prop) (cr : (Nat → Int64) → Prop) (tp : (Nat → Int32) → Prop) (tt : (Nat → Int64) → Prop) (sI : (Nat → Int32) → Prop) (sT : (Nat → Int32) → Prop) (pt : (Nat → Int32) → Prop) (fl : Nat) (pe : Nat) (le : Nat) (nx : Nat) (il : Nat) (qu : Nat) (kn : Int32) (ec : Int32) (nu : Int32) (va : Int64) (st : Nat) (ep : Int32) (ti : Int32) (ad : Int32) (ob : Int64) (ra : Int32) (rt : Nat) (ex : Int32) (sa : Int64) (us : Int64) (tk : Nat) (th : Int32) (me : Int32) (dr : Int32) (se : Int64) (sn : Int64) (L : Nat → Nat) (a : Int32) (hx : G.2.2.2 ≤ x) (hI : Im G x (rd, nw, cr, tp, tt, sI, sT, pt, (QlQ qu L), fl, pe, le, nx, il, qu, kn, ec, nu, va, st, ep, ti, ad, ob, ra, rt, ex, sa, us, tk, th, me, dr, se, sn) Φ) (hnw : ∀ f9 : Nat → Int32, nw f9 → NN f9) : Ct G l yX12_lose wsX12_lose ({ frames := 2, cells := 0, slots := 0, locals := 46 }) 0 0 [.ref x, .int a] Φ sz (fun v Φ1 sz1 => (∃ (r9 th9 : Int32) (l9 : List Value), v = some (.int r9) ∧ Φ1 x = some (o_ 14 (.int th9 :: l9)) ∧ AnsR (InQ qu a) True (nI (L a.toNatClampNeg)).toInt64 th9 r9.toInt64) ∧ sz1 = sz ∧ (∃ (qu1 : Nat) (L1 : Nat → Nat) (th1 : Int32), ((¬ InQ qu a ∧ (qu1, L1) = (qu, L)) ∨ (∃ u9 : Nat, u9 < qu ∧ a = nI u9 ∧ (qu1, L1) = (qu - 1, rmL L u9))) ∧ Im G x (rd, nw, cr, tp, tt, sI, sT, pt, (QlQ qu1 L1), fl, pe, le, nx, il, qu1, kn, ec, nu, va, st, ep, ti, ad, ob, ra, rt, ex, sa, us, tk, th1, me, dr, se, sn) Φ1) ∧ Fr x (fun j9 => j9 = 0 ∨ j9 = 9 ∨ j9 = 10) Φ Φ1) := by
  refine Ct.of (cc := cX12_lose) (maxL := 3) (ret := (some .int)) (by decide) rfl (Nat.le_of_ble_eq_true rfl) ?_
  intro p9 e9 s9 m9 w9 t9 k9 B
  show Z p9 l e9 _ s9 m9 _ w9 t9 k9 _ G 3 0 [(0, .ref x), (1, .int a)] [] Φ sz 0 0
  refine z_aload_n B dX12_lose_0 rfl 0 rfl ?_
  refine z_iconst (v := 0) B dX12_lose_1 rfl ?_
  obtain ⟨n_1, v_1, n_2, h_1, b_13, b_1, b_2, b_3, b_4, b_5, b_6, b_7, b_8, b_9, b_10, b_11, b_12⟩ := im0 hI
  replace b_1 : 1 ≤ rt := b_1
  replace b_2 : rt ≤ 1024 := b_2
  replace b_3 : fl ≤ 12 := b_3
  replace b_4 : pe ≤ 24 := b_4
  replace b_5 : le ≤ 700 := b_5
  replace b_6 : qu ≤ 12 := b_6
  replace b_7 : n_1 ≤ 8 := b_7
  replace b_8 : n_2 ≤ 24 := b_8
  replace b_9 : tk ≤ 24 := b_9
  replace b_10 : il ≤ 700 := b_10
  replace b_11 : nx ≤ 701 := b_11
  replace b_12 : st ≤ 701 := b_12
  have h_2 : Φ x = some (o_ 14 [.int th, .ref (x + 1), .ref (x + 2), .int ti, .int ra, .int (nI rt), .int ex, .int ad, .ref (x + 3), .ref (x + 4), .int me, .long se, .ref (x + 5), .int (nI fl), .int dr, .long ob, .long sa, .long sn, .long us, .ref (x + 6), .ref (x + 7), .int (nI pe), .ref (x + 8), .int (nI le), .ref (x + 9), .ref (x + 10), .int (nI qu), .ref (x + 11), .ref (x + 12), .ref (x + 13), .ref (x + 14), .ref (x + 15), .ref (x + 16), .int (nI n_1), .long v_1, .ref (x + 17), .ref (x + 18), .ref (x + 19), .ref (x + 20), .ref (x + 21), .ref (x + 22), .int (nI n_2), .ref (x + 23), .ref (x + 24), .int (nI tk), .ref (x + 25), .int (nI il), .int (nI nx), .int ec, .int ep, .int kn, .int (nI st), .int nu, .long va]) := h_1
  refine z_put (ref := "FlowExporterModel") (C := RX12) (T := TX12) (N := 54) (ci := 14) (v := .int 0) B hu_X12_lose_X12 tyX12 tyX12_ok nmX12 rfl 0 (Nat.le_of_ble_eq_true rfl) hv_X12_lose_1 rfl (Or.inl rfl) h_2 hx rfl rfl (Nat.le_of_ble_eq_true rfl) dX12_lose_2 (fun Φ1 hΦ1 => ?_)
  have h_3 : Φ1 x = some (o_ 14 [.int 0, .ref (x + 1), .ref (x + 2), .int ti, .int ra, .int (nI rt), .int ex, .int ad, .ref (x + 3), .ref (x + 4), .int me, .long se, .ref (x + 5), .int (nI fl), .int dr, .long ob, .long sa, .long sn, .long us, .ref (x + 6), .ref (x + 7), .int (nI pe), .ref (x + 8), .int (nI le), .ref (x + 9), .ref (x + 10), .int (nI qu), .ref (x + 11), .ref (x + 12), .ref (x + 13), .ref (x + 14), .ref (x + 15), .ref (x + 16), .int (nI n_1), .long v_1, .ref (x + 17), .ref (x + 18), .ref (x + 19), .ref (x + 20), .ref (x + 21), .ref (x + 22), .int (nI n_2), .ref (x + 23), .ref (x + 24), .int (nI tk), .ref (x + 25), .int (nI il), .int (nI nx), .int ec, .int ep, .int kn, .int (nI st), .int nu, .long va]) := fset_at hΦ1
  have hI1 : Im G x (rd, nw, cr, tp, tt, sI, sT, pt, (QlQ qu L), fl, pe, le, nx, il, qu, kn, ec, nu, va, st, ep, ti, ad, ob, ra, rt, ex, sa, us, tk, 0, me, dr, se, sn) Φ1 := Im.put0 hI hΦ1 ⟨n_1, v_1, n_2, rfl, b_13, b_1, b_2, b_3, b_4, b_5, b_6, b_7, b_8, b_9, b_10, b_11, b_12⟩
  refine z_aload_n B dX12_lose_5 rfl 0 rfl ?_
  refine z_aload_n B dX12_lose_6 rfl 0 rfl ?_
  refine z_iload_n B dX12_lose_7 rfl 1 rfl ?_
  refine z_callV (As := [.int a]) (rest := [.ref x]) B (r_isMessageX G l Φ1 sz x rd nw cr tp tt sI sT pt (QlQ qu L) fl pe le nx il qu kn ec nu va st ep ti ad ob ra rt ex sa us tk 0 me dr se sn a hx hI1 hnw) (cwV 1 B.1.2.2.2.2 gX12_lose_X12_isMessage rfl rfl rfl (by decide +kernel) ⟨Nat.le_of_ble_eq_true rfl, Nat.le_of_ble_eq_true rfl⟩) h_3 rfl rfl rfl rfl (Nat.le_of_ble_eq_true rfl) dX12_lose_8 ⟨Nat.le_of_ble_eq_true rfl, Nat.le_of_ble_eq_true rfl⟩ (fun r_1 Φ2 sz1 st1 hp1 hs1 => ?_)
  obtain ⟨ha1, hq1, hI2, hF1⟩ := hp1
  subst sz1
  replace hI2 : Im G x (rd, nw, cr, tp, tt, sI, sT, pt, (QlQ qu L), fl, pe, le, nx, il, qu, kn, ec, nu, va, st, ep, ti, ad, ob, ra, rt, ex, sa, us, tk, 0, me, dr, se, sn) Φ2 := hI2
  rcases ha1 with ⟨rfl, hq2⟩ | ⟨rfl, n_3, b_14, rfl, hq3⟩
  · replace hs1 : st1 = [.int 0, .ref x] := hs1
    subst st1
    refine z_if_ne (tgt := 18) B dX12_lose_11 rfl (fun h9 => absurd (by decide) h9) (fun c_1 => ?_)
    refine z_iconst (v := 1) B dX12_lose_14 rfl ?_
    refine z_goto (tgt := 19) B dX12_lose_15 rfl ?_
    refine z_iconst (v := 1) B dX12_lose_19 rfl ?_
    have h_4 : Φ2 x = some (o_ 14 [.int 0, .ref (x + 1), .ref (x + 2), .int ti, .int ra, .int (nI rt), .int ex, .int ad, .ref (x + 3), .ref (x + 4), .int me, .long se, .ref (x + 5), .int (nI fl), .int dr, .long ob, .long sa, .long sn, .long us, .ref (x + 6), .ref (x + 7), .int (nI pe), .ref (x + 8), .int (nI le), .ref (x + 9), .ref (x + 10), .int (nI qu), .ref (x + 11), .ref (x + 12), .ref (x + 13), .ref (x + 14), .ref (x + 15), .ref (x + 16), .int (nI n_1), .long v_1, .ref (x + 17), .ref (x + 18), .ref (x + 19), .ref (x + 20), .ref (x + 21), .ref (x + 22), .int (nI n_2), .ref (x + 23), .ref (x + 24), .int (nI tk), .ref (x + 25), .int (nI il), .int (nI nx), .int ec, .int ep, .int kn, .int (nI st), .int nu, .long va]) := ((hF1 x (fun j9 h8 h7 => (show False from h7).elim)).trans h_3)
    refine z_callV (As := [.int 1, .int 1]) (rest := []) B (r_throwsIf1 G l Φ2 sz x rd nw cr tp tt sI sT pt (QlQ qu L) fl pe le nx il qu kn ec nu va st ep ti ad ob ra rt ex sa us tk 0 me dr se sn  hx hI2 hnw) (cwV 2 B.1.2.2.2.2 gX12_lose_X12_throwsIf rfl rfl rfl (by decide +kernel) ⟨Nat.le_of_ble_eq_true rfl, Nat.le_of_ble_eq_true rfl⟩) h_4 rfl rfl rfl rfl (Nat.le_of_ble_eq_true rfl) dX12_lose_20 ⟨Nat.le_of_ble_eq_true rfl, Nat.le_of_ble_eq_true rfl⟩ (fun r_2 Φ3 sz2 st2 hp2 hs2 => ?_)
    obtain ⟨⟨rfl, l_1, h_5⟩, hq4, hI3, hF2⟩ := hp2
    subst sz2
    replace hs2 : st2 = [.int 1] := hs2
    subst st2
    replace hI3 : Im G x (rd, nw, cr, tp, tt, sI, sT, pt, (QlQ qu L), fl, pe, le, nx, il, qu, kn, ec, nu, va, st, ep, ti, ad, ob, ra, rt, ex, sa, us, tk, 1, me, dr, se, sn) Φ3 := hI3
    refine z_if_eq (tgt := 28) B dX12_lose_23 rfl (fun h9 => absurd h9 (by decide)) (fun c_2 => ?_)
    refine z_iconst (v := 0) B dX12_lose_26 rfl ?_
    exact z_ret_i B dX12_lose_27 ⟨⟨0, 1, l_1, rfl, h_5, Or.inr (Or.inl ⟨hq2, rfl⟩)⟩, rfl, ⟨qu, L, 1, (Or.inl ⟨hq2, rfl⟩), hI3⟩, (fun b9 h9 => ((hF2 b9 (fun j9 h8 h7 => h9 j9 h8 (fq_1083 j9 h7))).trans ((hF1 b9 (fun j9 h8 h7 => (show False from h7).elim)).trans ((fset_fr hΦ1 (fun h8 => h9 (0) h8 (show 0 = 0 ∨ 0 = 9 ∨ 0 = 10 by decide))).trans rfl))))⟩
  · replace hs1 : st1 = [.int 1, .ref x] := hs1
    subst st1
    replace b_14 : n_3 < qu := b_14
    refine z_if_ne (tgt := 18) B dX12_lose_11 rfl (fun c_3 => ?_) (fun h9 => absurd h9 (by decide))
    refine z_iconst (v := 0) B dX12_lose_18 rfl ?_
    refine z_iconst (v := 1) B dX12_lose_19 rfl ?_
    have h_6 : Φ2 x = some (o_ 14 [.int 0, .ref (x + 1), .ref (x + 2), .int ti, .int ra, .int (nI rt), .int ex, .int ad, .ref (x + 3), .ref (x + 4), .int me, .long se, .ref (x + 5), .int (nI fl), .int dr, .long ob, .long sa, .long sn, .long us, .ref (x + 6), .ref (x + 7), .int (nI pe), .ref (x + 8), .int (nI le), .ref (x + 9), .ref (x + 10), .int (nI qu), .ref (x + 11), .ref (x + 12), .ref (x + 13), .ref (x + 14), .ref (x + 15), .ref (x + 16), .int (nI n_1), .long v_1, .ref (x + 17), .ref (x + 18), .ref (x + 19), .ref (x + 20), .ref (x + 21), .ref (x + 22), .int (nI n_2), .ref (x + 23), .ref (x + 24), .int (nI tk), .ref (x + 25), .int (nI il), .int (nI nx), .int ec, .int ep, .int kn, .int (nI st), .int nu, .long va]) := ((hF1 x (fun j9 h8 h7 => (show False from h7).elim)).trans h_3)
    refine z_callV (As := [.int 0, .int 1]) (rest := []) B (r_throwsIf0 G l Φ2 sz x rd nw cr tp tt sI sT pt (QlQ qu L) fl pe le nx il qu kn ec nu va st ep ti ad ob ra rt ex sa us tk 0 me dr se sn  hx hI2 hnw) (cwV 2 B.1.2.2.2.2 gX12_lose_X12_throwsIf rfl rfl rfl (by decide +kernel) ⟨Nat.le_of_ble_eq_true rfl, Nat.le_of_ble_eq_true rfl⟩) h_6 rfl rfl rfl rfl (Nat.le_of_ble_eq_true rfl) dX12_lose_20 ⟨Nat.le_of_ble_eq_true rfl, Nat.le_of_ble_eq_true rfl⟩ (fun r_3 Φ4 sz3 st3 hp3 hs3 => ?_)
    obtain ⟨rfl, hq5, hI4, hF3⟩ := hp3
    subst sz3
    replace hs3 : st3 = [.int 0] := hs3
    subst st3
    replace hI4 : Im G x (rd, nw, cr, tp, tt, sI, sT, pt, (QlQ qu L), fl, pe, le, nx, il, qu, kn, ec, nu, va, st, ep, ti, ad, ob, ra, rt, ex, sa, us, tk, 0, me, dr, se, sn) Φ4 := hI4
    refine z_if_eq (tgt := 28) B dX12_lose_23 rfl (fun c_4 => ?_) (fun h9 => absurd (by decide) h9)
    refine z_aload_n B dX12_lose_28 rfl 0 rfl ?_
    have h_7 : Φ4 x = some (o_ 14 [.int 0, .ref (x + 1), .ref (x + 2), .int ti, .int ra, .int (nI rt), .int ex, .int ad, .ref (x + 3), .ref (x + 4), .int me, .long se, .ref (x + 5), .int (nI fl), .int dr, .long ob, .long sa, .long sn, .long us, .ref (x + 6), .ref (x + 7), .int (nI pe), .ref (x + 8), .int (nI le), .ref (x + 9), .ref (x + 10), .int (nI qu), .ref (x + 11), .ref (x + 12), .ref (x + 13), .ref (x + 14), .ref (x + 15), .ref (x + 16), .int (nI n_1), .long v_1, .ref (x + 17), .ref (x + 18), .ref (x + 19), .ref (x + 20), .ref (x + 21), .ref (x + 22), .int (nI n_2), .ref (x + 23), .ref (x + 24), .int (nI tk), .ref (x + 25), .int (nI il), .int (nI nx), .int ec, .int ep, .int kn, .int (nI st), .int nu, .long va]) := ((hF3 x (fun j9 h8 h7 => (show False from h7).elim)).trans h_6)
    refine z_get (ref := "FlowExporterModel") (C := RX12) (T := TX12) (N := 54) (ci := 14) (v := .ref (x + 10)) B hu_X12_lose_X12 rfl 25 (Nat.le_of_ble_eq_true rfl) hv_X12_lose_42 rfl h_7 rfl dX12_lose_29 ?_
    refine z_iload_n B dX12_lose_32 rfl 1 rfl ?_
    obtain ⟨f_1, h_8, r_4, r_5⟩ := imk (k := 10) hI4
    replace r_5 : (QlQ qu L) f_1 := r_5
    replace r_4 : Rw 600 f_1 := r_4
    have h_9 : Φ4 (x + 10) = some (ai_ G 12 f_1) := h_8
    refine z_iald B h_9 (vp_in_nI (by omega) (by omega)) dX12_lose_33 ?_
    have b_15 := (r_5 n_3 (by omega)).2
    refine z_top (st1 := [.int (nI (L n_3))]) (congrArg (fun w9 : Int32 => ([.int w9] : List Value)) ((congrArg f_1 (nI_clamp (by omega))).trans (r_5 n_3 (by omega)).1)) ?_
    refine z_istore_n (lv' := [(2, .int (nI (L n_3))), (0, .ref x), (1, .int (nI n_3))]) B dX12_lose_34 rfl (Nat.le_of_ble_eq_true rfl) rfl ?_
    refine z_aload_n B dX12_lose_35 rfl 1 rfl ?_
    refine z_iload_n B dX12_lose_36 rfl 2 rfl ?_
    refine z_callV (As := [.int (nI n_3)]) (rest := []) B (r_remove G l Φ4 sz x rd nw cr tp tt sI sT pt fl pe le nx il qu kn ec nu va st ep ti ad ob ra rt ex sa us tk 0 me dr se sn L n_3 hx hI4 (show n_3 < qu by omega) hnw) (cwV 1 B.1.2.2.2.2 gX12_lose_X12_remove rfl rfl rfl (by decide +kernel) ⟨Nat.le_of_ble_eq_true rfl, Nat.le_of_ble_eq_true rfl⟩) h_7 rfl rfl rfl rfl (Nat.le_of_ble_eq_true rfl) dX12_lose_37 ⟨Nat.le_of_ble_eq_true rfl, Nat.le_of_ble_eq_true rfl⟩ (fun r_6 Φ5 sz4 st4 hp4 hs4 => ?_)
    obtain ⟨rfl, hq6, hI5, hF4⟩ := hp4
    subst sz4
    replace hs4 : st4 = [] := hs4
    subst st4
    replace hI5 : Im G x (rd, nw, cr, tp, tt, sI, sT, pt, QlQ (qu - 1) (rmL L n_3), fl, pe, le, nx, il, qu - 1, kn, ec, nu, va, st, ep, ti, ad, ob, ra, rt, ex, sa, us, tk, 0, me, dr, se, sn) Φ5 := hI5
    refine z_iload_n B dX12_lose_40 rfl 0 rfl ?_
    obtain ⟨n_4, v_2, n_5, h_10, b_28, b_16, b_17, b_18, b_19, b_20, b_21, b_22, b_23, b_24, b_25, b_26, b_27⟩ := im0 hI5
    replace b_16 : 1 ≤ rt := b_16
    replace b_17 : rt ≤ 1024 := b_17
    replace b_18 : fl ≤ 12 := b_18
    replace b_19 : pe ≤ 24 := b_19
    replace b_20 : le ≤ 700 := b_20
    replace b_21 : qu - 1 ≤ 12 := b_21
    replace b_22 : n_4 ≤ 8 := b_22
    replace b_23 : n_5 ≤ 24 := b_23
    replace b_24 : tk ≤ 24 := b_24
    replace b_25 : il ≤ 700 := b_25
    replace b_26 : nx ≤ 701 := b_26
    replace b_27 : st ≤ 701 := b_27
    have h_11 : Φ5 x = some (o_ 14 [.int 0, .ref (x + 1), .ref (x + 2), .int ti, .int ra, .int (nI rt), .int ex, .int ad, .ref (x + 3), .ref (x + 4), .int me, .long se, .ref (x + 5), .int (nI fl), .int dr, .long ob, .long sa, .long sn, .long us, .ref (x + 6), .ref (x + 7), .int (nI pe), .ref (x + 8), .int (nI le), .ref (x + 9), .ref (x + 10), .int (nI (qu - 1)), .ref (x + 11), .ref (x + 12), .ref (x + 13), .ref (x + 14), .ref (x + 15), .ref (x + 16), .int (nI n_4), .long v_2, .ref (x + 17), .ref (x + 18), .ref (x + 19), .ref (x + 20), .ref (x + 21), .ref (x + 22), .int (nI n_5), .ref (x + 23), .ref (x + 24), .int (nI tk), .ref (x + 25), .int (nI il), .int (nI nx), .int ec, .int ep, .int kn, .int (nI st), .int nu, .long va]) := h_10
    exact z_ret_i B dX12_lose_41 ⟨⟨nI (L n_3), 0, _, rfl, h_11, Or.inl ⟨hq3, trivial, rfl, (congrArg Int32.toInt64 (show nI (L n_3) = nI (L n_3) from rfl)).trans (congrArg (fun w9 : Nat => (nI (L w9)).toInt64) (nI_clamp (n := n_3) (by omega)).symm)⟩⟩, rfl, ⟨qu - 1, (rmL L n_3), 0, (Or.inr ⟨n_3, by omega, rfl, rfl⟩), hI5⟩, (fun b9 h9 => ((hF4 b9 h9).trans ((hF3 b9 (fun j9 h8 h7 => (show False from h7).elim)).trans ((hF1 b9 (fun j9 h8 h7 => (show False from h7).elim)).trans ((fset_fr hΦ1 (fun h8 => h9 (0) h8 (show 0 = 0 ∨ 0 = 9 ∨ 0 = 10 by decide))).trans rfl)))))⟩

theorem hu_X12_duplicate_X12 : ∀ w ∈ u_ws RX12 TX12 54, w ∈ wsX12_duplicate := fun _ h => List.mem_cons_of_mem _ (List.mem_append_left _ (List.mem_append_right _ (h)))

theorem hv_X12_duplicate_1 : Cond.fieldLink RX12 1 "FlowExporterModel" (TX12 0).2.1 (TX12 0).2.2.1 ∈ wsX12_duplicate := List.mem_cons_of_mem _ (List.mem_append_left _ (List.mem_append_left _ (List.mem_of_getElem? (i := 0) rfl)))

theorem hv_X12_duplicate_139 : Cond.fieldLink RX12 139 "FlowExporterModel" (TX12 26).2.1 (TX12 26).2.2.1 ∈ wsX12_duplicate := List.mem_cons_of_mem _ (List.mem_append_left _ (List.mem_append_left _ (List.mem_of_getElem? (i := 1) rfl)))

set_option maxHeartbeats 4000000 in
set_option maxRecDepth 100000 in
theorem r_duplicate (G : EnvG) (l : Launch) (Φ : Hm) (sz x : Nat) (rd : (Nat → Int32) → Prop) (nw : (Nat → Int32) → Prop) (cr : (Nat → Int64) → Prop) (tp : (Nat → Int32) → Prop) (tt : (Nat → Int64) → Prop) (sI : (Nat → Int32) → Prop) (sT : (Nat → Int32) → Prop) (pt : (Nat → Int32) → Prop) (fl : Nat) (pe : Nat) (le : Nat) (nx : Nat) (il : Nat) (qu : Nat) (kn : Int32) (ec : Int32) (nu : Int32) (va : Int64) (st : Nat) (ep : Int32) (ti : Int32) (ad : Int32) (ob : Int64) (ra : Int32) (rt : Nat) (ex : Int32) (sa : Int64) (us : Int64) (tk : Nat) (th : Int32) (me : Int32) (dr : Int32) (se : Int64) (sn : Int64) (L : Nat → Nat) (a : Int32) (hx : G.2.2.2 ≤ x) (hI : Im G x (rd, nw, cr, tp, tt, sI, sT, pt, (QlQ qu L), fl, pe, le, nx, il, qu, kn, ec, nu, va, st, ep, ti, ad, ob, ra, rt, ex, sa, us, tk, th, me, dr, se, sn) Φ) (hnw : ∀ f9 : Nat → Int32, nw f9 → NN f9) : Ct G l yX12_duplicate wsX12_duplicate ({ frames := 2, cells := 0, slots := 0, locals := 46 }) 0 0 [.ref x, .int a] Φ sz (fun v Φ1 sz1 => (∃ (r9 th9 : Int32) (l9 : List Value), v = some (.int r9) ∧ Φ1 x = some (o_ 14 (.int th9 :: l9)) ∧ AnsR (InQ qu a) True (duB qu).toInt64 th9 r9.toInt64) ∧ sz1 = sz ∧ (∃ (qu1 : Nat) (L1 : Nat → Nat) (th1 : Int32), ((¬ InQ qu a ∧ (qu1, L1) = (qu, L)) ∨ (∃ u9 : Nat, u9 < qu ∧ a = nI u9 ∧ (qu1, L1) = duQ qu L u9)) ∧ Im G x (rd, nw, cr, tp, tt, sI, sT, pt, (QlQ qu1 L1), fl, pe, le, nx, il, qu1, kn, ec, nu, va, st, ep, ti, ad, ob, ra, rt, ex, sa, us, tk, th1, me, dr, se, sn) Φ1) ∧ Fr x (fun j9 => j9 = 0 ∨ j9 = 9 ∨ j9 = 10) Φ Φ1) := by
  refine Ct.of (cc := cX12_duplicate) (maxL := 2) (ret := (some .boolean)) (by decide) rfl (Nat.le_of_ble_eq_true rfl) ?_
  intro p9 e9 s9 m9 w9 t9 k9 B
  show Z p9 l e9 _ s9 m9 _ w9 t9 k9 _ G 2 0 [(0, .ref x), (1, .int a)] [] Φ sz 0 0
  refine z_aload_n B dX12_duplicate_0 rfl 0 rfl ?_
  refine z_iconst (v := 0) B dX12_duplicate_1 rfl ?_
  obtain ⟨n_1, v_1, n_2, h_1, b_13, b_1, b_2, b_3, b_4, b_5, b_6, b_7, b_8, b_9, b_10, b_11, b_12⟩ := im0 hI
  replace b_1 : 1 ≤ rt := b_1
  replace b_2 : rt ≤ 1024 := b_2
  replace b_3 : fl ≤ 12 := b_3
  replace b_4 : pe ≤ 24 := b_4
  replace b_5 : le ≤ 700 := b_5
  replace b_6 : qu ≤ 12 := b_6
  replace b_7 : n_1 ≤ 8 := b_7
  replace b_8 : n_2 ≤ 24 := b_8
  replace b_9 : tk ≤ 24 := b_9
  replace b_10 : il ≤ 700 := b_10
  replace b_11 : nx ≤ 701 := b_11
  replace b_12 : st ≤ 701 := b_12
  have h_2 : Φ x = some (o_ 14 [.int th, .ref (x + 1), .ref (x + 2), .int ti, .int ra, .int (nI rt), .int ex, .int ad, .ref (x + 3), .ref (x + 4), .int me, .long se, .ref (x + 5), .int (nI fl), .int dr, .long ob, .long sa, .long sn, .long us, .ref (x + 6), .ref (x + 7), .int (nI pe), .ref (x + 8), .int (nI le), .ref (x + 9), .ref (x + 10), .int (nI qu), .ref (x + 11), .ref (x + 12), .ref (x + 13), .ref (x + 14), .ref (x + 15), .ref (x + 16), .int (nI n_1), .long v_1, .ref (x + 17), .ref (x + 18), .ref (x + 19), .ref (x + 20), .ref (x + 21), .ref (x + 22), .int (nI n_2), .ref (x + 23), .ref (x + 24), .int (nI tk), .ref (x + 25), .int (nI il), .int (nI nx), .int ec, .int ep, .int kn, .int (nI st), .int nu, .long va]) := h_1
  refine z_put (ref := "FlowExporterModel") (C := RX12) (T := TX12) (N := 54) (ci := 14) (v := .int 0) B hu_X12_duplicate_X12 tyX12 tyX12_ok nmX12 rfl 0 (Nat.le_of_ble_eq_true rfl) hv_X12_duplicate_1 rfl (Or.inl rfl) h_2 hx rfl rfl (Nat.le_of_ble_eq_true rfl) dX12_duplicate_2 (fun Φ1 hΦ1 => ?_)
  have h_3 : Φ1 x = some (o_ 14 [.int 0, .ref (x + 1), .ref (x + 2), .int ti, .int ra, .int (nI rt), .int ex, .int ad, .ref (x + 3), .ref (x + 4), .int me, .long se, .ref (x + 5), .int (nI fl), .int dr, .long ob, .long sa, .long sn, .long us, .ref (x + 6), .ref (x + 7), .int (nI pe), .ref (x + 8), .int (nI le), .ref (x + 9), .ref (x + 10), .int (nI qu), .ref (x + 11), .ref (x + 12), .ref (x + 13), .ref (x + 14), .ref (x + 15), .ref (x + 16), .int (nI n_1), .long v_1, .ref (x + 17), .ref (x + 18), .ref (x + 19), .ref (x + 20), .ref (x + 21), .ref (x + 22), .int (nI n_2), .ref (x + 23), .ref (x + 24), .int (nI tk), .ref (x + 25), .int (nI il), .int (nI nx), .int ec, .int ep, .int kn, .int (nI st), .int nu, .long va]) := fset_at hΦ1
  have hI1 : Im G x (rd, nw, cr, tp, tt, sI, sT, pt, (QlQ qu L), fl, pe, le, nx, il, qu, kn, ec, nu, va, st, ep, ti, ad, ob, ra, rt, ex, sa, us, tk, 0, me, dr, se, sn) Φ1 := Im.put0 hI hΦ1 ⟨n_1, v_1, n_2, rfl, b_13, b_1, b_2, b_3, b_4, b_5, b_6, b_7, b_8, b_9, b_10, b_11, b_12⟩
  refine z_aload_n B dX12_duplicate_5 rfl 0 rfl ?_
  refine z_aload_n B dX12_duplicate_6 rfl 0 rfl ?_
  refine z_iload_n B dX12_duplicate_7 rfl 1 rfl ?_
  refine z_callV (As := [.int a]) (rest := [.ref x]) B (r_isMessageX G l Φ1 sz x rd nw cr tp tt sI sT pt (QlQ qu L) fl pe le nx il qu kn ec nu va st ep ti ad ob ra rt ex sa us tk 0 me dr se sn a hx hI1 hnw) (cwV 1 B.1.2.2.2.2 gX12_duplicate_X12_isMessage rfl rfl rfl (by decide +kernel) ⟨Nat.le_of_ble_eq_true rfl, Nat.le_of_ble_eq_true rfl⟩) h_3 rfl rfl rfl rfl (Nat.le_of_ble_eq_true rfl) dX12_duplicate_8 ⟨Nat.le_of_ble_eq_true rfl, Nat.le_of_ble_eq_true rfl⟩ (fun r_1 Φ2 sz1 st1 hp1 hs1 => ?_)
  obtain ⟨ha1, hq1, hI2, hF1⟩ := hp1
  subst sz1
  replace hI2 : Im G x (rd, nw, cr, tp, tt, sI, sT, pt, (QlQ qu L), fl, pe, le, nx, il, qu, kn, ec, nu, va, st, ep, ti, ad, ob, ra, rt, ex, sa, us, tk, 0, me, dr, se, sn) Φ2 := hI2
  rcases ha1 with ⟨rfl, hq2⟩ | ⟨rfl, n_3, b_14, rfl, hq3⟩
  · replace hs1 : st1 = [.int 0, .ref x] := hs1
    subst st1
    refine z_if_ne (tgt := 18) B dX12_duplicate_11 rfl (fun h9 => absurd (by decide) h9) (fun c_1 => ?_)
    refine z_iconst (v := 1) B dX12_duplicate_14 rfl ?_
    refine z_goto (tgt := 19) B dX12_duplicate_15 rfl ?_
    refine z_iconst (v := 1) B dX12_duplicate_19 rfl ?_
    have h_4 : Φ2 x = some (o_ 14 [.int 0, .ref (x + 1), .ref (x + 2), .int ti, .int ra, .int (nI rt), .int ex, .int ad, .ref (x + 3), .ref (x + 4), .int me, .long se, .ref (x + 5), .int (nI fl), .int dr, .long ob, .long sa, .long sn, .long us, .ref (x + 6), .ref (x + 7), .int (nI pe), .ref (x + 8), .int (nI le), .ref (x + 9), .ref (x + 10), .int (nI qu), .ref (x + 11), .ref (x + 12), .ref (x + 13), .ref (x + 14), .ref (x + 15), .ref (x + 16), .int (nI n_1), .long v_1, .ref (x + 17), .ref (x + 18), .ref (x + 19), .ref (x + 20), .ref (x + 21), .ref (x + 22), .int (nI n_2), .ref (x + 23), .ref (x + 24), .int (nI tk), .ref (x + 25), .int (nI il), .int (nI nx), .int ec, .int ep, .int kn, .int (nI st), .int nu, .long va]) := ((hF1 x (fun j9 h8 h7 => (show False from h7).elim)).trans h_3)
    refine z_callV (As := [.int 1, .int 1]) (rest := []) B (r_throwsIf1 G l Φ2 sz x rd nw cr tp tt sI sT pt (QlQ qu L) fl pe le nx il qu kn ec nu va st ep ti ad ob ra rt ex sa us tk 0 me dr se sn  hx hI2 hnw) (cwV 2 B.1.2.2.2.2 gX12_duplicate_X12_throwsIf rfl rfl rfl (by decide +kernel) ⟨Nat.le_of_ble_eq_true rfl, Nat.le_of_ble_eq_true rfl⟩) h_4 rfl rfl rfl rfl (Nat.le_of_ble_eq_true rfl) dX12_duplicate_20 ⟨Nat.le_of_ble_eq_true rfl, Nat.le_of_ble_eq_true rfl⟩ (fun r_2 Φ3 sz2 st2 hp2 hs2 => ?_)
    obtain ⟨⟨rfl, l_1, h_5⟩, hq4, hI3, hF2⟩ := hp2
    subst sz2
    replace hs2 : st2 = [.int 1] := hs2
    subst st2
    replace hI3 : Im G x (rd, nw, cr, tp, tt, sI, sT, pt, (QlQ qu L), fl, pe, le, nx, il, qu, kn, ec, nu, va, st, ep, ti, ad, ob, ra, rt, ex, sa, us, tk, 1, me, dr, se, sn) Φ3 := hI3
    refine z_if_ne (tgt := 35) B dX12_duplicate_23 rfl (fun c_2 => ?_) (fun h9 => absurd h9 (by decide))
    refine z_iconst (v := 0) B dX12_duplicate_35 rfl ?_
    exact z_ret_z B dX12_duplicate_36 (by decide) ⟨⟨0, 1, l_1, rfl, h_5, Or.inr (Or.inl ⟨hq2, rfl⟩)⟩, rfl, ⟨qu, L, 1, (Or.inl ⟨hq2, rfl⟩), hI3⟩, (fun b9 h9 => ((hF2 b9 (fun j9 h8 h7 => h9 j9 h8 (fq_1083 j9 h7))).trans ((hF1 b9 (fun j9 h8 h7 => (show False from h7).elim)).trans ((fset_fr hΦ1 (fun h8 => h9 (0) h8 (show 0 = 0 ∨ 0 = 9 ∨ 0 = 10 by decide))).trans rfl))))⟩
  · replace hs1 : st1 = [.int 1, .ref x] := hs1
    subst st1
    replace b_14 : n_3 < qu := b_14
    refine z_if_ne (tgt := 18) B dX12_duplicate_11 rfl (fun c_3 => ?_) (fun h9 => absurd h9 (by decide))
    refine z_iconst (v := 0) B dX12_duplicate_18 rfl ?_
    refine z_iconst (v := 1) B dX12_duplicate_19 rfl ?_
    have h_6 : Φ2 x = some (o_ 14 [.int 0, .ref (x + 1), .ref (x + 2), .int ti, .int ra, .int (nI rt), .int ex, .int ad, .ref (x + 3), .ref (x + 4), .int me, .long se, .ref (x + 5), .int (nI fl), .int dr, .long ob, .long sa, .long sn, .long us, .ref (x + 6), .ref (x + 7), .int (nI pe), .ref (x + 8), .int (nI le), .ref (x + 9), .ref (x + 10), .int (nI qu), .ref (x + 11), .ref (x + 12), .ref (x + 13), .ref (x + 14), .ref (x + 15), .ref (x + 16), .int (nI n_1), .long v_1, .ref (x + 17), .ref (x + 18), .ref (x + 19), .ref (x + 20), .ref (x + 21), .ref (x + 22), .int (nI n_2), .ref (x + 23), .ref (x + 24), .int (nI tk), .ref (x + 25), .int (nI il), .int (nI nx), .int ec, .int ep, .int kn, .int (nI st), .int nu, .long va]) := ((hF1 x (fun j9 h8 h7 => (show False from h7).elim)).trans h_3)
    refine z_callV (As := [.int 0, .int 1]) (rest := []) B (r_throwsIf0 G l Φ2 sz x rd nw cr tp tt sI sT pt (QlQ qu L) fl pe le nx il qu kn ec nu va st ep ti ad ob ra rt ex sa us tk 0 me dr se sn  hx hI2 hnw) (cwV 2 B.1.2.2.2.2 gX12_duplicate_X12_throwsIf rfl rfl rfl (by decide +kernel) ⟨Nat.le_of_ble_eq_true rfl, Nat.le_of_ble_eq_true rfl⟩) h_6 rfl rfl rfl rfl (Nat.le_of_ble_eq_true rfl) dX12_duplicate_20 ⟨Nat.le_of_ble_eq_true rfl, Nat.le_of_ble_eq_true rfl⟩ (fun r_3 Φ4 sz3 st3 hp3 hs3 => ?_)
    obtain ⟨rfl, hq5, hI4, hF3⟩ := hp3
    subst sz3
    replace hs3 : st3 = [.int 0] := hs3
    subst st3
    replace hI4 : Im G x (rd, nw, cr, tp, tt, sI, sT, pt, (QlQ qu L), fl, pe, le, nx, il, qu, kn, ec, nu, va, st, ep, ti, ad, ob, ra, rt, ex, sa, us, tk, 0, me, dr, se, sn) Φ4 := hI4
    refine z_if_ne (tgt := 35) B dX12_duplicate_23 rfl (fun h9 => absurd (by decide) h9) (fun c_4 => ?_)
    refine z_aload_n B dX12_duplicate_26 rfl 0 rfl ?_
    have h_7 : Φ4 x = some (o_ 14 [.int 0, .ref (x + 1), .ref (x + 2), .int ti, .int ra, .int (nI rt), .int ex, .int ad, .ref (x + 3), .ref (x + 4), .int me, .long se, .ref (x + 5), .int (nI fl), .int dr, .long ob, .long sa, .long sn, .long us, .ref (x + 6), .ref (x + 7), .int (nI pe), .ref (x + 8), .int (nI le), .ref (x + 9), .ref (x + 10), .int (nI qu), .ref (x + 11), .ref (x + 12), .ref (x + 13), .ref (x + 14), .ref (x + 15), .ref (x + 16), .int (nI n_1), .long v_1, .ref (x + 17), .ref (x + 18), .ref (x + 19), .ref (x + 20), .ref (x + 21), .ref (x + 22), .int (nI n_2), .ref (x + 23), .ref (x + 24), .int (nI tk), .ref (x + 25), .int (nI il), .int (nI nx), .int ec, .int ep, .int kn, .int (nI st), .int nu, .long va]) := ((hF3 x (fun j9 h8 h7 => (show False from h7).elim)).trans h_6)
    refine z_get (ref := "FlowExporterModel") (C := RX12) (T := TX12) (N := 54) (ci := 14) (v := .int (nI qu)) B hu_X12_duplicate_X12 rfl 26 (Nat.le_of_ble_eq_true rfl) hv_X12_duplicate_139 rfl h_7 rfl dX12_duplicate_27 ?_
    refine z_bipush (v := 12) B dX12_duplicate_30 rfl ?_
    refine z_icmp_ne (tgt := 37) B dX12_duplicate_32 rfl (fun c_5 => ?_) (fun c_5 => ?_)
    · have e_1 : ¬ (qu = 12) := fun h9 => c_5 ((nI_eq (a := qu) (b := 12) (by omega) (by omega)).mpr h9)
      refine z_aload_n B dX12_duplicate_37 rfl 0 rfl ?_
      refine z_iload_n B dX12_duplicate_38 rfl 1 rfl ?_
      refine z_aload_n B dX12_duplicate_39 rfl 0 rfl ?_
      refine z_get (ref := "FlowExporterModel") (C := RX12) (T := TX12) (N := 54) (ci := 14) (v := .int (nI qu)) B hu_X12_duplicate_X12 rfl 26 (Nat.le_of_ble_eq_true rfl) hv_X12_duplicate_139 rfl h_7 rfl dX12_duplicate_40 ?_
      refine z_callV (As := [.int (nI n_3), .int (nI qu)]) (rest := []) B (r_copyMessage G l Φ4 sz x rd nw cr tp tt sI sT pt (QlQ qu L) fl pe le nx il qu kn ec nu va st ep ti ad ob ra rt ex sa us tk 0 me dr se sn n_3 qu hx hI4 (show n_3 < 12 by omega) (show qu < 12 by omega) hnw) (cwV 2 B.1.2.2.2.2 gX12_duplicate_X12_copyMessage rfl rfl rfl (by decide +kernel) ⟨Nat.le_of_ble_eq_true rfl, Nat.le_of_ble_eq_true rfl⟩) h_7 rfl rfl rfl rfl (Nat.le_of_ble_eq_true rfl) dX12_duplicate_43 ⟨Nat.le_of_ble_eq_true rfl, Nat.le_of_ble_eq_true rfl⟩ (fun r_4 Φ5 sz4 st4 hp4 hs4 => ?_)
      obtain ⟨rfl, hq6, hI5, hF4⟩ := hp4
      subst sz4
      replace hs4 : st4 = [] := hs4
      subst st4
      replace hI5 : Im G x (rd, nw, cr, tp, tt, sI, sT, pt, CpW ((QlQ qu L)) n_3 qu, fl, pe, le, nx, il, qu, kn, ec, nu, va, st, ep, ti, ad, ob, ra, rt, ex, sa, us, tk, 0, me, dr, se, sn) Φ5 := hI5
      have hI6 : Im G x (rd, nw, cr, tp, tt, sI, sT, pt, (QlQ (qu + 1) (fun j => if j = qu then L n_3 else L j)), fl, pe, le, nx, il, qu, kn, ec, nu, va, st, ep, ti, ad, ob, ra, rt, ex, sa, us, tk, 0, me, dr, se, sn) Φ5 := Im.weak5 hI5 (fun _ q9 => q9) (fun _ q9 => q9) (fun _ q9 => q9) (fun _ q9 => q9) (fun _ q9 => q9) (fun _ q9 => q9) (fun _ q9 => q9) (fun _ q9 => q9) (fun _ q9 => QlQ.cp (by omega) q9)
      refine z_aload_n B dX12_duplicate_46 rfl 0 rfl ?_
      refine z_dup B dX12_duplicate_47 rfl ?_
      have h_8 : Φ5 x = some (o_ 14 [.int 0, .ref (x + 1), .ref (x + 2), .int ti, .int ra, .int (nI rt), .int ex, .int ad, .ref (x + 3), .ref (x + 4), .int me, .long se, .ref (x + 5), .int (nI fl), .int dr, .long ob, .long sa, .long sn, .long us, .ref (x + 6), .ref (x + 7), .int (nI pe), .ref (x + 8), .int (nI le), .ref (x + 9), .ref (x + 10), .int (nI qu), .ref (x + 11), .ref (x + 12), .ref (x + 13), .ref (x + 14), .ref (x + 15), .ref (x + 16), .int (nI n_1), .long v_1, .ref (x + 17), .ref (x + 18), .ref (x + 19), .ref (x + 20), .ref (x + 21), .ref (x + 22), .int (nI n_2), .ref (x + 23), .ref (x + 24), .int (nI tk), .ref (x + 25), .int (nI il), .int (nI nx), .int ec, .int ep, .int kn, .int (nI st), .int nu, .long va]) := ((hF4 x fq_1076).trans h_7)
      refine z_get (ref := "FlowExporterModel") (C := RX12) (T := TX12) (N := 54) (ci := 14) (v := .int (nI qu)) B hu_X12_duplicate_X12 rfl 26 (Nat.le_of_ble_eq_true rfl) hv_X12_duplicate_139 rfl h_8 rfl dX12_duplicate_48 ?_
      refine z_iconst (v := 1) B dX12_duplicate_51 rfl ?_
      refine z_iadd B dX12_duplicate_52 ?_
      refine z_top (st1 := [.int (nI (qu + 1)), .ref x]) (congrArg (fun w9 : Int32 => ([.int w9, .ref x] : List Value)) (nI_add qu 1)) ?_
      refine z_put (ref := "FlowExporterModel") (C := RX12) (T := TX12) (N := 54) (ci := 14) (v := .int (nI (qu + 1))) B hu_X12_duplicate_X12 tyX12 tyX12_ok nmX12 rfl 26 (Nat.le_of_ble_eq_true rfl) hv_X12_duplicate_139 rfl (Or.inl rfl) h_8 hx rfl rfl (Nat.le_of_ble_eq_true rfl) dX12_duplicate_53 (fun Φ6 hΦ2 => ?_)
      have h_9 : Φ6 x = some (o_ 14 [.int 0, .ref (x + 1), .ref (x + 2), .int ti, .int ra, .int (nI rt), .int ex, .int ad, .ref (x + 3), .ref (x + 4), .int me, .long se, .ref (x + 5), .int (nI fl), .int dr, .long ob, .long sa, .long sn, .long us, .ref (x + 6), .ref (x + 7), .int (nI pe), .ref (x + 8), .int (nI le), .ref (x + 9), .ref (x + 10), .int (nI (qu + 1)), .ref (x + 11), .ref (x + 12), .ref (x + 13), .ref (x + 14), .ref (x + 15), .ref (x + 16), .int (nI n_1), .long v_1, .ref (x + 17), .ref (x + 18), .ref (x + 19), .ref (x + 20), .ref (x + 21), .ref (x + 22), .int (nI n_2), .ref (x + 23), .ref (x + 24), .int (nI tk), .ref (x + 25), .int (nI il), .int (nI nx), .int ec, .int ep, .int kn, .int (nI st), .int nu, .long va]) := fset_at hΦ2
      have hI7 : Im G x (rd, nw, cr, tp, tt, sI, sT, pt, (QlQ (qu + 1) (fun j => if j = qu then L n_3 else L j)), fl, pe, le, nx, il, qu + 1, kn, ec, nu, va, st, ep, ti, ad, ob, ra, rt, ex, sa, us, tk, 0, me, dr, se, sn) Φ6 := Im.put0 hI6 hΦ2 ⟨n_1, v_1, n_2, rfl, b_13, b_1, b_2, b_3, b_4, b_5, (show (qu + 1) ≤ 12 by omega), b_7, b_8, b_9, b_10, b_11, b_12⟩
      refine z_iconst (v := 1) B dX12_duplicate_56 rfl ?_
      exact z_ret_z B dX12_duplicate_57 (by decide) ⟨⟨1, 0, _, rfl, h_9, Or.inl ⟨hq3, trivial, rfl, congrArg Int32.toInt64 (show 1 = duB qu from ((duQ_n (u := 0) (L := L) (by omega)).2.symm))⟩⟩, rfl, ⟨qu + 1, (fun j => if j = qu then L n_3 else L j), 0, (Or.inr ⟨n_3, by omega, rfl, (duQ_n (by omega)).1⟩), hI7⟩, (fun b9 h9 => ((fset_fr hΦ2 (fun h8 => h9 (0) h8 (show 0 = 0 ∨ 0 = 9 ∨ 0 = 10 by decide))).trans ((hF4 b9 (fun j9 h8 h7 => h9 j9 h8 (fq_1077 j9 h7))).trans ((hF3 b9 (fun j9 h8 h7 => (show False from h7).elim)).trans ((hF1 b9 (fun j9 h8 h7 => (show False from h7).elim)).trans ((fset_fr hΦ1 (fun h8 => h9 (0) h8 (show 0 = 0 ∨ 0 = 9 ∨ 0 = 10 by decide))).trans rfl))))))⟩
    · have e_2 : qu = 12 := (nI_eq (a := qu) (b := 12) (by omega) (by omega)).mp c_5
      refine z_iconst (v := 0) B dX12_duplicate_35 rfl ?_
      exact z_ret_z B dX12_duplicate_36 (by decide) ⟨⟨0, 0, _, rfl, h_7, Or.inl ⟨hq3, trivial, rfl, congrArg Int32.toInt64 (show 0 = duB qu from ((duQ_y (u := 0) (L := L) (by omega)).2.symm))⟩⟩, rfl, ⟨qu, L, 0, (Or.inr ⟨n_3, by omega, rfl, (duQ_y (by omega)).1⟩), hI4⟩, (fun b9 h9 => ((hF3 b9 (fun j9 h8 h7 => (show False from h7).elim)).trans ((hF1 b9 (fun j9 h8 h7 => (show False from h7).elim)).trans ((fset_fr hΦ1 (fun h8 => h9 (0) h8 (show 0 = 0 ∨ 0 = 9 ∨ 0 = 10 by decide))).trans rfl))))⟩

theorem hu_X12_exchange_X12 : ∀ w ∈ u_ws RX12 TX12 54, w ∈ wsX12_exchange := fun _ h => List.mem_cons_of_mem _ (List.mem_append_left _ (List.mem_append_right _ (h)))

theorem hv_X12_exchange_1 : Cond.fieldLink RX12 1 "FlowExporterModel" (TX12 0).2.1 (TX12 0).2.2.1 ∈ wsX12_exchange := List.mem_cons_of_mem _ (List.mem_append_left _ (List.mem_append_left _ (List.mem_of_getElem? (i := 0) rfl)))

theorem hv_X12_exchange_42 : Cond.fieldLink RX12 42 "FlowExporterModel" (TX12 25).2.1 (TX12 25).2.2.1 ∈ wsX12_exchange := List.mem_cons_of_mem _ (List.mem_append_left _ (List.mem_append_left _ (List.mem_of_getElem? (i := 2) rfl)))

theorem hv_X12_exchange_39 : Cond.fieldLink RX12 39 "FlowExporterModel" (TX12 24).2.1 (TX12 24).2.2.1 ∈ wsX12_exchange := List.mem_cons_of_mem _ (List.mem_append_left _ (List.mem_append_left _ (List.mem_of_getElem? (i := 1) rfl)))

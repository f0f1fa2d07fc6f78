theorem dX12_copyMessage_0 : decode cX12_copyMessage 0 = .ok (.iconst 0, 1) := by decide +kernel
theorem dX12_copyMessage_1 : decode cX12_copyMessage 1 = .ok (.istore_n 3, 1) := by decide +kernel
theorem dX12_copyMessage_2 : decode cX12_copyMessage 2 = .ok (.iload_n 3, 1) := by decide +kernel
theorem dX12_copyMessage_3 : decode cX12_copyMessage 3 = .ok (.sipush 600, 3) := by decide +kernel
theorem dX12_copyMessage_6 : decode cX12_copyMessage 6 = .ok (.if_icmp .ge 33, 3) := by decide +kernel
theorem dX12_copyMessage_9 : decode cX12_copyMessage 9 = .ok (.aload_n 0, 1) := by decide +kernel
theorem dX12_copyMessage_10 : decode cX12_copyMessage 10 = .ok (.getfield 39, 3) := by decide +kernel
theorem dX12_copyMessage_13 : decode cX12_copyMessage 13 = .ok (.sipush 600, 3) := by decide +kernel
theorem dX12_copyMessage_16 : decode cX12_copyMessage 16 = .ok (.iload_n 2, 1) := by decide +kernel
theorem dX12_copyMessage_17 : decode cX12_copyMessage 17 = .ok (.imul, 1) := by decide +kernel
theorem dX12_copyMessage_18 : decode cX12_copyMessage 18 = .ok (.iload_n 3, 1) := by decide +kernel
theorem dX12_copyMessage_19 : decode cX12_copyMessage 19 = .ok (.iadd, 1) := by decide +kernel
theorem dX12_copyMessage_20 : decode cX12_copyMessage 20 = .ok (.aload_n 0, 1) := by decide +kernel
theorem dX12_copyMessage_21 : decode cX12_copyMessage 21 = .ok (.getfield 39, 3) := by decide +kernel
theorem dX12_copyMessage_24 : decode cX12_copyMessage 24 = .ok (.sipush 600, 3) := by decide +kernel
theorem dX12_copyMessage_27 : decode cX12_copyMessage 27 = .ok (.iload_n 1, 1) := by decide +kernel
theorem dX12_copyMessage_28 : decode cX12_copyMessage 28 = .ok (.imul, 1) := by decide +kernel
theorem dX12_copyMessage_29 : decode cX12_copyMessage 29 = .ok (.iload_n 3, 1) := by decide +kernel
theorem dX12_copyMessage_30 : decode cX12_copyMessage 30 = .ok (.iadd, 1) := by decide +kernel
theorem dX12_copyMessage_31 : decode cX12_copyMessage 31 = .ok (.iaload, 1) := by decide +kernel
theorem dX12_copyMessage_32 : decode cX12_copyMessage 32 = .ok (.iastore, 1) := by decide +kernel
theorem dX12_copyMessage_33 : decode cX12_copyMessage 33 = .ok (.iinc 3 1, 3) := by decide +kernel
theorem dX12_copyMessage_36 : decode cX12_copyMessage 36 = .ok (.goto (-34), 3) := by decide +kernel
theorem dX12_copyMessage_39 : decode cX12_copyMessage 39 = .ok (.aload_n 0, 1) := by decide +kernel
theorem dX12_copyMessage_40 : decode cX12_copyMessage 40 = .ok (.getfield 42, 3) := by decide +kernel
theorem dX12_copyMessage_43 : decode cX12_copyMessage 43 = .ok (.iload_n 2, 1) := by decide +kernel
theorem dX12_copyMessage_44 : decode cX12_copyMessage 44 = .ok (.aload_n 0, 1) := by decide +kernel
theorem dX12_copyMessage_45 : decode cX12_copyMessage 45 = .ok (.getfield 42, 3) := by decide +kernel
theorem dX12_copyMessage_48 : decode cX12_copyMessage 48 = .ok (.iload_n 1, 1) := by decide +kernel
theorem dX12_copyMessage_49 : decode cX12_copyMessage 49 = .ok (.iaload, 1) := by decide +kernel
theorem dX12_copyMessage_50 : decode cX12_copyMessage 50 = .ok (.iastore, 1) := by decide +kernel
theorem dX12_copyMessage_51 : decode cX12_copyMessage 51 = .ok (.return_, 1) := by decide +kernel
set_option maxRecDepth 20000 in
theorem ggX12_remove_X12_copyMessage : GoodIn wsX12_remove wsX12_copyMessage := goodIn_ca ((goodIn_ca (goodIn_r _ [6, 7, 8] rfl (by decide +kernel)) (goodIn_sub (fun _ h => List.mem_cons_of_mem _ (List.mem_append_left _ (List.mem_append_right _ h))) gw_wsX120))) (goodIn_sub (fun _ h => List.mem_cons_of_mem _ (List.mem_append_right _ h)) (all_fg _))
set_option maxRecDepth 20000 in
theorem gX12_remove_X12_copyMessage : GoodIn wsX12_remove (wsV RX12 314 RX12 yX12_copyMessage wsX12_copyMessage) := goodIn_app (goodIn_m (mem_cA (List.mem_cons_of_mem _ (List.mem_append_left _ (List.mem_append_left _ (List.mem_of_getElem? (i := 1) rfl)))) (mem_cA (List.mem_cons_of_mem _ (List.mem_append_left _ (List.mem_append_left _ (List.mem_of_getElem? (i := 2) rfl)))) (mem_cA (List.mem_cons_of_mem _ (List.mem_append_left _ (List.mem_append_left _ (List.mem_of_getElem? (i := 3) rfl)))) (mem_cA (List.mem_cons_of_mem _ (List.mem_append_left _ (List.mem_append_left _ (List.mem_of_getElem? (i := 4) rfl)))) mem_cZ)))) (by decide +kernel)) ggX12_remove_X12_copyMessage
theorem dX12_remove_0 : decode cX12_remove 0 = .ok (.aload_n 0, 1) := by decide +kernel
theorem dX12_remove_1 : decode cX12_remove 1 = .ok (.dup, 1) := by decide +kernel
theorem dX12_remove_2 : decode cX12_remove 2 = .ok (.getfield 139, 3) := by decide +kernel
theorem dX12_remove_5 : decode cX12_remove 5 = .ok (.iconst 1, 1) := by decide +kernel
theorem dX12_remove_6 : decode cX12_remove 6 = .ok (.isub, 1) := by decide +kernel
theorem dX12_remove_7 : decode cX12_remove 7 = .ok (.putfield 139, 3) := by decide +kernel
theorem dX12_remove_10 : decode cX12_remove 10 = .ok (.iload_n 1, 1) := by decide +kernel
theorem dX12_remove_11 : decode cX12_remove 11 = .ok (.istore_n 2, 1) := by decide +kernel
theorem dX12_remove_12 : decode cX12_remove 12 = .ok (.iload_n 2, 1) := by decide +kernel
theorem dX12_remove_13 : decode cX12_remove 13 = .ok (.aload_n 0, 1) := by decide +kernel
theorem dX12_remove_14 : decode cX12_remove 14 = .ok (.getfield 139, 3) := by decide +kernel
theorem dX12_remove_17 : decode cX12_remove 17 = .ok (.if_icmp .ge 17, 3) := by decide +kernel
theorem dX12_remove_20 : decode cX12_remove 20 = .ok (.aload_n 0, 1) := by decide +kernel
theorem dX12_remove_21 : decode cX12_remove 21 = .ok (.iload_n 2, 1) := by decide +kernel
theorem dX12_remove_22 : decode cX12_remove 22 = .ok (.iconst 1, 1) := by decide +kernel
theorem dX12_remove_23 : decode cX12_remove 23 = .ok (.iadd, 1) := by decide +kernel
theorem dX12_remove_24 : decode cX12_remove 24 = .ok (.iload_n 2, 1) := by decide +kernel
theorem dX12_remove_25 : decode cX12_remove 25 = .ok (.invokevirtual 314, 3) := by decide +kernel
theorem dX12_remove_28 : decode cX12_remove 28 = .ok (.iinc 2 1, 3) := by decide +kernel
theorem dX12_remove_31 : decode cX12_remove 31 = .ok (.goto (-19), 3) := by decide +kernel
theorem dX12_remove_34 : decode cX12_remove 34 = .ok (.return_, 1) := by decide +kernel
set_option maxRecDepth 20000 in
theorem ggX12_lose_X12_isMessage : GoodIn wsX12_lose wsX12_isMessage := (goodIn_ca (goodIn_r _ [7, 8, 9, 10, 6, 11] rfl (by decide +kernel)) (goodIn_sub (fun _ h => List.mem_cons_of_mem _ (List.mem_append_left _ (List.mem_append_right _ h))) gw_wsX120))
set_option maxRecDepth 20000 in
theorem gX12_lose_X12_isMessage : GoodIn wsX12_lose (wsV RX12 311 RX12 yX12_isMessage wsX12_isMessage) := goodIn_app (goodIn_m (mem_cA (List.mem_cons_of_mem _ (List.mem_append_left _ (List.mem_append_left _ (List.mem_of_getElem? (i := 2) rfl)))) (mem_cA (List.mem_cons_of_mem _ (List.mem_append_left _ (List.mem_append_left _ (List.mem_of_getElem? (i := 3) rfl)))) (mem_cA (List.mem_cons_of_mem _ (List.mem_append_left _ (List.mem_append_left _ (List.mem_of_getElem? (i := 4) rfl)))) (mem_cA (List.mem_cons_of_mem _ (List.mem_append_left _ (List.mem_append_left _ (List.mem_of_getElem? (i := 5) rfl)))) mem_cZ)))) (by decide +kernel)) ggX12_lose_X12_isMessage
set_option maxRecDepth 20000 in
theorem ggX12_lose_X12_throwsIf : GoodIn wsX12_lose wsX12_throwsIf := (goodIn_ca (goodIn_r _ [15, 1] rfl (by decide +kernel)) (goodIn_sub (fun _ h => List.mem_cons_of_mem _ (List.mem_append_left _ (List.mem_append_right _ h))) gw_wsX120))
set_option maxRecDepth 20000 in
theorem gX12_lose_X12_throwsIf : GoodIn wsX12_lose (wsV RX12 185 RX12 yX12_throwsIf wsX12_throwsIf) := goodIn_app (goodIn_m (mem_cA (List.mem_cons_of_mem _ (List.mem_append_left _ (List.mem_append_left _ (List.mem_of_getElem? (i := 11) rfl)))) (mem_cA (List.mem_cons_of_mem _ (List.mem_append_left _ (List.mem_append_left _ (List.mem_of_getElem? (i := 12) rfl)))) (mem_cA (List.mem_cons_of_mem _ (List.mem_append_left _ (List.mem_append_left _ (List.mem_of_getElem? (i := 13) rfl)))) (mem_cA (List.mem_cons_of_mem _ (List.mem_append_left _ (List.mem_append_left _ (List.mem_of_getElem? (i := 5) rfl)))) mem_cZ)))) (by decide +kernel)) ggX12_lose_X12_throwsIf
set_option maxRecDepth 20000 in
theorem ggX12_lose_X12_remove : GoodIn wsX12_lose wsX12_remove := goodIn_ca ((goodIn_ca (goodIn_r _ [19, 8, 20, 21, 22, 6, 23, 24, 2] rfl (by decide +kernel)) (goodIn_sub (fun _ h => List.mem_cons_of_mem _ (List.mem_append_left _ (List.mem_append_right _ h))) gw_wsX120))) (goodIn_sub (fun _ h => List.mem_cons_of_mem _ (List.mem_append_right _ h)) (all_fg _))
set_option maxRecDepth 20000 in
theorem gX12_lose_X12_remove : GoodIn wsX12_lose (wsV RX12 317 RX12 yX12_remove wsX12_remove) := goodIn_app (goodIn_m (mem_cA (List.mem_cons_of_mem _ (List.mem_append_left _ (List.mem_append_left _ (List.mem_of_getElem? (i := 15) rfl)))) (mem_cA (List.mem_cons_of_mem _ (List.mem_append_left _ (List.mem_append_left _ (List.mem_of_getElem? (i := 16) rfl)))) (mem_cA (List.mem_cons_of_mem _ (List.mem_append_left _ (List.mem_append_left _ (List.mem_of_getElem? (i := 17) rfl)))) (mem_cA (List.mem_cons_of_mem _ (List.mem_append_left _ (List.mem_append_left _ (List.mem_of_getElem? (i := 5) rfl)))) mem_cZ)))) (by decide +kernel)) ggX12_lose_X12_remove
theorem dX12_lose_0 : decode cX12_lose 0 = .ok (.aload_n 0, 1) := by decide +kernel
theorem dX12_lose_1 : decode cX12_lose 1 = .ok (.iconst 0, 1) := by decide +kernel
theorem dX12_lose_2 : decode cX12_lose 2 = .ok (.putfield 1, 3) := by decide +kernel
theorem dX12_lose_5 : decode cX12_lose 5 = .ok (.aload_n 0, 1) := by decide +kernel
theorem dX12_lose_6 : decode cX12_lose 6 = .ok (.aload_n 0, 1) := by decide +kernel
theorem dX12_lose_7 : decode cX12_lose 7 = .ok (.iload_n 1, 1) := by decide +kernel
theorem dX12_lose_8 : decode cX12_lose 8 = .ok (.invokevirtual 311, 3) := by decide +kernel
theorem dX12_lose_11 : decode cX12_lose 11 = .ok (.ifCond .ne 7, 3) := by decide +kernel
theorem dX12_lose_14 : decode cX12_lose 14 = .ok (.iconst 1, 1) := by decide +kernel
theorem dX12_lose_15 : decode cX12_lose 15 = .ok (.goto 4, 3) := by decide +kernel
theorem dX12_lose_18 : decode cX12_lose 18 = .ok (.iconst 0, 1) := by decide +kernel
theorem dX12_lose_19 : decode cX12_lose 19 = .ok (.iconst 1, 1) := by decide +kernel
theorem dX12_lose_20 : decode cX12_lose 20 = .ok (.invokevirtual 185, 3) := by decide +kernel
theorem dX12_lose_23 : decode cX12_lose 23 = .ok (.ifCond .eq 5, 3) := by decide +kernel
theorem dX12_lose_26 : decode cX12_lose 26 = .ok (.iconst 0, 1) := by decide +kernel
theorem dX12_lose_27 : decode cX12_lose 27 = .ok (.ireturn, 1) := by decide +kernel
theorem dX12_lose_28 : decode cX12_lose 28 = .ok (.aload_n 0, 1) := by decide +kernel
theorem dX12_lose_29 : decode cX12_lose 29 = .ok (.getfield 42, 3) := by decide +kernel
theorem dX12_lose_32 : decode cX12_lose 32 = .ok (.iload_n 1, 1) := by decide +kernel
theorem dX12_lose_33 : decode cX12_lose 33 = .ok (.iaload, 1) := by decide +kernel
theorem dX12_lose_34 : decode cX12_lose 34 = .ok (.istore_n 2, 1) := by decide +kernel
theorem dX12_lose_35 : decode cX12_lose 35 = .ok (.aload_n 0, 1) := by decide +kernel
theorem dX12_lose_36 : decode cX12_lose 36 = .ok (.iload_n 1, 1) := by decide +kernel
theorem dX12_lose_37 : decode cX12_lose 37 = .ok (.invokevirtual 317, 3) := by decide +kernel
theorem dX12_lose_40 : decode cX12_lose 40 = .ok (.iload_n 2, 1) := by decide +kernel
theorem dX12_lose_41 : decode cX12_lose 41 = .ok (.ireturn, 1) := by decide +kernel
set_option maxRecDepth 20000 in
theorem ggX12_duplicate_X12_isMessage : GoodIn wsX12_duplicate wsX12_isMessage := (goodIn_ca (goodIn_r _ [7, 2, 8, 9, 6, 10] rfl (by decide +kernel)) (goodIn_sub (fun _ h => List.mem_cons_of_mem _ (List.mem_append_left _ (List.mem_append_right _ h))) gw_wsX120))
set_option maxRecDepth 20000 in
theorem gX12_duplicate_X12_isMessage : GoodIn wsX12_duplicate (wsV RX12 311 RX12 yX12_isMessage wsX12_isMessage) := goodIn_app (goodIn_m (mem_cA (List.mem_cons_of_mem _ (List.mem_append_left _ (List.mem_append_left _ (List.mem_of_getElem? (i := 2) rfl)))) (mem_cA (List.mem_cons_of_mem _ (List.mem_append_left _ (List.mem_append_left _ (List.mem_of_getElem? (i := 3) rfl)))) (mem_cA (List.mem_cons_of_mem _ (List.mem_append_left _ (List.mem_append_left _ (List.mem_of_getElem? (i := 4) rfl)))) (mem_cA (List.mem_cons_of_mem _ (List.mem_append_left _ (List.mem_append_left _ (List.mem_of_getElem? (i := 5) rfl)))) mem_cZ)))) (by decide +kernel)) ggX12_duplicate_X12_isMessage
set_option maxRecDepth 20000 in
theorem ggX12_duplicate_X12_throwsIf : GoodIn wsX12_duplicate wsX12_throwsIf := (goodIn_ca (goodIn_r _ [14, 1] rfl (by decide +kernel)) (goodIn_sub (fun _ h => List.mem_cons_of_mem _ (List.mem_append_left _ (List.mem_append_right _ h))) gw_wsX120))
set_option maxRecDepth 20000 in
theorem gX12_duplicate_X12_throwsIf : GoodIn wsX12_duplicate (wsV RX12 185 RX12 yX12_throwsIf wsX12_throwsIf) := goodIn_app (goodIn_m (mem_cA (List.mem_cons_of_mem _ (List.mem_append_left _ (List.mem_append_left _ (List.mem_of_getElem? (i := 10) rfl)))) (mem_cA (List.mem_cons_of_mem _ (List.mem_append_left _ (List.mem_append_left _ (List.mem_of_getElem? (i := 11) rfl)))) (mem_cA (List.mem_cons_of_mem _ (List.mem_append_left _ (List.mem_append_left _ (List.mem_of_getElem? (i := 12) rfl)))) (mem_cA (List.mem_cons_of_mem _ (List.mem_append_left _ (List.mem_append_left _ (List.mem_of_getElem? (i := 5) rfl)))) mem_cZ)))) (by decide +kernel)) ggX12_duplicate_X12_throwsIf
set_option maxRecDepth 20000 in
theorem ggX12_duplicate_X12_copyMessage : GoodIn wsX12_duplicate wsX12_copyMessage := goodIn_ca ((goodIn_ca (goodIn_r _ [18, 19, 20] rfl (by decide +kernel)) (goodIn_sub (fun _ h => List.mem_cons_of_mem _ (List.mem_append_left _ (List.mem_append_right _ h))) gw_wsX120))) (goodIn_sub (fun _ h => List.mem_cons_of_mem _ (List.mem_append_right _ h)) (all_fg _))
set_option maxRecDepth 20000 in
theorem gX12_duplicate_X12_copyMessage : GoodIn wsX12_duplicate (wsV RX12 314 RX12 yX12_copyMessage wsX12_copyMessage) := goodIn_app (goodIn_m (mem_cA (List.mem_cons_of_mem _ (List.mem_append_left _ (List.mem_append_left _ (List.mem_of_getElem? (i := 14) rfl)))) (mem_cA (List.mem_cons_of_mem _ (List.mem_append_left _ (List.mem_append_left _ (List.mem_of_getElem? (i := 15) rfl)))) (mem_cA (List.mem_cons_of_mem _ (List.mem_append_left _ (List.mem_append_left _ (List.mem_of_getElem? (i := 16) rfl)))) (mem_cA (List.mem_cons_of_mem _ (List.mem_append_left _ (List.mem_append_left _ (List.mem_of_getElem? (i := 5) rfl)))) mem_cZ)))) (by decide +kernel)) ggX12_duplicate_X12_copyMessage
theorem dX12_duplicate_0 : decode cX12_duplicate 0 = .ok (.aload_n 0, 1) := by decide +kernel
theorem dX12_duplicate_1 : decode cX12_duplicate 1 = .ok (.iconst 0, 1) := by decide +kernel
theorem dX12_duplicate_2 : decode cX12_duplicate 2 = .ok (.putfield 1, 3) := by decide +kernel
theorem dX12_duplicate_5 : decode cX12_duplicate 5 = .ok (.aload_n 0, 1) := by decide +kernel
theorem dX12_duplicate_6 : decode cX12_duplicate 6 = .ok (.aload_n 0, 1) := by decide +kernel
theorem dX12_duplicate_7 : decode cX12_duplicate 7 = .ok (.iload_n 1, 1) := by decide +kernel
theorem dX12_duplicate_8 : decode cX12_duplicate 8 = .ok (.invokevirtual 311, 3) := by decide +kernel
theorem dX12_duplicate_11 : decode cX12_duplicate 11 = .ok (.ifCond .ne 7, 3) := by decide +kernel
theorem dX12_duplicate_14 : decode cX12_duplicate 14 = .ok (.iconst 1, 1) := by decide +kernel
theorem dX12_duplicate_15 : decode cX12_duplicate 15 = .ok (.goto 4, 3) := by decide +kernel
theorem dX12_duplicate_18 : decode cX12_duplicate 18 = .ok (.iconst 0, 1) := by decide +kernel
theorem dX12_duplicate_19 : decode cX12_duplicate 19 = .ok (.iconst 1, 1) := by decide +kernel
theorem dX12_duplicate_20 : decode cX12_duplicate 20 = .ok (.invokevirtual 185, 3) := by decide +kernel
theorem dX12_duplicate_23 : decode cX12_duplicate 23 = .ok (.ifCond .ne 12, 3) := by decide +kernel
theorem dX12_duplicate_26 : decode cX12_duplicate 26 = .ok (.aload_n 0, 1) := by decide +kernel
theorem dX12_duplicate_27 : decode cX12_duplicate 27 = .ok (.getfield 139, 3) := by decide +kernel
theorem dX12_duplicate_30 : decode cX12_duplicate 30 = .ok (.bipush 12, 2) := by decide +kernel
theorem dX12_duplicate_32 : decode cX12_duplicate 32 = .ok (.if_icmp .ne 5, 3) := by decide +kernel
theorem dX12_duplicate_35 : decode cX12_duplicate 35 = .ok (.iconst 0, 1) := by decide +kernel
theorem dX12_duplicate_36 : decode cX12_duplicate 36 = .ok (.ireturn, 1) := by decide +kernel
theorem dX12_duplicate_37 : decode cX12_duplicate 37 = .ok (.aload_n 0, 1) := by decide +kernel
theorem dX12_duplicate_38 : decode cX12_duplicate 38 = .ok (.iload_n 1, 1) := by decide +kernel
theorem dX12_duplicate_39 : decode cX12_duplicate 39 = .ok (.aload_n 0, 1) := by decide +kernel
theorem dX12_duplicate_40 : decode cX12_duplicate 40 = .ok (.getfield 139, 3) := by decide +kernel
theorem dX12_duplicate_43 : decode cX12_duplicate 43 = .ok (.invokevirtual 314, 3) := by decide +kernel
theorem dX12_duplicate_46 : decode cX12_duplicate 46 = .ok (.aload_n 0, 1) := by decide +kernel
theorem dX12_duplicate_47 : decode cX12_duplicate 47 = .ok (.dup, 1) := by decide +kernel
theorem dX12_duplicate_48 : decode cX12_duplicate 48 = .ok (.getfield 139, 3) := by decide +kernel
theorem dX12_duplicate_51 : decode cX12_duplicate 51 = .ok (.iconst 1, 1) := by decide +kernel
theorem dX12_duplicate_52 : decode cX12_duplicate 52 = .ok (.iadd, 1) := by decide +kernel
theorem dX12_duplicate_53 : decode cX12_duplicate 53 = .ok (.putfield 139, 3) := by decide +kernel
theorem dX12_duplicate_56 : decode cX12_duplicate 56 = .ok (.iconst 1, 1) := by decide +kernel
theorem dX12_duplicate_57 : decode cX12_duplicate 57 = .ok (.ireturn, 1) := by decide +kernel
set_option maxHeartbeats 4000000 in
set_option maxRecDepth 100000 in
theorem r_copyMessage (G : EnvG) (l : Launch) (Φ : Hm) (sz x : Nat) (rd : (Nat → Int32) → Prop) (nw : (Nat → Int32) → Prop) (cr : (Nat → Int64) → Prop) (tp : (Nat → Int32) → Prop) (tt : (Nat → Int64) → Prop) (fl : Nat) (pe : Nat) (le : Nat) (nx : Nat) (il : Nat) (qu : Nat) (kn : Int32) (ec : Int32) (nu : Int32) (va : Int64) (st : Nat) (ep : Int32) (ti : Int32) (ad : Int32) (ob : Int64) (ra : Int32) (rt : Nat) (ex : Int32) (sa : Int64) (us : Int64) (tk : Nat) (th : Int32) (f : Nat) (t : Nat) (hx : G.2.2.2 ≤ x) (hI : Im G x (rd, nw, cr, tp, tt, fl, pe, le, nx, il, qu, kn, ec, nu, va, st, ep, ti, ad, ob, ra, rt, ex, sa, us, tk, th) Φ) (hf : f < 12) (ht : t < 12) (hnw : ∀ f9 : Nat → Int32, nw f9 → NN f9) : Ct G l yX12_copyMessage wsX12_copyMessage ({ frames := 0, cells := 0, slots := 0, locals := 0 }) 0 0 [.ref x, .int (nI f), .int (nI t)] Φ sz (fun v Φ1 sz1 => (v = none) ∧ sz1 = sz ∧ (Im G x (rd, nw, cr, tp, tt, fl, pe, le, nx, il, qu, kn, ec, nu, va, st, ep, ti, ad, ob, ra, rt, ex, sa, us, tk, th) Φ1) ∧ Fr x (fun j9 => j9 = 9 ∨ j9 = 10) Φ Φ1) := by
  refine Ct.of (cc := cX12_copyMessage) (maxL := 4) (ret := none) (by decide) rfl (Nat.le_of_ble_eq_true rfl) ?_
  intro p9 e9 s9 m9 w9 t9 k9 B
  show Z p9 l e9 _ s9 m9 _ w9 t9 k9 _ G 4 0 [(0, .ref x), (1, .int (nI f)), (2, .int (nI t))] [] Φ sz 0 0
  refine z_iconst (v := 0) B dX12_copyMessage_0 rfl ?_
  refine z_istore_n (lv' := [(3, .int 0), (0, .ref x), (1, .int (nI f)), (2, .int (nI t))]) B dX12_copyMessage_1 rfl (Nat.le_of_ble_eq_true rfl) rfl ?_
  refine z_lv [0, 1, 2, 3] rfl ?_
  refine z_loop (α := Nat) (fun (a9 : Nat) Φi => Im G x (rd, nw, cr, tp, tt, fl, pe, le, nx, il, qu, kn, ec, nu, va, st, ep, ti, ad, ob, ra, rt, ex, sa, us, tk, th) Φi ∧ Fr x (fun j9 => j9 = 9) Φ Φi ∧ (a9 ≤ 600) ∧ True) (fun a9 => [(3, .int (nI a9)), (0, .ref x), (1, .int (nI f)), (2, .int (nI t))]) (fun a9 => 600 - a9) ?_ (0) ⟨hI, fun _ _ => rfl, (show 0 ≤ 600 by omega), trivial⟩
  rintro i_1 Φl1 ⟨hI1, hF1, b_1, -⟩ ih1
  replace hI1 : Im G x (rd, nw, cr, tp, tt, fl, pe, le, nx, il, qu, kn, ec, nu, va, st, ep, ti, ad, ob, ra, rt, ex, sa, us, tk, th) Φl1 := hI1
  replace b_1 : i_1 ≤ 600 := b_1
  show Z p9 l e9 _ s9 m9 _ w9 t9 k9 _ G 4 2 [(3, .int (nI i_1)), (0, .ref x), (1, .int (nI f)), (2, .int (nI t))] [] Φl1 _ _ _
  refine z_iload_n B dX12_copyMessage_2 rfl 0 rfl ?_
  refine z_sipush (v := 600) B dX12_copyMessage_3 rfl ?_
  refine z_icmp_ge (tgt := 39) B dX12_copyMessage_6 rfl (fun c_1 => ?_) (fun c_1 => ?_)
  · have e_1 : 600 ≤ i_1 := (nI_leI (a := 600) (b := i_1) (by omega) (by omega)).mp c_1
    refine z_aload_n B dX12_copyMessage_39 rfl 1 rfl ?_
    obtain ⟨v_1, v_2, v_3, v_4, n_1, v_5, n_2, h_1, b_14, b_2, b_3, b_4, b_5, b_6, b_7, b_8, b_9, b_10, b_11, b_12, b_13⟩ := im0 hI1
    replace b_2 : 1 ≤ rt := b_2
    replace b_3 : rt ≤ 1024 := b_3
    replace b_4 : fl ≤ 12 := b_4
    replace b_5 : pe ≤ 24 := b_5
    replace b_6 : le ≤ 700 := b_6
    replace b_7 : qu ≤ 12 := b_7
    replace b_8 : n_1 ≤ 8 := b_8
    replace b_9 : n_2 ≤ 24 := b_9
    replace b_10 : tk ≤ 24 := b_10
    replace b_11 : il ≤ 700 := b_11
    replace b_12 : nx ≤ 701 := b_12
    replace b_13 : st ≤ 701 := b_13
    have h_2 : Φl1 x = some (o_ 14 [.int th, .ref (x + 1), .ref (x + 2), .int ti, .int ra, .int (nI rt), .int ex, .int ad, .ref (x + 3), .ref (x + 4), .int v_1, .long v_2, .ref (x + 5), .int (nI fl), .int v_3, .long ob, .long sa, .long v_4, .long us, .ref (x + 6), .ref (x + 7), .int (nI pe), .ref (x + 8), .int (nI le), .ref (x + 9), .ref (x + 10), .int (nI qu), .ref (x + 11), .ref (x + 12), .ref (x + 13), .ref (x + 14), .ref (x + 15), .ref (x + 16), .int (nI n_1), .long v_5, .ref (x + 17), .ref (x + 18), .ref (x + 19), .ref (x + 20), .ref (x + 21), .ref (x + 22), .int (nI n_2), .ref (x + 23), .ref (x + 24), .int (nI tk), .ref (x + 25), .int (nI il), .int (nI nx), .int ec, .int ep, .int kn, .int (nI st), .int nu, .long va]) := h_1
    refine z_get (ref := "FlowExporterModel") (C := RX12) (T := TX12) (N := 54) (ci := 14) (v := .ref (x + 10)) B hu_X12_copyMessage_X12 rfl 25 (Nat.le_of_ble_eq_true rfl) hv_X12_copyMessage_42 rfl h_2 rfl dX12_copyMessage_40 ?_
    refine z_iload_n B dX12_copyMessage_43 rfl 3 rfl ?_
    refine z_aload_n B dX12_copyMessage_44 rfl 1 rfl ?_
    refine z_get (ref := "FlowExporterModel") (C := RX12) (T := TX12) (N := 54) (ci := 14) (v := .ref (x + 10)) B hu_X12_copyMessage_X12 rfl 25 (Nat.le_of_ble_eq_true rfl) hv_X12_copyMessage_42 rfl h_2 rfl dX12_copyMessage_45 ?_
    refine z_iload_n B dX12_copyMessage_48 rfl 2 rfl ?_
    obtain ⟨f_1, h_3, r_1⟩ := imk (k := 10) hI1
    replace r_1 : Rw 600 f_1 := r_1
    have h_4 : Φl1 (x + 10) = some (ai_ G 12 f_1) := h_3
    refine z_iald B h_4 (vp_in_nI (by omega) (by omega)) dX12_copyMessage_49 ?_
    obtain ⟨n_3, b_15, e_2⟩ := r_1 ((nI f).toNatClampNeg)
    refine z_top (st1 := [.int (nI n_3), .int (nI t), .ref (x + 10)]) (congrArg (fun w9 : Int32 => ([.int w9, .int (nI t), .ref (x + 10)] : List Value)) (e_2)) ?_
    refine z_iast B h_4 (Nat.le_trans hx (Nat.le_add_right x 10)) (vp_in_nI (by omega) (by omega)) dX12_copyMessage_50 (fun Φ1 hΦ1 => ?_)
    have h_5 : Φ1 (x + 10) = some (ai_ G 12 (upd f_1 (nI t).toNatClampNeg (nI n_3))) := fset_at hΦ1
    have hI2 : Im G x (rd, nw, cr, tp, tt, fl, pe, le, nx, il, qu, kn, ec, nu, va, st, ep, ti, ad, ob, ra, rt, ex, sa, us, tk, th) Φ1 := Im.put (k := 10) hI1 hΦ1 ⟨_, rfl, Rw.up (n := n_3) r_1 (show n_3 ≤ 600 by omega)⟩
    exact z_ret_v B dX12_copyMessage_51 ⟨rfl, rfl, hI2, (fun b9 h9 => ((fset_fr hΦ1 (fun h8 => h9 (10) h8 (show 10 = 9 ∨ 10 = 10 by decide))).trans ((hF1 b9 (fun j9 h8 h7 => h9 j9 h8 (fq_1048 j9 h7))).trans rfl)))⟩
  · have e_3 : ¬ (600 ≤ i_1) := fun h9 => c_1 ((nI_leI (a := 600) (b := i_1) (by omega) (by omega)).mpr h9)
    refine z_aload_n B dX12_copyMessage_9 rfl 1 rfl ?_
    obtain ⟨v_6, v_7, v_8, v_9, n_4, v_10, n_5, h_6, b_28, b_16, b_17, b_18, b_19, b_20, b_21, b_22, b_23, b_24, b_25, b_26, b_27⟩ := im0 hI1
    replace b_16 : 1 ≤ rt := b_16
    replace b_17 : rt ≤ 1024 := b_17
    replace b_18 : fl ≤ 12 := b_18
    replace b_19 : pe ≤ 24 := b_19
    replace b_20 : le ≤ 700 := b_20
    replace b_21 : qu ≤ 12 := b_21
    replace b_22 : n_4 ≤ 8 := b_22
    replace b_23 : n_5 ≤ 24 := b_23
    replace b_24 : tk ≤ 24 := b_24
    replace b_25 : il ≤ 700 := b_25
    replace b_26 : nx ≤ 701 := b_26
    replace b_27 : st ≤ 701 := b_27
    have h_7 : Φl1 x = some (o_ 14 [.int th, .ref (x + 1), .ref (x + 2), .int ti, .int ra, .int (nI rt), .int ex, .int ad, .ref (x + 3), .ref (x + 4), .int v_6, .long v_7, .ref (x + 5), .int (nI fl), .int v_8, .long ob, .long sa, .long v_9, .long us, .ref (x + 6), .ref (x + 7), .int (nI pe), .ref (x + 8), .int (nI le), .ref (x + 9), .ref (x + 10), .int (nI qu), .ref (x + 11), .ref (x + 12), .ref (x + 13), .ref (x + 14), .ref (x + 15), .ref (x + 16), .int (nI n_4), .long v_10, .ref (x + 17), .ref (x + 18), .ref (x + 19), .ref (x + 20), .ref (x + 21), .ref (x + 22), .int (nI n_5), .ref (x + 23), .ref (x + 24), .int (nI tk), .ref (x + 25), .int (nI il), .int (nI nx), .int ec, .int ep, .int kn, .int (nI st), .int nu, .long va]) := h_6
    refine z_get (ref := "FlowExporterModel") (C := RX12) (T := TX12) (N := 54) (ci := 14) (v := .ref (x + 9)) B hu_X12_copyMessage_X12 rfl 24 (Nat.le_of_ble_eq_true rfl) hv_X12_copyMessage_39 rfl h_7 rfl dX12_copyMessage_10 ?_
    refine z_sipush (v := 600) B dX12_copyMessage_13 rfl ?_
    refine z_iload_n B dX12_copyMessage_16 rfl 3 rfl ?_
    refine z_imul B dX12_copyMessage_17 ?_
    refine z_top (st1 := [.int (nI (600 * t)), .ref (x + 9)]) (congrArg (fun w9 : Int32 => ([.int w9, .ref (x + 9)] : List Value)) (nI_mul 600 t)) ?_
    refine z_iload_n B dX12_copyMessage_18 rfl 0 rfl ?_
    refine z_iadd B dX12_copyMessage_19 ?_
    refine z_top (st1 := [.int (nI (600 * t + i_1)), .ref (x + 9)]) (congrArg (fun w9 : Int32 => ([.int w9, .ref (x + 9)] : List Value)) (nI_add (600 * t) i_1)) ?_
    refine z_aload_n B dX12_copyMessage_20 rfl 1 rfl ?_
    refine z_get (ref := "FlowExporterModel") (C := RX12) (T := TX12) (N := 54) (ci := 14) (v := .ref (x + 9)) B hu_X12_copyMessage_X12 rfl 24 (Nat.le_of_ble_eq_true rfl) hv_X12_copyMessage_39 rfl h_7 rfl dX12_copyMessage_21 ?_
    refine z_sipush (v := 600) B dX12_copyMessage_24 rfl ?_
    refine z_iload_n B dX12_copyMessage_27 rfl 2 rfl ?_
    refine z_imul B dX12_copyMessage_28 ?_
    refine z_top (st1 := [.int (nI (600 * f)), .ref (x + 9), .int (nI (600 * t + i_1)), .ref (x + 9)]) (congrArg (fun w9 : Int32 => ([.int w9, .ref (x + 9), .int (nI (600 * t + i_1)), .ref (x + 9)] : List Value)) (nI_mul 600 f)) ?_
    refine z_iload_n B dX12_copyMessage_29 rfl 0 rfl ?_
    refine z_iadd B dX12_copyMessage_30 ?_
    refine z_top (st1 := [.int (nI (600 * f + i_1)), .ref (x + 9), .int (nI (600 * t + i_1)), .ref (x + 9)]) (congrArg (fun w9 : Int32 => ([.int w9, .ref (x + 9), .int (nI (600 * t + i_1)), .ref (x + 9)] : List Value)) (nI_add (600 * f) i_1)) ?_
    obtain ⟨f_2, h_8, r_2⟩ := imk (k := 9) hI1
    replace r_2 : Rw 255 f_2 := r_2
    have h_9 : Φl1 (x + 9) = some (ai_ G 7200 f_2) := h_8
    refine z_iald B h_9 (vp_in_nI (by omega) (by omega)) dX12_copyMessage_31 ?_
    obtain ⟨n_6, b_29, e_4⟩ := r_2 ((nI (600 * f + i_1)).toNatClampNeg)
    refine z_top (st1 := [.int (nI n_6), .int (nI (600 * t + i_1)), .ref (x + 9)]) (congrArg (fun w9 : Int32 => ([.int w9, .int (nI (600 * t + i_1)), .ref (x + 9)] : List Value)) (e_4)) ?_
    refine z_iast B h_9 (Nat.le_trans hx (Nat.le_add_right x 9)) (vp_in_nI (by omega) (by omega)) dX12_copyMessage_32 (fun Φ2 hΦ2 => ?_)
    have h_10 : Φ2 (x + 9) = some (ai_ G 7200 (upd f_2 (nI (600 * t + i_1)).toNatClampNeg (nI n_6))) := fset_at hΦ2
    have hI3 : Im G x (rd, nw, cr, tp, tt, fl, pe, le, nx, il, qu, kn, ec, nu, va, st, ep, ti, ad, ob, ra, rt, ex, sa, us, tk, th) Φ2 := Im.put (k := 9) hI1 hΦ2 ⟨_, rfl, Rw.up (n := n_6) r_2 (show n_6 ≤ 255 by omega)⟩
    refine z_iinc (k := 0) (v := nI (i_1 + 1)) (lv' := [(3, .int (nI (i_1 + 1))), (0, .ref x), (1, .int (nI f)), (2, .int (nI t))]) B dX12_copyMessage_33 rfl (nI_add i_1 1) (Nat.le_of_ble_eq_true rfl) rfl ?_
    refine z_goto (tgt := 2) B dX12_copyMessage_36 rfl ?_
    refine z_lv [0, 1, 2, 3] rfl ?_
    exact ih1 (i_1 + 1) Φ2 (show 600 - (i_1 + 1) < 600 - i_1 by omega) ⟨hI3, (fun b9 h9 => ((fset_fr hΦ2 (fun h8 => h9 (9) h8 (show 9 = 9 by decide))).trans ((hF1 b9 h9).trans rfl))), (show (i_1 + 1) ≤ 600 by omega), trivial⟩

theorem hu_X12_remove_X12 : ∀ w ∈ u_ws RX12 TX12 54, w ∈ wsX12_remove := fun _ h => List.mem_cons_of_mem _ (List.mem_append_left _ (List.mem_append_right _ (h)))

theorem hv_X12_remove_139 : Cond.fieldLink RX12 139 "FlowExporterModel" (TX12 26).2.1 (TX12 26).2.2.1 ∈ wsX12_remove := List.mem_cons_of_mem _ (List.mem_append_left _ (List.mem_append_left _ (List.mem_of_getElem? (i := 0) rfl)))

theorem fq_1052 {x : Nat} : ∀ j9 : Nat, x = x + j9 → (j9 = 9 ∨ j9 = 10) → False := by
  intro j9 h1 h2
  omega

theorem fq_1053 : ∀ j9 : Nat, (j9 = 9 ∨ j9 = 10) → (j9 = 0 ∨ j9 = 9 ∨ j9 = 10) := by
  intro j9 h
  omega

set_option maxHeartbeats 4000000 in
set_option maxRecDepth 100000 in
theorem r_remove (G : EnvG) (l : Launch) (Φ : Hm) (sz x : Nat) (rd : (Nat → Int32) → Prop) (nw : (Nat → Int32) → Prop) (cr : (Nat → Int64) → Prop) (tp : (Nat → Int32) → Prop) (tt : (Nat → Int64) → Prop) (fl : Nat) (pe : Nat) (le : Nat) (nx : Nat) (il : Nat) (qu : Nat) (kn : Int32) (ec : Int32) (nu : Int32) (va : Int64) (st : Nat) (ep : Int32) (ti : Int32) (ad : Int32) (ob : Int64) (ra : Int32) (rt : Nat) (ex : Int32) (sa : Int64) (us : Int64) (tk : Nat) (th : Int32) (i : Nat) (hx : G.2.2.2 ≤ x) (hI : Im G x (rd, nw, cr, tp, tt, fl, pe, le, nx, il, qu, kn, ec, nu, va, st, ep, ti, ad, ob, ra, rt, ex, sa, us, tk, th) Φ) (hi : i < qu) (hnw : ∀ f9 : Nat → Int32, nw f9 → NN f9) : Ct G l yX12_remove wsX12_remove ({ frames := 1, cells := 0, slots := 0, locals := 23 }) 0 0 [.ref x, .int (nI i)] Φ sz (fun v Φ1 sz1 => (v = none) ∧ sz1 = sz ∧ (∃ (qu1 : Nat), (qu1 + 1 = qu) ∧ Im G x (rd, nw, cr, tp, tt, fl, pe, le, nx, il, qu1, kn, ec, nu, va, st, ep, ti, ad, ob, ra, rt, ex, sa, us, tk, th) Φ1) ∧ Fr x (fun j9 => j9 = 0 ∨ j9 = 9 ∨ j9 = 10) Φ Φ1) := by
  refine Ct.of (cc := cX12_remove) (maxL := 3) (ret := none) (by decide) rfl (Nat.le_of_ble_eq_true rfl) ?_
  intro p9 e9 s9 m9 w9 t9 k9 B
  show Z p9 l e9 _ s9 m9 _ w9 t9 k9 _ G 3 0 [(0, .ref x), (1, .int (nI i))] [] Φ sz 0 0
  refine z_aload_n B dX12_remove_0 rfl 0 rfl ?_
  refine z_dup B dX12_remove_1 rfl ?_
  obtain ⟨v_1, v_2, v_3, v_4, n_1, v_5, n_2, h_1, b_13, b_1, b_2, b_3, b_4, b_5, b_6, b_7, b_8, b_9, b_10, b_11, b_12⟩ := im0 hI
  replace b_1 : 1 ≤ rt := b_1
  replace b_2 : rt ≤ 1024 := b_2
  replace b_3 : fl ≤ 12 := b_3
  replace b_4 : pe ≤ 24 := b_4
  replace b_5 : le ≤ 700 := b_5
  replace b_6 : qu ≤ 12 := b_6
  replace b_7 : n_1 ≤ 8 := b_7
  replace b_8 : n_2 ≤ 24 := b_8
  replace b_9 : tk ≤ 24 := b_9
  replace b_10 : il ≤ 700 := b_10
  replace b_11 : nx ≤ 701 := b_11
  replace b_12 : st ≤ 701 := b_12
  have h_2 : Φ x = some (o_ 14 [.int th, .ref (x + 1), .ref (x + 2), .int ti, .int ra, .int (nI rt), .int ex, .int ad, .ref (x + 3), .ref (x + 4), .int v_1, .long v_2, .ref (x + 5), .int (nI fl), .int v_3, .long ob, .long sa, .long v_4, .long us, .ref (x + 6), .ref (x + 7), .int (nI pe), .ref (x + 8), .int (nI le), .ref (x + 9), .ref (x + 10), .int (nI qu), .ref (x + 11), .ref (x + 12), .ref (x + 13), .ref (x + 14), .ref (x + 15), .ref (x + 16), .int (nI n_1), .long v_5, .ref (x + 17), .ref (x + 18), .ref (x + 19), .ref (x + 20), .ref (x + 21), .ref (x + 22), .int (nI n_2), .ref (x + 23), .ref (x + 24), .int (nI tk), .ref (x + 25), .int (nI il), .int (nI nx), .int ec, .int ep, .int kn, .int (nI st), .int nu, .long va]) := h_1
  refine z_get (ref := "FlowExporterModel") (C := RX12) (T := TX12) (N := 54) (ci := 14) (v := .int (nI qu)) B hu_X12_remove_X12 rfl 26 (Nat.le_of_ble_eq_true rfl) hv_X12_remove_139 rfl h_2 rfl dX12_remove_2 ?_
  refine z_iconst (v := 1) B dX12_remove_5 rfl ?_
  refine z_isub B dX12_remove_6 ?_
  refine z_top (st1 := [.int (nI (qu - 1)), .ref x]) (congrArg (fun w9 : Int32 => ([.int w9, .ref x] : List Value)) (nI_sub (show 1 ≤ qu by omega))) ?_
  refine z_put (ref := "FlowExporterModel") (C := RX12) (T := TX12) (N := 54) (ci := 14) (v := .int (nI (qu - 1))) B hu_X12_remove_X12 tyX12 tyX12_ok nmX12 rfl 26 (Nat.le_of_ble_eq_true rfl) hv_X12_remove_139 rfl (Or.inl rfl) h_2 hx rfl rfl (Nat.le_of_ble_eq_true rfl) dX12_remove_7 (fun Φ1 hΦ1 => ?_)
  have h_3 : Φ1 x = some (o_ 14 [.int th, .ref (x + 1), .ref (x + 2), .int ti, .int ra, .int (nI rt), .int ex, .int ad, .ref (x + 3), .ref (x + 4), .int v_1, .long v_2, .ref (x + 5), .int (nI fl), .int v_3, .long ob, .long sa, .long v_4, .long us, .ref (x + 6), .ref (x + 7), .int (nI pe), .ref (x + 8), .int (nI le), .ref (x + 9), .ref (x + 10), .int (nI (qu - 1)), .ref (x + 11), .ref (x + 12), .ref (x + 13), .ref (x + 14), .ref (x + 15), .ref (x + 16), .int (nI n_1), .long v_5, .ref (x + 17), .ref (x + 18), .ref (x + 19), .ref (x + 20), .ref (x + 21), .ref (x + 22), .int (nI n_2), .ref (x + 23), .ref (x + 24), .int (nI tk), .ref (x + 25), .int (nI il), .int (nI nx), .int ec, .int ep, .int kn, .int (nI st), .int nu, .long va]) := fset_at hΦ1
  have hI1 : Im G x (rd, nw, cr, tp, tt, fl, pe, le, nx, il, qu - 1, kn, ec, nu, va, st, ep, ti, ad, ob, ra, rt, ex, sa, us, tk, th) Φ1 := Im.put0 hI hΦ1 ⟨v_1, v_2, v_3, v_4, n_1, v_5, n_2, rfl, b_13, b_1, b_2, b_3, b_4, b_5, (show (qu - 1) ≤ 12 by omega), b_7, b_8, b_9, b_10, b_11, b_12⟩
  refine z_iload_n B dX12_remove_10 rfl 1 rfl ?_
  refine z_istore_n (lv' := [(2, .int (nI i)), (0, .ref x), (1, .int (nI i))]) B dX12_remove_11 rfl (Nat.le_of_ble_eq_true rfl) rfl ?_
  refine z_lv [0, 1, 2] rfl ?_
  refine z_loop (α := Nat) (fun (a9 : Nat) Φi => Im G x (rd, nw, cr, tp, tt, fl, pe, le, nx, il, qu - 1, kn, ec, nu, va, st, ep, ti, ad, ob, ra, rt, ex, sa, us, tk, th) Φi ∧ Fr x (fun j9 => j9 = 9 ∨ j9 = 10) Φ1 Φi ∧ (a9 ≤ 12) ∧ True) (fun a9 => [(2, .int (nI a9)), (0, .ref x), (1, .int (nI i))]) (fun a9 => 12 - a9) ?_ (i) ⟨hI1, fun _ _ => rfl, (show i ≤ 12 by omega), trivial⟩
  rintro i_1 Φl1 ⟨hI2, hF1, b_14, -⟩ ih1
  replace hI2 : Im G x (rd, nw, cr, tp, tt, fl, pe, le, nx, il, qu - 1, kn, ec, nu, va, st, ep, ti, ad, ob, ra, rt, ex, sa, us, tk, th) Φl1 := hI2
  replace b_14 : i_1 ≤ 12 := b_14
  show Z p9 l e9 _ s9 m9 _ w9 t9 k9 _ G 3 12 [(2, .int (nI i_1)), (0, .ref x), (1, .int (nI i))] [] Φl1 _ _ _
  refine z_iload_n B dX12_remove_12 rfl 0 rfl ?_
  refine z_aload_n B dX12_remove_13 rfl 1 rfl ?_
  have h_4 : Φl1 x = some (o_ 14 [.int th, .ref (x + 1), .ref (x + 2), .int ti, .int ra, .int (nI rt), .int ex, .int ad, .ref (x + 3), .ref (x + 4), .int v_1, .long v_2, .ref (x + 5), .int (nI fl), .int v_3, .long ob, .long sa, .long v_4, .long us, .ref (x + 6), .ref (x + 7), .int (nI pe), .ref (x + 8), .int (nI le), .ref (x + 9), .ref (x + 10), .int (nI (qu - 1)), .ref (x + 11), .ref (x + 12), .ref (x + 13), .ref (x + 14), .ref (x + 15), .ref (x + 16), .int (nI n_1), .long v_5, .ref (x + 17), .ref (x + 18), .ref (x + 19), .ref (x + 20), .ref (x + 21), .ref (x + 22), .int (nI n_2), .ref (x + 23), .ref (x + 24), .int (nI tk), .ref (x + 25), .int (nI il), .int (nI nx), .int ec, .int ep, .int kn, .int (nI st), .int nu, .long va]) := ((hF1 x fq_1052).trans h_3)
  refine z_get (ref := "FlowExporterModel") (C := RX12) (T := TX12) (N := 54) (ci := 14) (v := .int (nI (qu - 1))) B hu_X12_remove_X12 rfl 26 (Nat.le_of_ble_eq_true rfl) hv_X12_remove_139 rfl h_4 rfl dX12_remove_14 ?_
  refine z_icmp_ge (tgt := 34) B dX12_remove_17 rfl (fun c_1 => ?_) (fun c_1 => ?_)
  · have e_1 : qu - 1 ≤ i_1 := (nI_leI (a := qu - 1) (b := i_1) (by omega) (by omega)).mp c_1
    exact z_ret_v B dX12_remove_34 ⟨rfl, rfl, ⟨qu - 1, (show (qu - 1) + 1 = qu by omega), hI2⟩, (fun b9 h9 => ((hF1 b9 (fun j9 h8 h7 => h9 j9 h8 (fq_1053 j9 h7))).trans ((fset_fr hΦ1 (fun h8 => h9 (0) h8 (show 0 = 0 ∨ 0 = 9 ∨ 0 = 10 by decide))).trans rfl)))⟩
  · have e_2 : ¬ (qu - 1 ≤ i_1) := fun h9 => c_1 ((nI_leI (a := qu - 1) (b := i_1) (by omega) (by omega)).mpr h9)
    refine z_aload_n B dX12_remove_20 rfl 1 rfl ?_
    refine z_iload_n B dX12_remove_21 rfl 0 rfl ?_
    refine z_iconst (v := 1) B dX12_remove_22 rfl ?_
    refine z_iadd B dX12_remove_23 ?_
    refine z_top (st1 := [.int (nI (i_1 + 1)), .ref x]) (congrArg (fun w9 : Int32 => ([.int w9, .ref x] : List Value)) (nI_add i_1 1)) ?_
    refine z_iload_n B dX12_remove_24 rfl 0 rfl ?_
    refine z_callV (As := [.int (nI (i_1 + 1)), .int (nI i_1)]) (rest := []) B (r_copyMessage G l Φl1 sz x rd nw cr tp tt fl pe le nx il (qu - 1) kn ec nu va st ep ti ad ob ra rt ex sa us tk th (i_1 + 1) i_1 hx hI2 (show (i_1 + 1) < 12 by omega) (show i_1 < 12 by omega) hnw) (cwV 2 B.1.2.2.2.2 gX12_remove_X12_copyMessage rfl rfl rfl (by decide +kernel) ⟨Nat.le_of_ble_eq_true rfl, Nat.le_of_ble_eq_true rfl⟩) h_4 rfl rfl rfl rfl (Nat.le_of_ble_eq_true rfl) dX12_remove_25 ⟨Nat.le_of_ble_eq_true rfl, Nat.le_of_ble_eq_true rfl⟩ (fun r_1 Φ2 sz1 st1 hp1 hs1 => ?_)
    obtain ⟨rfl, hq1, hI3, hF2⟩ := hp1
    subst sz1
    replace hs1 : st1 = [] := hs1
    subst st1
    replace hI3 : Im G x (rd, nw, cr, tp, tt, fl, pe, le, nx, il, qu - 1, kn, ec, nu, va, st, ep, ti, ad, ob, ra, rt, ex, sa, us, tk, th) Φ2 := hI3
    refine z_iinc (k := 0) (v := nI (i_1 + 1)) (lv' := [(2, .int (nI (i_1 + 1))), (0, .ref x), (1, .int (nI i))]) B dX12_remove_28 rfl (nI_add i_1 1) (Nat.le_of_ble_eq_true rfl) rfl ?_
    refine z_goto (tgt := 12) B dX12_remove_31 rfl ?_
    refine z_lv [0, 1, 2] rfl ?_
    exact ih1 (i_1 + 1) Φ2 (show 12 - (i_1 + 1) < 12 - i_1 by omega) ⟨hI3, (fun b9 h9 => ((hF2 b9 h9).trans ((hF1 b9 h9).trans rfl))), (show (i_1 + 1) ≤ 12 by omega), trivial⟩

theorem hu_X12_lose_X12 : ∀ w ∈ u_ws RX12 TX12 54, w ∈ wsX12_lose := fun _ h => List.mem_cons_of_mem _ (List.mem_append_left _ (List.mem_append_right _ (h)))

theorem hv_X12_lose_1 : Cond.fieldLink RX12 1 "FlowExporterModel" (TX12 0).2.1 (TX12 0).2.2.1 ∈ wsX12_lose := List.mem_cons_of_mem _ (List.mem_append_left _ (List.mem_append_left _ (List.mem_of_getElem? (i := 0) rfl)))

theorem fq_1056 : ∀ j9 : Nat, (j9 = 0) → (j9 = 0 ∨ j9 = 9 ∨ j9 = 10) := by
  intro j9 h
  omega

theorem hv_X12_lose_42 : Cond.fieldLink RX12 42 "FlowExporterModel" (TX12 25).2.1 (TX12 25).2.2.1 ∈ wsX12_lose := List.mem_cons_of_mem _ (List.mem_append_left _ (List.mem_append_left _ (List.mem_of_getElem? (i := 1) rfl)))

set_option maxHeartbeats 4000000 in
set_option maxRecDepth 100000 in
theorem r_lose (G : EnvG) (l : Launch) (Φ : Hm) (sz x : Nat) (rd : (Nat → Int32) → Prop) (nw : (Nat → Int32) → Prop) (cr : (Nat → Int64) → Prop) (tp : (Nat → Int32) → Prop) (tt : (Nat → Int64) → Prop) (fl : Nat) (pe : Nat) (le : Nat) (nx : Nat) (il : Nat) (qu : Nat) (kn : Int32) (ec : Int32) (nu : Int32) (va : Int64) (st : Nat) (ep : Int32) (ti : Int32) (ad : Int32) (ob : Int64) (ra : Int32) (rt : Nat) (ex : Int32) (sa : Int64) (us : Int64) (tk : Nat) (th : Int32) (a : Int32) (hx : G.2.2.2 ≤ x) (hI : Im G x (rd, nw, cr, tp, tt, fl, pe, le, nx, il, qu, kn, ec, nu, va, st, ep, ti, ad, ob, ra, rt, ex, sa, us, tk, th) Φ) (hnw : ∀ f9 : Nat → Int32, nw f9 → NN f9) : Ct G l yX12_lose wsX12_lose ({ frames := 2, cells := 0, slots := 0, locals := 46 }) 0 0 [.ref x, .int a] Φ sz (fun v Φ1 sz1 => (∃ r9 : Int32, v = some (.int r9)) ∧ sz1 = sz ∧ (∃ (qu1 : Nat) (th1 : Int32), Im G x (rd, nw, cr, tp, tt, fl, pe, le, nx, il, qu1, kn, ec, nu, va, st, ep, ti, ad, ob, ra, rt, ex, sa, us, tk, th1) Φ1) ∧ Fr x (fun j9 => j9 = 0 ∨ j9 = 9 ∨ j9 = 10) Φ Φ1) := by
  refine Ct.of (cc := cX12_lose) (maxL := 3) (ret := (some .int)) (by decide) rfl (Nat.le_of_ble_eq_true rfl) ?_
  intro p9 e9 s9 m9 w9 t9 k9 B
  show Z p9 l e9 _ s9 m9 _ w9 t9 k9 _ G 3 0 [(0, .ref x), (1, .int a)] [] Φ sz 0 0
  refine z_aload_n B dX12_lose_0 rfl 0 rfl ?_
  refine z_iconst (v := 0) B dX12_lose_1 rfl ?_
  obtain ⟨v_1, v_2, v_3, v_4, n_1, v_5, n_2, h_1, b_13, b_1, b_2, b_3, b_4, b_5, b_6, b_7, b_8, b_9, b_10, b_11, b_12⟩ := im0 hI
  replace b_1 : 1 ≤ rt := b_1
  replace b_2 : rt ≤ 1024 := b_2
  replace b_3 : fl ≤ 12 := b_3
  replace b_4 : pe ≤ 24 := b_4
  replace b_5 : le ≤ 700 := b_5
  replace b_6 : qu ≤ 12 := b_6
  replace b_7 : n_1 ≤ 8 := b_7
  replace b_8 : n_2 ≤ 24 := b_8
  replace b_9 : tk ≤ 24 := b_9
  replace b_10 : il ≤ 700 := b_10
  replace b_11 : nx ≤ 701 := b_11
  replace b_12 : st ≤ 701 := b_12
  have h_2 : Φ x = some (o_ 14 [.int th, .ref (x + 1), .ref (x + 2), .int ti, .int ra, .int (nI rt), .int ex, .int ad, .ref (x + 3), .ref (x + 4), .int v_1, .long v_2, .ref (x + 5), .int (nI fl), .int v_3, .long ob, .long sa, .long v_4, .long us, .ref (x + 6), .ref (x + 7), .int (nI pe), .ref (x + 8), .int (nI le), .ref (x + 9), .ref (x + 10), .int (nI qu), .ref (x + 11), .ref (x + 12), .ref (x + 13), .ref (x + 14), .ref (x + 15), .ref (x + 16), .int (nI n_1), .long v_5, .ref (x + 17), .ref (x + 18), .ref (x + 19), .ref (x + 20), .ref (x + 21), .ref (x + 22), .int (nI n_2), .ref (x + 23), .ref (x + 24), .int (nI tk), .ref (x + 25), .int (nI il), .int (nI nx), .int ec, .int ep, .int kn, .int (nI st), .int nu, .long va]) := h_1
  refine z_put (ref := "FlowExporterModel") (C := RX12) (T := TX12) (N := 54) (ci := 14) (v := .int 0) B hu_X12_lose_X12 tyX12 tyX12_ok nmX12 rfl 0 (Nat.le_of_ble_eq_true rfl) hv_X12_lose_1 rfl (Or.inl rfl) h_2 hx rfl rfl (Nat.le_of_ble_eq_true rfl) dX12_lose_2 (fun Φ1 hΦ1 => ?_)
  have h_3 : Φ1 x = some (o_ 14 [.int 0, .ref (x + 1), .ref (x + 2), .int ti, .int ra, .int (nI rt), .int ex, .int ad, .ref (x + 3), .ref (x + 4), .int v_1, .long v_2, .ref (x + 5), .int (nI fl), .int v_3, .long ob, .long sa, .long v_4, .long us, .ref (x + 6), .ref (x + 7), .int (nI pe), .ref (x + 8), .int (nI le), .ref (x + 9), .ref (x + 10), .int (nI qu), .ref (x + 11), .ref (x + 12), .ref (x + 13), .ref (x + 14), .ref (x + 15), .ref (x + 16), .int (nI n_1), .long v_5, .ref (x + 17), .ref (x + 18), .ref (x + 19), .ref (x + 20), .ref (x + 21), .ref (x + 22), .int (nI n_2), .ref (x + 23), .ref (x + 24), .int (nI tk), .ref (x + 25), .int (nI il), .int (nI nx), .int ec, .int ep, .int kn, .int (nI st), .int nu, .long va]) := fset_at hΦ1
  have hI1 : Im G x (rd, nw, cr, tp, tt, fl, pe, le, nx, il, qu, kn, ec, nu, va, st, ep, ti, ad, ob, ra, rt, ex, sa, us, tk, 0) Φ1 := Im.put0 hI hΦ1 ⟨v_1, v_2, v_3, v_4, n_1, v_5, n_2, rfl, b_13, b_1, b_2, b_3, b_4, b_5, b_6, b_7, b_8, b_9, b_10, b_11, b_12⟩
  refine z_aload_n B dX12_lose_5 rfl 0 rfl ?_
  refine z_aload_n B dX12_lose_6 rfl 0 rfl ?_
  refine z_iload_n B dX12_lose_7 rfl 1 rfl ?_
  refine z_callV (As := [.int a]) (rest := [.ref x]) B (r_isMessage G l Φ1 sz x rd nw cr tp tt fl pe le nx il qu kn ec nu va st ep ti ad ob ra rt ex sa us tk 0 a hx hI1 hnw) (cwV 1 B.1.2.2.2.2 gX12_lose_X12_isMessage rfl rfl rfl (by decide +kernel) ⟨Nat.le_of_ble_eq_true rfl, Nat.le_of_ble_eq_true rfl⟩) h_3 rfl rfl rfl rfl (Nat.le_of_ble_eq_true rfl) dX12_lose_8 ⟨Nat.le_of_ble_eq_true rfl, Nat.le_of_ble_eq_true rfl⟩ (fun r_1 Φ2 sz1 st1 hp1 hs1 => ?_)
  obtain ⟨ha1, hq1, hI2, hF1⟩ := hp1
  subst sz1
  replace hI2 : Im G x (rd, nw, cr, tp, tt, fl, pe, le, nx, il, qu, kn, ec, nu, va, st, ep, ti, ad, ob, ra, rt, ex, sa, us, tk, 0) Φ2 := hI2
  rcases ha1 with rfl | ⟨rfl, n_3, b_14, rfl⟩
  · replace hs1 : st1 = [.int 0, .ref x] := hs1
    subst st1
    refine z_if_ne (tgt := 18) B dX12_lose_11 rfl (fun h9 => absurd (by decide) h9) (fun c_1 => ?_)
    refine z_iconst (v := 1) B dX12_lose_14 rfl ?_
    refine z_goto (tgt := 19) B dX12_lose_15 rfl ?_
    refine z_iconst (v := 1) B dX12_lose_19 rfl ?_
    have h_4 : Φ2 x = some (o_ 14 [.int 0, .ref (x + 1), .ref (x + 2), .int ti, .int ra, .int (nI rt), .int ex, .int ad, .ref (x + 3), .ref (x + 4), .int v_1, .long v_2, .ref (x + 5), .int (nI fl), .int v_3, .long ob, .long sa, .long v_4, .long us, .ref (x + 6), .ref (x + 7), .int (nI pe), .ref (x + 8), .int (nI le), .ref (x + 9), .ref (x + 10), .int (nI qu), .ref (x + 11), .ref (x + 12), .ref (x + 13), .ref (x + 14), .ref (x + 15), .ref (x + 16), .int (nI n_1), .long v_5, .ref (x + 17), .ref (x + 18), .ref (x + 19), .ref (x + 20), .ref (x + 21), .ref (x + 22), .int (nI n_2), .ref (x + 23), .ref (x + 24), .int (nI tk), .ref (x + 25), .int (nI il), .int (nI nx), .int ec, .int ep, .int kn, .int (nI st), .int nu, .long va]) := ((hF1 x (fun j9 h8 h7 => (show False from h7).elim)).trans h_3)
    refine z_callV (As := [.int 1, .int 1]) (rest := []) B (r_throwsIf G l Φ2 sz x rd nw cr tp tt fl pe le nx il qu kn ec nu va st ep ti ad ob ra rt ex sa us tk 0 1 1 hx hI2 (by decide) hnw) (cwV 2 B.1.2.2.2.2 gX12_lose_X12_throwsIf rfl rfl rfl (by decide +kernel) ⟨Nat.le_of_ble_eq_true rfl, Nat.le_of_ble_eq_true rfl⟩) h_4 rfl rfl rfl rfl (Nat.le_of_ble_eq_true rfl) dX12_lose_20 ⟨Nat.le_of_ble_eq_true rfl, Nat.le_of_ble_eq_true rfl⟩ (fun r_2 Φ3 sz2 st2 hp2 hs2 => ?_)
    obtain ⟨rfl, hq2, ⟨v_6, hI3⟩, hF2⟩ := hp2
    subst sz2
    replace hs2 : st2 = [.int 1] := hs2
    subst st2
    replace hI3 : Im G x (rd, nw, cr, tp, tt, fl, pe, le, nx, il, qu, kn, ec, nu, va, st, ep, ti, ad, ob, ra, rt, ex, sa, us, tk, v_6) Φ3 := hI3
    refine z_if_eq (tgt := 28) B dX12_lose_23 rfl (fun h9 => absurd h9 (by decide)) (fun c_2 => ?_)
    refine z_iconst (v := 0) B dX12_lose_26 rfl ?_
    exact z_ret_i B dX12_lose_27 ⟨⟨_, rfl⟩, rfl, ⟨qu, v_6, hI3⟩, (fun b9 h9 => ((hF2 b9 (fun j9 h8 h7 => h9 j9 h8 (fq_1056 j9 h7))).trans ((hF1 b9 (fun j9 h8 h7 => (show False from h7).elim)).trans ((fset_fr hΦ1 (fun h8 => h9 (0) h8 (show 0 = 0 ∨ 0 = 9 ∨ 0 = 10 by decide))).trans rfl))))⟩
  · replace hs1 : st1 = [.int 1, .ref x] := hs1
    subst st1
    replace b_14 : n_3 < qu := b_14
    refine z_if_ne (tgt := 18) B dX12_lose_11 rfl (fun c_3 => ?_) (fun h9 => absurd h9 (by decide))
    refine z_iconst (v := 0) B dX12_lose_18 rfl ?_
    refine z_iconst (v := 1) B dX12_lose_19 rfl ?_
    have h_5 : Φ2 x = some (o_ 14 [.int 0, .ref (x + 1), .ref (x + 2), .int ti, .int ra, .int (nI rt), .int ex, .int ad, .ref (x + 3), .ref (x + 4), .int v_1, .long v_2, .ref (x + 5), .int (nI fl), .int v_3, .long ob, .long sa, .long v_4, .long us, .ref (x + 6), .ref (x + 7), .int (nI pe), .ref (x + 8), .int (nI le), .ref (x + 9), .ref (x + 10), .int (nI qu), .ref (x + 11), .ref (x + 12), .ref (x + 13), .ref (x + 14), .ref (x + 15), .ref (x + 16), .int (nI n_1), .long v_5, .ref (x + 17), .ref (x + 18), .ref (x + 19), .ref (x + 20), .ref (x + 21), .ref (x + 22), .int (nI n_2), .ref (x + 23), .ref (x + 24), .int (nI tk), .ref (x + 25), .int (nI il), .int (nI nx), .int ec, .int ep, .int kn, .int (nI st), .int nu, .long va]) := ((hF1 x (fun j9 h8 h7 => (show False from h7).elim)).trans h_3)
    refine z_callV (As := [.int 0, .int 1]) (rest := []) B (r_throwsIf G l Φ2 sz x rd nw cr tp tt fl pe le nx il qu kn ec nu va st ep ti ad ob ra rt ex sa us tk 0 0 1 hx hI2 (by decide) hnw) (cwV 2 B.1.2.2.2.2 gX12_lose_X12_throwsIf rfl rfl rfl (by decide +kernel) ⟨Nat.le_of_ble_eq_true rfl, Nat.le_of_ble_eq_true rfl⟩) h_5 rfl rfl rfl rfl (Nat.le_of_ble_eq_true rfl) dX12_lose_20 ⟨Nat.le_of_ble_eq_true rfl, Nat.le_of_ble_eq_true rfl⟩ (fun r_3 Φ4 sz3 st3 hp3 hs3 => ?_)
    obtain ⟨rfl, hq3, ⟨v_7, hI4⟩, hF3⟩ := hp3
    subst sz3
    replace hs3 : st3 = [.int 0] := hs3
    subst st3
    replace hI4 : Im G x (rd, nw, cr, tp, tt, fl, pe, le, nx, il, qu, kn, ec, nu, va, st, ep, ti, ad, ob, ra, rt, ex, sa, us, tk, v_7) Φ4 := hI4
    refine z_if_eq (tgt := 28) B dX12_lose_23 rfl (fun c_4 => ?_) (fun h9 => absurd (by decide) h9)
    refine z_aload_n B dX12_lose_28 rfl 0 rfl ?_
    obtain ⟨v_8, v_9, v_10, v_11, n_4, v_12, n_5, h_6, b_27, b_15, b_16, b_17, b_18, b_19, b_20, b_21, b_22, b_23, b_24, b_25, b_26⟩ := im0 hI4
    replace b_15 : 1 ≤ rt := b_15
    replace b_16 : rt ≤ 1024 := b_16
    replace b_17 : fl ≤ 12 := b_17
    replace b_18 : pe ≤ 24 := b_18
    replace b_19 : le ≤ 700 := b_19
    replace b_20 : qu ≤ 12 := b_20
    replace b_21 : n_4 ≤ 8 := b_21
    replace b_22 : n_5 ≤ 24 := b_22
    replace b_23 : tk ≤ 24 := b_23
    replace b_24 : il ≤ 700 := b_24
    replace b_25 : nx ≤ 701 := b_25
    replace b_26 : st ≤ 701 := b_26
    have h_7 : Φ4 x = some (o_ 14 [.int v_7, .ref (x + 1), .ref (x + 2), .int ti, .int ra, .int (nI rt), .int ex, .int ad, .ref (x + 3), .ref (x + 4), .int v_8, .long v_9, .ref (x + 5), .int (nI fl), .int v_10, .long ob, .long sa, .long v_11, .long us, .ref (x + 6), .ref (x + 7), .int (nI pe), .ref (x + 8), .int (nI le), .ref (x + 9), .ref (x + 10), .int (nI qu), .ref (x + 11), .ref (x + 12), .ref (x + 13), .ref (x + 14), .ref (x + 15), .ref (x + 16), .int (nI n_4), .long v_12, .ref (x + 17), .ref (x + 18), .ref (x + 19), .ref (x + 20), .ref (x + 21), .ref (x + 22), .int (nI n_5), .ref (x + 23), .ref (x + 24), .int (nI tk), .ref (x + 25), .int (nI il), .int (nI nx), .int ec, .int ep, .int kn, .int (nI st), .int nu, .long va]) := h_6
    refine z_get (ref := "FlowExporterModel") (C := RX12) (T := TX12) (N := 54) (ci := 14) (v := .ref (x + 10)) B hu_X12_lose_X12 rfl 25 (Nat.le_of_ble_eq_true rfl) hv_X12_lose_42 rfl h_7 rfl dX12_lose_29 ?_
    refine z_iload_n B dX12_lose_32 rfl 1 rfl ?_
    obtain ⟨f_1, h_8, r_4⟩ := imk (k := 10) hI4
    replace r_4 : Rw 600 f_1 := r_4
    have h_9 : Φ4 (x + 10) = some (ai_ G 12 f_1) := h_8
    refine z_iald B h_9 (vp_in_nI (by omega) (by omega)) dX12_lose_33 ?_
    obtain ⟨n_6, b_28, e_1⟩ := r_4 ((nI n_3).toNatClampNeg)
    refine z_top (st1 := [.int (nI n_6)]) (congrArg (fun w9 : Int32 => ([.int w9] : List Value)) (e_1)) ?_
    refine z_istore_n (lv' := [(2, .int (nI n_6)), (0, .ref x), (1, .int (nI n_3))]) B dX12_lose_34 rfl (Nat.le_of_ble_eq_true rfl) rfl ?_
    refine z_aload_n B dX12_lose_35 rfl 1 rfl ?_
    refine z_iload_n B dX12_lose_36 rfl 2 rfl ?_
    refine z_callV (As := [.int (nI n_3)]) (rest := []) B (r_remove G l Φ4 sz x rd nw cr tp tt fl pe le nx il qu kn ec nu va st ep ti ad ob ra rt ex sa us tk v_7 n_3 hx hI4 (show n_3 < qu by omega) hnw) (cwV 1 B.1.2.2.2.2 gX12_lose_X12_remove rfl rfl rfl (by decide +kernel) ⟨Nat.le_of_ble_eq_true rfl, Nat.le_of_ble_eq_true rfl⟩) h_7 rfl rfl rfl rfl (Nat.le_of_ble_eq_true rfl) dX12_lose_37 ⟨Nat.le_of_ble_eq_true rfl, Nat.le_of_ble_eq_true rfl⟩ (fun r_5 Φ5 sz4 st4 hp4 hs4 => ?_)
    obtain ⟨rfl, hq4, ⟨n_7, b_29, hI5⟩, hF4⟩ := hp4
    subst sz4
    replace hs4 : st4 = [] := hs4
    subst st4
    replace hI5 : Im G x (rd, nw, cr, tp, tt, fl, pe, le, nx, il, n_7, kn, ec, nu, va, st, ep, ti, ad, ob, ra, rt, ex, sa, us, tk, v_7) Φ5 := hI5
    replace b_29 : n_7 + 1 = qu := b_29
    refine z_iload_n B dX12_lose_40 rfl 0 rfl ?_
    exact z_ret_i B dX12_lose_41 ⟨⟨_, rfl⟩, rfl, ⟨n_7, v_7, hI5⟩, (fun b9 h9 => ((hF4 b9 h9).trans ((hF3 b9 (fun j9 h8 h7 => h9 j9 h8 (fq_1056 j9 h7))).trans ((hF1 b9 (fun j9 h8 h7 => (show False from h7).elim)).trans ((fset_fr hΦ1 (fun h8 => h9 (0) h8 (show 0 = 0 ∨ 0 = 9 ∨ 0 = 10 by decide))).trans rfl)))))⟩

theorem hu_X12_duplicate_X12 : ∀ w ∈ u_ws RX12 TX12 54, w ∈ wsX12_duplicate := fun _ h => List.mem_cons_of_mem _ (List.mem_append_left _ (List.mem_append_right _ (h)))

theorem hv_X12_duplicate_1 : Cond.fieldLink RX12 1 "FlowExporterModel" (TX12 0).2.1 (TX12 0).2.2.1 ∈ wsX12_duplicate := List.mem_cons_of_mem _ (List.mem_append_left _ (List.mem_append_left _ (List.mem_of_getElem? (i := 0) rfl)))

theorem hv_X12_duplicate_139 : Cond.fieldLink RX12 139 "FlowExporterModel" (TX12 26).2.1 (TX12 26).2.2.1 ∈ wsX12_duplicate := List.mem_cons_of_mem _ (List.mem_append_left _ (List.mem_append_left _ (List.mem_of_getElem? (i := 1) rfl)))

set_option maxHeartbeats 4000000 in
set_option maxRecDepth 100000 in
theorem r_duplicate (G : EnvG) (l : Launch) (Φ : Hm) (sz x : Nat) (rd : (Nat → Int32) → Prop) (nw : (Nat → Int32) → Prop) (cr : (Nat → Int64) → Prop) (tp : (Nat → Int32) → Prop) (tt : (Nat → Int64) → Prop) (fl : Nat) (pe : Nat) (le : Nat) (nx : Nat) (il : Nat) (qu : Nat) (kn : Int32) (ec : Int32) (nu : Int32) (va : Int64) (st : Nat) (ep : Int32) (ti : Int32) (ad : Int32) (ob : Int64) (ra : Int32) (rt : Nat) (ex : Int32) (sa : Int64) (us : Int64) (tk : Nat) (th : Int32) (a : Int32) (hx : G.2.2.2 ≤ x) (hI : Im G x (rd, nw, cr, tp, tt, fl, pe, le, nx, il, qu, kn, ec, nu, va, st, ep, ti, ad, ob, ra, rt, ex, sa, us, tk, th) Φ) (hnw : ∀ f9 : Nat → Int32, nw f9 → NN f9) : Ct G l yX12_duplicate wsX12_duplicate ({ frames := 2, cells := 0, slots := 0, locals := 46 }) 0 0 [.ref x, .int a] Φ sz (fun v Φ1 sz1 => (∃ r9 : Int32, v = some (.int r9) ∧ (r9 = 0 ∨ r9 = 1)) ∧ sz1 = sz ∧ (∃ (qu1 : Nat) (th1 : Int32), Im G x (rd, nw, cr, tp, tt, fl, pe, le, nx, il, qu1, kn, ec, nu, va, st, ep, ti, ad, ob, ra, rt, ex, sa, us, tk, th1) Φ1) ∧ Fr x (fun j9 => j9 = 0 ∨ j9 = 9 ∨ j9 = 10) Φ Φ1) := by
  refine Ct.of (cc := cX12_duplicate) (maxL := 2) (ret := (some .boolean)) (by decide) rfl (Nat.le_of_ble_eq_true rfl) ?_
  intro p9 e9 s9 m9 w9 t9 k9 B
  show Z p9 l e9 _ s9 m9 _ w9 t9 k9 _ G 2 0 [(0, .ref x), (1, .int a)] [] Φ sz 0 0
  refine z_aload_n B dX12_duplicate_0 rfl 0 rfl ?_
  refine z_iconst (v := 0) B dX12_duplicate_1 rfl ?_
  obtain ⟨v_1, v_2, v_3, v_4, n_1, v_5, n_2, h_1, b_13, b_1, b_2, b_3, b_4, b_5, b_6, b_7, b_8, b_9, b_10, b_11, b_12⟩ := im0 hI
  replace b_1 : 1 ≤ rt := b_1
  replace b_2 : rt ≤ 1024 := b_2
  replace b_3 : fl ≤ 12 := b_3
  replace b_4 : pe ≤ 24 := b_4
  replace b_5 : le ≤ 700 := b_5
  replace b_6 : qu ≤ 12 := b_6
  replace b_7 : n_1 ≤ 8 := b_7
  replace b_8 : n_2 ≤ 24 := b_8
  replace b_9 : tk ≤ 24 := b_9
  replace b_10 : il ≤ 700 := b_10
  replace b_11 : nx ≤ 701 := b_11
  replace b_12 : st ≤ 701 := b_12
  have h_2 : Φ x = some (o_ 14 [.int th, .ref (x + 1), .ref (x + 2), .int ti, .int ra, .int (nI rt), .int ex, .int ad, .ref (x + 3), .ref (x + 4), .int v_1, .long v_2, .ref (x + 5), .int (nI fl), .int v_3, .long ob, .long sa, .long v_4, .long us, .ref (x + 6), .ref (x + 7), .int (nI pe), .ref (x + 8), .int (nI le), .ref (x + 9), .ref (x + 10), .int (nI qu), .ref (x + 11), .ref (x + 12), .ref (x + 13), .ref (x + 14), .ref (x + 15), .ref (x + 16), .int (nI n_1), .long v_5, .ref (x + 17), .ref (x + 18), .ref (x + 19), .ref (x + 20), .ref (x + 21), .ref (x + 22), .int (nI n_2), .ref (x + 23), .ref (x + 24), .int (nI tk), .ref (x + 25), .int (nI il), .int (nI nx), .int ec, .int ep, .int kn, .int (nI st), .int nu, .long va]) := h_1
  refine z_put (ref := "FlowExporterModel") (C := RX12) (T := TX12) (N := 54) (ci := 14) (v := .int 0) B hu_X12_duplicate_X12 tyX12 tyX12_ok nmX12 rfl 0 (Nat.le_of_ble_eq_true rfl) hv_X12_duplicate_1 rfl (Or.inl rfl) h_2 hx rfl rfl (Nat.le_of_ble_eq_true rfl) dX12_duplicate_2 (fun Φ1 hΦ1 => ?_)
  have h_3 : Φ1 x = some (o_ 14 [.int 0, .ref (x + 1), .ref (x + 2), .int ti, .int ra, .int (nI rt), .int ex, .int ad, .ref (x + 3), .ref (x + 4), .int v_1, .long v_2, .ref (x + 5), .int (nI fl), .int v_3, .long ob, .long sa, .long v_4, .long us, .ref (x + 6), .ref (x + 7), .int (nI pe), .ref (x + 8), .int (nI le), .ref (x + 9), .ref (x + 10), .int (nI qu), .ref (x + 11), .ref (x + 12), .ref (x + 13), .ref (x + 14), .ref (x + 15), .ref (x + 16), .int (nI n_1), .long v_5, .ref (x + 17), .ref (x + 18), .ref (x + 19), .ref (x + 20), .ref (x + 21), .ref (x + 22), .int (nI n_2), .ref (x + 23), .ref (x + 24), .int (nI tk), .ref (x + 25), .int (nI il), .int (nI nx), .int ec, .int ep, .int kn, .int (nI st), .int nu, .long va]) := fset_at hΦ1
  have hI1 : Im G x (rd, nw, cr, tp, tt, fl, pe, le, nx, il, qu, kn, ec, nu, va, st, ep, ti, ad, ob, ra, rt, ex, sa, us, tk, 0) Φ1 := Im.put0 hI hΦ1 ⟨v_1, v_2, v_3, v_4, n_1, v_5, n_2, rfl, b_13, b_1, b_2, b_3, b_4, b_5, b_6, b_7, b_8, b_9, b_10, b_11, b_12⟩
  refine z_aload_n B dX12_duplicate_5 rfl 0 rfl ?_
  refine z_aload_n B dX12_duplicate_6 rfl 0 rfl ?_
  refine z_iload_n B dX12_duplicate_7 rfl 1 rfl ?_
  refine z_callV (As := [.int a]) (rest := [.ref x]) B (r_isMessage G l Φ1 sz x rd nw cr tp tt fl pe le nx il qu kn ec nu va st ep ti ad ob ra rt ex sa us tk 0 a hx hI1 hnw) (cwV 1 B.1.2.2.2.2 gX12_duplicate_X12_isMessage rfl rfl rfl (by decide +kernel) ⟨Nat.le_of_ble_eq_true rfl, Nat.le_of_ble_eq_true rfl⟩) h_3 rfl rfl rfl rfl (Nat.le_of_ble_eq_true rfl) dX12_duplicate_8 ⟨Nat.le_of_ble_eq_true rfl, Nat.le_of_ble_eq_true rfl⟩ (fun r_1 Φ2 sz1 st1 hp1 hs1 => ?_)
  obtain ⟨ha1, hq1, hI2, hF1⟩ := hp1
  subst sz1
  replace hI2 : Im G x (rd, nw, cr, tp, tt, fl, pe, le, nx, il, qu, kn, ec, nu, va, st, ep, ti, ad, ob, ra, rt, ex, sa, us, tk, 0) Φ2 := hI2
  rcases ha1 with rfl | ⟨rfl, n_3, b_14, rfl⟩
  · replace hs1 : st1 = [.int 0, .ref x] := hs1
    subst st1
    refine z_if_ne (tgt := 18) B dX12_duplicate_11 rfl (fun h9 => absurd (by decide) h9) (fun c_1 => ?_)
    refine z_iconst (v := 1) B dX12_duplicate_14 rfl ?_
    refine z_goto (tgt := 19) B dX12_duplicate_15 rfl ?_
    refine z_iconst (v := 1) B dX12_duplicate_19 rfl ?_
    have h_4 : Φ2 x = some (o_ 14 [.int 0, .ref (x + 1), .ref (x + 2), .int ti, .int ra, .int (nI rt), .int ex, .int ad, .ref (x + 3), .ref (x + 4), .int v_1, .long v_2, .ref (x + 5), .int (nI fl), .int v_3, .long ob, .long sa, .long v_4, .long us, .ref (x + 6), .ref (x + 7), .int (nI pe), .ref (x + 8), .int (nI le), .ref (x + 9), .ref (x + 10), .int (nI qu), .ref (x + 11), .ref (x + 12), .ref (x + 13), .ref (x + 14), .ref (x + 15), .ref (x + 16), .int (nI n_1), .long v_5, .ref (x + 17), .ref (x + 18), .ref (x + 19), .ref (x + 20), .ref (x + 21), .ref (x + 22), .int (nI n_2), .ref (x + 23), .ref (x + 24), .int (nI tk), .ref (x + 25), .int (nI il), .int (nI nx), .int ec, .int ep, .int kn, .int (nI st), .int nu, .long va]) := ((hF1 x (fun j9 h8 h7 => (show False from h7).elim)).trans h_3)
    refine z_callV (As := [.int 1, .int 1]) (rest := []) B (r_throwsIf G l Φ2 sz x rd nw cr tp tt fl pe le nx il qu kn ec nu va st ep ti ad ob ra rt ex sa us tk 0 1 1 hx hI2 (by decide) hnw) (cwV 2 B.1.2.2.2.2 gX12_duplicate_X12_throwsIf rfl rfl rfl (by decide +kernel) ⟨Nat.le_of_ble_eq_true rfl, Nat.le_of_ble_eq_true rfl⟩) h_4 rfl rfl rfl rfl (Nat.le_of_ble_eq_true rfl) dX12_duplicate_20 ⟨Nat.le_of_ble_eq_true rfl, Nat.le_of_ble_eq_true rfl⟩ (fun r_2 Φ3 sz2 st2 hp2 hs2 => ?_)
    obtain ⟨rfl, hq2, ⟨v_6, hI3⟩, hF2⟩ := hp2
    subst sz2
    replace hs2 : st2 = [.int 1] := hs2
    subst st2
    replace hI3 : Im G x (rd, nw, cr, tp, tt, fl, pe, le, nx, il, qu, kn, ec, nu, va, st, ep, ti, ad, ob, ra, rt, ex, sa, us, tk, v_6) Φ3 := hI3
    refine z_if_ne (tgt := 35) B dX12_duplicate_23 rfl (fun c_2 => ?_) (fun h9 => absurd h9 (by decide))
    refine z_iconst (v := 0) B dX12_duplicate_35 rfl ?_
    exact z_ret_z B dX12_duplicate_36 (by decide) ⟨⟨_, rfl, by decide⟩, rfl, ⟨qu, v_6, hI3⟩, (fun b9 h9 => ((hF2 b9 (fun j9 h8 h7 => h9 j9 h8 (fq_1056 j9 h7))).trans ((hF1 b9 (fun j9 h8 h7 => (show False from h7).elim)).trans ((fset_fr hΦ1 (fun h8 => h9 (0) h8 (show 0 = 0 ∨ 0 = 9 ∨ 0 = 10 by decide))).trans rfl))))⟩
  · replace hs1 : st1 = [.int 1, .ref x] := hs1
    subst st1
    replace b_14 : n_3 < qu := b_14
    refine z_if_ne (tgt := 18) B dX12_duplicate_11 rfl (fun c_3 => ?_) (fun h9 => absurd h9 (by decide))
    refine z_iconst (v := 0) B dX12_duplicate_18 rfl ?_
    refine z_iconst (v := 1) B dX12_duplicate_19 rfl ?_
    have h_5 : Φ2 x = some (o_ 14 [.int 0, .ref (x + 1), .ref (x + 2), .int ti, .int ra, .int (nI rt), .int ex, .int ad, .ref (x + 3), .ref (x + 4), .int v_1, .long v_2, .ref (x + 5), .int (nI fl), .int v_3, .long ob, .long sa, .long v_4, .long us, .ref (x + 6), .ref (x + 7), .int (nI pe), .ref (x + 8), .int (nI le), .ref (x + 9), .ref (x + 10), .int (nI qu), .ref (x + 11), .ref (x + 12), .ref (x + 13), .ref (x + 14), .ref (x + 15), .ref (x + 16), .int (nI n_1), .long v_5, .ref (x + 17), .ref (x + 18), .ref (x + 19), .ref (x + 20), .ref (x + 21), .ref (x + 22), .int (nI n_2), .ref (x + 23), .ref (x + 24), .int (nI tk), .ref (x + 25), .int (nI il), .int (nI nx), .int ec, .int ep, .int kn, .int (nI st), .int nu, .long va]) := ((hF1 x (fun j9 h8 h7 => (show False from h7).elim)).trans h_3)
    refine z_callV (As := [.int 0, .int 1]) (rest := []) B (r_throwsIf G l Φ2 sz x rd nw cr tp tt fl pe le nx il qu kn ec nu va st ep ti ad ob ra rt ex sa us tk 0 0 1 hx hI2 (by decide) hnw) (cwV 2 B.1.2.2.2.2 gX12_duplicate_X12_throwsIf rfl rfl rfl (by decide +kernel) ⟨Nat.le_of_ble_eq_true rfl, Nat.le_of_ble_eq_true rfl⟩) h_5 rfl rfl rfl rfl (Nat.le_of_ble_eq_true rfl) dX12_duplicate_20 ⟨Nat.le_of_ble_eq_true rfl, Nat.le_of_ble_eq_true rfl⟩ (fun r_3 Φ4 sz3 st3 hp3 hs3 => ?_)
    obtain ⟨rfl, hq3, ⟨v_7, hI4⟩, hF3⟩ := hp3
    subst sz3
    replace hs3 : st3 = [.int 0] := hs3
    subst st3
    replace hI4 : Im G x (rd, nw, cr, tp, tt, fl, pe, le, nx, il, qu, kn, ec, nu, va, st, ep, ti, ad, ob, ra, rt, ex, sa, us, tk, v_7) Φ4 := hI4
    refine z_if_ne (tgt := 35) B dX12_duplicate_23 rfl (fun h9 => absurd (by decide) h9) (fun c_4 => ?_)
    refine z_aload_n B dX12_duplicate_26 rfl 0 rfl ?_
    obtain ⟨v_8, v_9, v_10, v_11, n_4, v_12, n_5, h_6, b_27, b_15, b_16, b_17, b_18, b_19, b_20, b_21, b_22, b_23, b_24, b_25, b_26⟩ := im0 hI4
    replace b_15 : 1 ≤ rt := b_15
    replace b_16 : rt ≤ 1024 := b_16
    replace b_17 : fl ≤ 12 := b_17
    replace b_18 : pe ≤ 24 := b_18
    replace b_19 : le ≤ 700 := b_19
    replace b_20 : qu ≤ 12 := b_20
    replace b_21 : n_4 ≤ 8 := b_21
    replace b_22 : n_5 ≤ 24 := b_22
    replace b_23 : tk ≤ 24 := b_23
    replace b_24 : il ≤ 700 := b_24
    replace b_25 : nx ≤ 701 := b_25
    replace b_26 : st ≤ 701 := b_26
    have h_7 : Φ4 x = some (o_ 14 [.int v_7, .ref (x + 1), .ref (x + 2), .int ti, .int ra, .int (nI rt), .int ex, .int ad, .ref (x + 3), .ref (x + 4), .int v_8, .long v_9, .ref (x + 5), .int (nI fl), .int v_10, .long ob, .long sa, .long v_11, .long us, .ref (x + 6), .ref (x + 7), .int (nI pe), .ref (x + 8), .int (nI le), .ref (x + 9), .ref (x + 10), .int (nI qu), .ref (x + 11), .ref (x + 12), .ref (x + 13), .ref (x + 14), .ref (x + 15), .ref (x + 16), .int (nI n_4), .long v_12, .ref (x + 17), .ref (x + 18), .ref (x + 19), .ref (x + 20), .ref (x + 21), .ref (x + 22), .int (nI n_5), .ref (x + 23), .ref (x + 24), .int (nI tk), .ref (x + 25), .int (nI il), .int (nI nx), .int ec, .int ep, .int kn, .int (nI st), .int nu, .long va]) := h_6
    refine z_get (ref := "FlowExporterModel") (C := RX12) (T := TX12) (N := 54) (ci := 14) (v := .int (nI qu)) B hu_X12_duplicate_X12 rfl 26 (Nat.le_of_ble_eq_true rfl) hv_X12_duplicate_139 rfl h_7 rfl dX12_duplicate_27 ?_
    refine z_bipush (v := 12) B dX12_duplicate_30 rfl ?_
    refine z_icmp_ne (tgt := 37) B dX12_duplicate_32 rfl (fun c_5 => ?_) (fun c_5 => ?_)
    · have e_1 : ¬ (qu = 12) := fun h9 => c_5 ((nI_eq (a := qu) (b := 12) (by omega) (by omega)).mpr h9)
      refine z_aload_n B dX12_duplicate_37 rfl 0 rfl ?_
      refine z_iload_n B dX12_duplicate_38 rfl 1 rfl ?_
      refine z_aload_n B dX12_duplicate_39 rfl 0 rfl ?_
      refine z_get (ref := "FlowExporterModel") (C := RX12) (T := TX12) (N := 54) (ci := 14) (v := .int (nI qu)) B hu_X12_duplicate_X12 rfl 26 (Nat.le_of_ble_eq_true rfl) hv_X12_duplicate_139 rfl h_7 rfl dX12_duplicate_40 ?_
      refine z_callV (As := [.int (nI n_3), .int (nI qu)]) (rest := []) B (r_copyMessage G l Φ4 sz x rd nw cr tp tt fl pe le nx il qu kn ec nu va st ep ti ad ob ra rt ex sa us tk v_7 n_3 qu hx hI4 (show n_3 < 12 by omega) (show qu < 12 by omega) hnw) (cwV 2 B.1.2.2.2.2 gX12_duplicate_X12_copyMessage rfl rfl rfl (by decide +kernel) ⟨Nat.le_of_ble_eq_true rfl, Nat.le_of_ble_eq_true rfl⟩) h_7 rfl rfl rfl rfl (Nat.le_of_ble_eq_true rfl) dX12_duplicate_43 ⟨Nat.le_of_ble_eq_true rfl, Nat.le_of_ble_eq_true rfl⟩ (fun r_4 Φ5 sz4 st4 hp4 hs4 => ?_)
      obtain ⟨rfl, hq4, hI5, hF4⟩ := hp4
      subst sz4
      replace hs4 : st4 = [] := hs4
      subst st4
      replace hI5 : Im G x (rd, nw, cr, tp, tt, fl, pe, le, nx, il, qu, kn, ec, nu, va, st, ep, ti, ad, ob, ra, rt, ex, sa, us, tk, v_7) Φ5 := hI5
      refine z_aload_n B dX12_duplicate_46 rfl 0 rfl ?_
      refine z_dup B dX12_duplicate_47 rfl ?_
      have h_8 : Φ5 x = some (o_ 14 [.int v_7, .ref (x + 1), .ref (x + 2), .int ti, .int ra, .int (nI rt), .int ex, .int ad, .ref (x + 3), .ref (x + 4), .int v_8, .long v_9, .ref (x + 5), .int (nI fl), .int v_10, .long ob, .long sa, .long v_11, .long us, .ref (x + 6), .ref (x + 7), .int (nI pe), .ref (x + 8), .int (nI le), .ref (x + 9), .ref (x + 10), .int (nI qu), .ref (x + 11), .ref (x + 12), .ref (x + 13), .ref (x + 14), .ref (x + 15), .ref (x + 16), .int (nI n_4), .long v_12, .ref (x + 17), .ref (x + 18), .ref (x + 19), .ref (x + 20), .ref (x + 21), .ref (x + 22), .int (nI n_5), .ref (x + 23), .ref (x + 24), .int (nI tk), .ref (x + 25), .int (nI il), .int (nI nx), .int ec, .int ep, .int kn, .int (nI st), .int nu, .long va]) := ((hF4 x fq_1052).trans h_7)
      refine z_get (ref := "FlowExporterModel") (C := RX12) (T := TX12) (N := 54) (ci := 14) (v := .int (nI qu)) B hu_X12_duplicate_X12 rfl 26 (Nat.le_of_ble_eq_true rfl) hv_X12_duplicate_139 rfl h_8 rfl dX12_duplicate_48 ?_
      refine z_iconst (v := 1) B dX12_duplicate_51 rfl ?_
      refine z_iadd B dX12_duplicate_52 ?_
      refine z_top (st1 := [.int (nI (qu + 1)), .ref x]) (congrArg (fun w9 : Int32 => ([.int w9, .ref x] : List Value)) (nI_add qu 1)) ?_
      refine z_put (ref := "FlowExporterModel") (C := RX12) (T := TX12) (N := 54) (ci := 14) (v := .int (nI (qu + 1))) B hu_X12_duplicate_X12 tyX12 tyX12_ok nmX12 rfl 26 (Nat.le_of_ble_eq_true rfl) hv_X12_duplicate_139 rfl (Or.inl rfl) h_8 hx rfl rfl (Nat.le_of_ble_eq_true rfl) dX12_duplicate_53 (fun Φ6 hΦ2 => ?_)
      have h_9 : Φ6 x = some (o_ 14 [.int v_7, .ref (x + 1), .ref (x + 2), .int ti, .int ra, .int (nI rt), .int ex, .int ad, .ref (x + 3), .ref (x + 4), .int v_8, .long v_9, .ref (x + 5), .int (nI fl), .int v_10, .long ob, .long sa, .long v_11, .long us, .ref (x + 6), .ref (x + 7), .int (nI pe), .ref (x + 8), .int (nI le), .ref (x + 9), .ref (x + 10), .int (nI (qu + 1)), .ref (x + 11), .ref (x + 12), .ref (x + 13), .ref (x + 14), .ref (x + 15), .ref (x + 16), .int (nI n_4), .long v_12, .ref (x + 17), .ref (x + 18), .ref (x + 19), .ref (x + 20), .ref (x + 21), .ref (x + 22), .int (nI n_5), .ref (x + 23), .ref (x + 24), .int (nI tk), .ref (x + 25), .int (nI il), .int (nI nx), .int ec, .int ep, .int kn, .int (nI st), .int nu, .long va]) := fset_at hΦ2
      have hI6 : Im G x (rd, nw, cr, tp, tt, fl, pe, le, nx, il, qu + 1, kn, ec, nu, va, st, ep, ti, ad, ob, ra, rt, ex, sa, us, tk, v_7) Φ6 := Im.put0 hI5 hΦ2 ⟨v_8, v_9, v_10, v_11, n_4, v_12, n_5, rfl, b_27, b_15, b_16, b_17, b_18, b_19, (show (qu + 1) ≤ 12 by omega), b_21, b_22, b_23, b_24, b_25, b_26⟩
      refine z_iconst (v := 1) B dX12_duplicate_56 rfl ?_
      exact z_ret_z B dX12_duplicate_57 (by decide) ⟨⟨_, rfl, by decide⟩, rfl, ⟨qu + 1, v_7, hI6⟩, (fun b9 h9 => ((fset_fr hΦ2 (fun h8 => h9 (0) h8 (show 0 = 0 ∨ 0 = 9 ∨ 0 = 10 by decide))).trans ((hF4 b9 (fun j9 h8 h7 => h9 j9 h8 (fq_1053 j9 h7))).trans ((hF3 b9 (fun j9 h8 h7 => h9 j9 h8 (fq_1056 j9 h7))).trans ((hF1 b9 (fun j9 h8 h7 => (show False from h7).elim)).trans ((fset_fr hΦ1 (fun h8 => h9 (0) h8 (show 0 = 0 ∨ 0 = 9 ∨ 0 = 10 by decide))).trans rfl))))))⟩
    · have e_2 : qu = 12 := (nI_eq (a := qu) (b := 12) (by omega) (by omega)).mp c_5
      refine z_iconst (v := 0) B dX12_duplicate_35 rfl ?_
      exact z_ret_z B dX12_duplicate_36 (by decide) ⟨⟨_, rfl, by decide⟩, rfl, ⟨qu, v_7, hI4⟩, (fun b9 h9 => ((hF3 b9 (fun j9 h8 h7 => h9 j9 h8 (fq_1056 j9 h7))).trans ((hF1 b9 (fun j9 h8 h7 => (show False from h7).elim)).trans ((fset_fr hΦ1 (fun h8 => h9 (0) h8 (show 0 = 0 ∨ 0 = 9 ∨ 0 = 10 by decide))).trans rfl))))⟩

theorem hu_X12_exchange_X12 : ∀ w ∈ u_ws RX12 TX12 54, w ∈ wsX12_exchange := fun _ h => List.mem_cons_of_mem _ (List.mem_append_left _ (List.mem_append_right _ (h)))

theorem hv_X12_exchange_1 : Cond.fieldLink RX12 1 "FlowExporterModel" (TX12 0).2.1 (TX12 0).2.2.1 ∈ wsX12_exchange := List.mem_cons_of_mem _ (List.mem_append_left _ (List.mem_append_left _ (List.mem_of_getElem? (i := 0) rfl)))

theorem hv_X12_exchange_42 : Cond.fieldLink RX12 42 "FlowExporterModel" (TX12 25).2.1 (TX12 25).2.2.1 ∈ wsX12_exchange := List.mem_cons_of_mem _ (List.mem_append_left _ (List.mem_append_left _ (List.mem_of_getElem? (i := 2) rfl)))

theorem hv_X12_exchange_39 : Cond.fieldLink RX12 39 "FlowExporterModel" (TX12 24).2.1 (TX12 24).2.2.1 ∈ wsX12_exchange := List.mem_cons_of_mem _ (List.mem_append_left _ (List.mem_append_left _ (List.mem_of_getElem? (i := 1) rfl)))

set_option maxRecDepth 20000 in
theorem ggX12_accept_X12_get : GoodIn wsX12_accept wsX12_get := goodIn_ca ((goodIn_ca (goodIn_r _ [9, 10] rfl (by decide +kernel)) (goodIn_sub (fun _ h => List.mem_cons_of_mem _ (List.mem_append_left _ (List.mem_append_right _ h))) gw_wsX120))) (goodIn_sub (fun _ h => List.mem_cons_of_mem _ (List.mem_append_right _ h)) (all_fg _))
set_option maxRecDepth 20000 in
theorem gX12_accept_X12_get : GoodIn wsX12_accept (wsV RX12 339 RX12 yX12_get wsX12_get) := goodIn_app (goodIn_m (mem_cA (List.mem_cons_of_mem _ (List.mem_append_left _ (List.mem_append_left _ (List.mem_append_left _ (List.mem_of_getElem? (i := 4) rfl))))) (mem_cA (List.mem_cons_of_mem _ (List.mem_append_left _ (List.mem_append_left _ (List.mem_append_left _ (List.mem_of_getElem? (i := 5) rfl))))) (mem_cA (List.mem_cons_of_mem _ (List.mem_append_left _ (List.mem_append_left _ (List.mem_append_left _ (List.mem_of_getElem? (i := 6) rfl))))) (mem_cA (List.mem_cons_of_mem _ (List.mem_append_left _ (List.mem_append_left _ (List.mem_append_left _ (List.mem_of_getElem? (i := 7) rfl))))) mem_cZ)))) (by decide +kernel)) ggX12_accept_X12_get
set_option maxRecDepth 20000 in
theorem ggX12_accept_X12_isDouble : GoodIn wsX12_accept wsX12_isDouble := goodIn_ca ((goodIn_ca (goodIn_r _ [14, 15, 16, 17] rfl (by decide +kernel)) (goodIn_sub (fun _ h => List.mem_cons_of_mem _ (List.mem_append_left _ (List.mem_append_right _ h))) gw_wsX120))) (goodIn_sub (fun _ h => List.mem_cons_of_mem _ (List.mem_append_right _ h)) (all_fg _))
set_option maxRecDepth 20000 in
theorem gX12_accept_X12_isDouble : GoodIn wsX12_accept (wsV RX12 342 RX12 yX12_isDouble wsX12_isDouble) := goodIn_app (goodIn_m (mem_cA (List.mem_cons_of_mem _ (List.mem_append_left _ (List.mem_append_left _ (List.mem_append_left _ (List.mem_of_getElem? (i := 10) rfl))))) (mem_cA (List.mem_cons_of_mem _ (List.mem_append_left _ (List.mem_append_left _ (List.mem_append_left _ (List.mem_of_getElem? (i := 11) rfl))))) (mem_cA (List.mem_cons_of_mem _ (List.mem_append_left _ (List.mem_append_left _ (List.mem_append_left _ (List.mem_of_getElem? (i := 12) rfl))))) (mem_cA (List.mem_cons_of_mem _ (List.mem_append_left _ (List.mem_append_left _ (List.mem_append_left _ (List.mem_of_getElem? (i := 7) rfl))))) mem_cZ)))) (by decide +kernel)) ggX12_accept_X12_isDouble
set_option maxRecDepth 20000 in
theorem ggX12_accept_X12_account : GoodIn wsX12_accept wsX12_account := goodIn_ca ((goodIn_ca (goodIn_r _ [21, 22, 23, 17, 1, 24, 15, 16] rfl (by decide +kernel)) (goodIn_sub (fun _ h => List.mem_cons_of_mem _ (List.mem_append_left _ (List.mem_append_right _ h))) gw_wsX120))) (goodIn_sub (fun _ h => List.mem_cons_of_mem _ (List.mem_append_right _ h)) (all_fg _))
set_option maxRecDepth 20000 in
theorem gX12_accept_X12_account : GoodIn wsX12_accept (wsV RX12 348 RX12 yX12_account wsX12_account) := goodIn_app (goodIn_m (mem_cA (List.mem_cons_of_mem _ (List.mem_append_left _ (List.mem_append_left _ (List.mem_append_left _ (List.mem_of_getElem? (i := 17) rfl))))) (mem_cA (List.mem_cons_of_mem _ (List.mem_append_left _ (List.mem_append_left _ (List.mem_append_left _ (List.mem_of_getElem? (i := 18) rfl))))) (mem_cA (List.mem_cons_of_mem _ (List.mem_append_left _ (List.mem_append_left _ (List.mem_append_left _ (List.mem_of_getElem? (i := 19) rfl))))) (mem_cA (List.mem_cons_of_mem _ (List.mem_append_left _ (List.mem_append_left _ (List.mem_append_left _ (List.mem_of_getElem? (i := 7) rfl))))) mem_cZ)))) (by decide +kernel)) ggX12_accept_X12_account
set_option maxRecDepth 20000 in
theorem ggX12_accept_X12_readSets : GoodIn wsX12_accept wsX12_readSets := goodIn_ca ((goodIn_ca (goodIn_r _ [28, 2, 1, 29, 30, 5, 6, 7, 8, 9, 10, 31, 32, 33, 34, 35, 36, 37, 38, 39, 40, 41, 42, 43, 44, 45, 46, 47, 48, 49, 50, 51, 52, 53, 54, 55, 56, 57, 58, 59, 60, 61, 62, 63, 64, 65, 66, 67, 68, 69, 70, 71, 72, 73, 74, 75, 76, 77, 78, 79, 80, 81, 82, 83, 84, 85, 86, 87, 88, 89, 90] rfl (by decide +kernel)) (goodIn_sub (fun _ h => List.mem_cons_of_mem _ (List.mem_append_left _ (List.mem_append_right _ h))) gw_wsX120))) (goodIn_sub (fun _ h => List.mem_cons_of_mem _ (List.mem_append_right _ h)) (all_fg _))
set_option maxRecDepth 20000 in
theorem gX12_accept_X12_readSets : GoodIn wsX12_accept (wsV RX12 352 RX12 yX12_readSets wsX12_readSets) := goodIn_app (goodIn_m (mem_cA (List.mem_cons_of_mem _ (List.mem_append_left _ (List.mem_append_left _ (List.mem_append_right _ (List.mem_append_left _ (List.mem_of_getElem? (i := 0) rfl)))))) (mem_cA (List.mem_cons_of_mem _ (List.mem_append_left _ (List.mem_append_left _ (List.mem_append_right _ (List.mem_append_left _ (List.mem_of_getElem? (i := 1) rfl)))))) (mem_cA (List.mem_cons_of_mem _ (List.mem_append_left _ (List.mem_append_left _ (List.mem_append_right _ (List.mem_append_left _ (List.mem_of_getElem? (i := 2) rfl)))))) (mem_cA (List.mem_cons_of_mem _ (List.mem_append_left _ (List.mem_append_left _ (List.mem_append_left _ (List.mem_of_getElem? (i := 7) rfl))))) mem_cZ)))) (by decide +kernel)) ggX12_accept_X12_readSets
theorem dX12_accept_0 : decode cX12_accept 0 = .ok (.aload_n 0, 1) := by decide +kernel
theorem dX12_accept_1 : decode cX12_accept 1 = .ok (.getfield 45, 3) := by decide +kernel
theorem dX12_accept_4 : decode cX12_accept 4 = .ok (.bipush 8, 2) := by decide +kernel
theorem dX12_accept_6 : decode cX12_accept 6 = .ok (.dup2, 1) := by decide +kernel
theorem dX12_accept_7 : decode cX12_accept 7 = .ok (.laload, 1) := by decide +kernel
theorem dX12_accept_8 : decode cX12_accept 8 = .ok (.lconst 1, 1) := by decide +kernel
theorem dX12_accept_9 : decode cX12_accept 9 = .ok (.ladd, 1) := by decide +kernel
theorem dX12_accept_10 : decode cX12_accept 10 = .ok (.lastore, 1) := by decide +kernel
theorem dX12_accept_11 : decode cX12_accept 11 = .ok (.aload_n 0, 1) := by decide +kernel
theorem dX12_accept_12 : decode cX12_accept 12 = .ok (.getfield 280, 3) := by decide +kernel
theorem dX12_accept_15 : decode cX12_accept 15 = .ok (.bipush 16, 2) := by decide +kernel
theorem dX12_accept_17 : decode cX12_accept 17 = .ok (.if_icmp .lt 31, 3) := by decide +kernel
theorem dX12_accept_20 : decode cX12_accept 20 = .ok (.aload_n 0, 1) := by decide +kernel
theorem dX12_accept_21 : decode cX12_accept 21 = .ok (.iconst 0, 1) := by decide +kernel
theorem dX12_accept_22 : decode cX12_accept 22 = .ok (.iconst 2, 1) := by decide +kernel
theorem dX12_accept_23 : decode cX12_accept 23 = .ok (.invokevirtual 339, 3) := by decide +kernel
theorem dX12_accept_26 : decode cX12_accept 26 = .ok (.ldc2_w 298, 3) := by decide +kernel
theorem dX12_accept_29 : decode cX12_accept 29 = .ok (.lcmp, 1) := by decide +kernel
theorem dX12_accept_30 : decode cX12_accept 30 = .ok (.ifCond .ne 18, 3) := by decide +kernel
theorem dX12_accept_33 : decode cX12_accept 33 = .ok (.aload_n 0, 1) := by decide +kernel
theorem dX12_accept_34 : decode cX12_accept 34 = .ok (.iconst 2, 1) := by decide +kernel
theorem dX12_accept_35 : decode cX12_accept 35 = .ok (.iconst 2, 1) := by decide +kernel
theorem dX12_accept_36 : decode cX12_accept 36 = .ok (.invokevirtual 339, 3) := by decide +kernel
theorem dX12_accept_39 : decode cX12_accept 39 = .ok (.aload_n 0, 1) := by decide +kernel
theorem dX12_accept_40 : decode cX12_accept 40 = .ok (.getfield 280, 3) := by decide +kernel
theorem dX12_accept_43 : decode cX12_accept 43 = .ok (.i2l, 1) := by decide +kernel
theorem dX12_accept_44 : decode cX12_accept 44 = .ok (.lcmp, 1) := by decide +kernel
theorem dX12_accept_45 : decode cX12_accept 45 = .ok (.ifCond .eq 15, 3) := by decide +kernel
theorem dX12_accept_48 : decode cX12_accept 48 = .ok (.aload_n 0, 1) := by decide +kernel
theorem dX12_accept_49 : decode cX12_accept 49 = .ok (.getfield 45, 3) := by decide +kernel
theorem dX12_accept_52 : decode cX12_accept 52 = .ok (.iconst 4, 1) := by decide +kernel
theorem dX12_accept_53 : decode cX12_accept 53 = .ok (.dup2, 1) := by decide +kernel
theorem dX12_accept_54 : decode cX12_accept 54 = .ok (.laload, 1) := by decide +kernel
theorem dX12_accept_55 : decode cX12_accept 55 = .ok (.lconst 1, 1) := by decide +kernel
theorem dX12_accept_56 : decode cX12_accept 56 = .ok (.ladd, 1) := by decide +kernel
theorem dX12_accept_57 : decode cX12_accept 57 = .ok (.lastore, 1) := by decide +kernel
theorem dX12_accept_58 : decode cX12_accept 58 = .ok (.iconst 0, 1) := by decide +kernel
theorem dX12_accept_59 : decode cX12_accept 59 = .ok (.ireturn, 1) := by decide +kernel
theorem dX12_accept_60 : decode cX12_accept 60 = .ok (.aload_n 0, 1) := by decide +kernel
theorem dX12_accept_61 : decode cX12_accept 61 = .ok (.iconst 4, 1) := by decide +kernel
theorem dX12_accept_62 : decode cX12_accept 62 = .ok (.iconst 4, 1) := by decide +kernel
theorem dX12_accept_63 : decode cX12_accept 63 = .ok (.invokevirtual 339, 3) := by decide +kernel
theorem dX12_accept_66 : decode cX12_accept 66 = .ok (.lstore_n 1, 1) := by decide +kernel
theorem dX12_accept_67 : decode cX12_accept 67 = .ok (.aload_n 0, 1) := by decide +kernel
theorem dX12_accept_68 : decode cX12_accept 68 = .ok (.bipush 8, 2) := by decide +kernel
theorem dX12_accept_70 : decode cX12_accept 70 = .ok (.iconst 4, 1) := by decide +kernel
theorem dX12_accept_71 : decode cX12_accept 71 = .ok (.invokevirtual 339, 3) := by decide +kernel
theorem dX12_accept_74 : decode cX12_accept 74 = .ok (.lstore_n 3, 1) := by decide +kernel
theorem dX12_accept_75 : decode cX12_accept 75 = .ok (.aload_n 0, 1) := by decide +kernel
theorem dX12_accept_76 : decode cX12_accept 76 = .ok (.lload_n 3, 1) := by decide +kernel
theorem dX12_accept_77 : decode cX12_accept 77 = .ok (.lload_n 1, 1) := by decide +kernel
theorem dX12_accept_78 : decode cX12_accept 78 = .ok (.invokevirtual 342, 3) := by decide +kernel
theorem dX12_accept_81 : decode cX12_accept 81 = .ok (.ifCond .eq 15, 3) := by decide +kernel
theorem dX12_accept_84 : decode cX12_accept 84 = .ok (.aload_n 0, 1) := by decide +kernel
theorem dX12_accept_85 : decode cX12_accept 85 = .ok (.getfield 45, 3) := by decide +kernel
theorem dX12_accept_88 : decode cX12_accept 88 = .ok (.iconst 2, 1) := by decide +kernel
theorem dX12_accept_89 : decode cX12_accept 89 = .ok (.dup2, 1) := by decide +kernel
theorem dX12_accept_90 : decode cX12_accept 90 = .ok (.laload, 1) := by decide +kernel
theorem dX12_accept_91 : decode cX12_accept 91 = .ok (.lconst 1, 1) := by decide +kernel
theorem dX12_accept_92 : decode cX12_accept 92 = .ok (.ladd, 1) := by decide +kernel
theorem dX12_accept_93 : decode cX12_accept 93 = .ok (.lastore, 1) := by decide +kernel
theorem dX12_accept_94 : decode cX12_accept 94 = .ok (.iconst 0, 1) := by decide +kernel
theorem dX12_accept_95 : decode cX12_accept 95 = .ok (.ireturn, 1) := by decide +kernel
theorem dX12_accept_96 : decode cX12_accept 96 = .ok (.aload_n 0, 1) := by decide +kernel
theorem dX12_accept_97 : decode cX12_accept 97 = .ok (.bipush 12, 2) := by decide +kernel
theorem dX12_accept_99 : decode cX12_accept 99 = .ok (.iconst 4, 1) := by decide +kernel
theorem dX12_accept_100 : decode cX12_accept 100 = .ok (.invokevirtual 339, 3) := by decide +kernel
theorem dX12_accept_103 : decode cX12_accept 103 = .ok (.lstore 5, 2) := by decide +kernel
theorem dX12_accept_105 : decode cX12_accept 105 = .ok (.aload_n 0, 1) := by decide +kernel
theorem dX12_accept_106 : decode cX12_accept 106 = .ok (.lload_n 3, 1) := by decide +kernel
theorem dX12_accept_107 : decode cX12_accept 107 = .ok (.lload_n 1, 1) := by decide +kernel
theorem dX12_accept_108 : decode cX12_accept 108 = .ok (.lload 5, 2) := by decide +kernel
theorem dX12_accept_110 : decode cX12_accept 110 = .ok (.ldc2_w 346, 3) := by decide +kernel
theorem dX12_accept_113 : decode cX12_accept 113 = .ok (.lcmp, 1) := by decide +kernel
theorem dX12_accept_114 : decode cX12_accept 114 = .ok (.ifCond .le 7, 3) := by decide +kernel
theorem dX12_accept_117 : decode cX12_accept 117 = .ok (.lconst 0, 1) := by decide +kernel
theorem dX12_accept_118 : decode cX12_accept 118 = .ok (.goto 5, 3) := by decide +kernel
theorem dX12_accept_121 : decode cX12_accept 121 = .ok (.lload 5, 2) := by decide +kernel
theorem dX12_accept_123 : decode cX12_accept 123 = .ok (.invokevirtual 348, 3) := by decide +kernel
theorem dX12_accept_126 : decode cX12_accept 126 = .ok (.aload_n 0, 1) := by decide +kernel
theorem dX12_accept_127 : decode cX12_accept 127 = .ok (.invokevirtual 352, 3) := by decide +kernel
theorem dX12_accept_130 : decode cX12_accept 130 = .ok (.ireturn, 1) := by decide +kernel
set_option maxRecDepth 20000 in
theorem ggX12_receive_X12_accept : GoodIn wsX12_receive wsX12_accept := goodIn_ca ((goodIn_ca (goodIn_r _ [10, 11, 3, 12, 13, 14, 15, 16, 9, 17, 4, 18, 19, 20, 21, 22, 23, 24, 25, 26, 27, 28, 29, 30, 31, 32, 33, 34, 35, 36, 37, 38, 39, 40, 41, 42, 43, 44, 45, 46, 47, 48, 49, 50, 51, 52, 53, 54, 55, 56, 57, 58, 59, 60, 61, 62, 63, 64, 65, 66, 67, 68, 69, 70, 71, 72, 73, 74, 75, 76, 77, 78, 79, 80, 81, 82, 83, 84, 85, 86, 87, 88, 89, 90, 91, 92, 93, 94, 95, 96, 97] rfl (by decide +kernel)) (goodIn_sub (fun _ h => List.mem_cons_of_mem _ (List.mem_append_left _ (List.mem_append_right _ h))) gw_wsX120))) (goodIn_sub (fun _ h => List.mem_cons_of_mem _ (List.mem_append_right _ h)) (all_fg _))
set_option maxRecDepth 20000 in
theorem gX12_receive_X12_accept : GoodIn wsX12_receive (wsV RX12 320 RX12 yX12_accept wsX12_accept) := goodIn_app (goodIn_m (mem_cA (List.mem_cons_of_mem _ (List.mem_append_left _ (List.mem_append_left _ (List.mem_append_left _ (List.mem_of_getElem? (i := 5) rfl))))) (mem_cA (List.mem_cons_of_mem _ (List.mem_append_left _ (List.mem_append_left _ (List.mem_append_left _ (List.mem_of_getElem? (i := 6) rfl))))) (mem_cA (List.mem_cons_of_mem _ (List.mem_append_left _ (List.mem_append_left _ (List.mem_append_left _ (List.mem_of_getElem? (i := 7) rfl))))) (mem_cA (List.mem_cons_of_mem _ (List.mem_append_left _ (List.mem_append_left _ (List.mem_append_left _ (List.mem_of_getElem? (i := 8) rfl))))) mem_cZ)))) (by decide +kernel)) ggX12_receive_X12_accept
theorem dX12_receive_0 : decode cX12_receive 0 = .ok (.aload_n 0, 1) := by decide +kernel
theorem dX12_receive_1 : decode cX12_receive 1 = .ok (.iconst 0, 1) := by decide +kernel
theorem dX12_receive_2 : decode cX12_receive 2 = .ok (.putfield 1, 3) := by decide +kernel
theorem dX12_receive_5 : decode cX12_receive 5 = .ok (.aload_n 0, 1) := by decide +kernel
theorem dX12_receive_6 : decode cX12_receive 6 = .ok (.aload_n 0, 1) := by decide +kernel
theorem dX12_receive_7 : decode cX12_receive 7 = .ok (.getfield 441, 3) := by decide +kernel
theorem dX12_receive_10 : decode cX12_receive 10 = .ok (.putfield 280, 3) := by decide +kernel
theorem dX12_receive_13 : decode cX12_receive 13 = .ok (.iconst 0, 1) := by decide +kernel
theorem dX12_receive_14 : decode cX12_receive 14 = .ok (.istore_n 1, 1) := by decide +kernel
theorem dX12_receive_15 : decode cX12_receive 15 = .ok (.iload_n 1, 1) := by decide +kernel
theorem dX12_receive_16 : decode cX12_receive 16 = .ok (.aload_n 0, 1) := by decide +kernel
theorem dX12_receive_17 : decode cX12_receive 17 = .ok (.getfield 280, 3) := by decide +kernel
theorem dX12_receive_20 : decode cX12_receive 20 = .ok (.if_icmp .ge 25, 3) := by decide +kernel
theorem dX12_receive_23 : decode cX12_receive 23 = .ok (.aload_n 0, 1) := by decide +kernel
theorem dX12_receive_24 : decode cX12_receive 24 = .ok (.getfield 36, 3) := by decide +kernel
theorem dX12_receive_27 : decode cX12_receive 27 = .ok (.iload_n 1, 1) := by decide +kernel
theorem dX12_receive_28 : decode cX12_receive 28 = .ok (.aload_n 0, 1) := by decide +kernel
theorem dX12_receive_29 : decode cX12_receive 29 = .ok (.getfield 88, 3) := by decide +kernel
theorem dX12_receive_32 : decode cX12_receive 32 = .ok (.iload_n 1, 1) := by decide +kernel
theorem dX12_receive_33 : decode cX12_receive 33 = .ok (.baload, 1) := by decide +kernel
theorem dX12_receive_34 : decode cX12_receive 34 = .ok (.sipush 255, 3) := by decide +kernel
theorem dX12_receive_37 : decode cX12_receive 37 = .ok (.iand, 1) := by decide +kernel
theorem dX12_receive_38 : decode cX12_receive 38 = .ok (.iastore, 1) := by decide +kernel
theorem dX12_receive_39 : decode cX12_receive 39 = .ok (.iinc 1 1, 3) := by decide +kernel
theorem dX12_receive_42 : decode cX12_receive 42 = .ok (.goto (-27), 3) := by decide +kernel
theorem dX12_receive_45 : decode cX12_receive 45 = .ok (.aload_n 0, 1) := by decide +kernel
theorem dX12_receive_46 : decode cX12_receive 46 = .ok (.iconst 0, 1) := by decide +kernel
theorem dX12_receive_47 : decode cX12_receive 47 = .ok (.putfield 441, 3) := by decide +kernel
theorem dX12_receive_50 : decode cX12_receive 50 = .ok (.aload_n 0, 1) := by decide +kernel
theorem dX12_receive_51 : decode cX12_receive 51 = .ok (.invokevirtual 320, 3) := by decide +kernel
theorem dX12_receive_54 : decode cX12_receive 54 = .ok (.ireturn, 1) := by decide +kernel
set_option maxHeartbeats 4000000 in
set_option maxRecDepth 100000 in
theorem r_accept (G : EnvG) (l : Launch) (Φ : Hm) (sz x : Nat) (rd : (Nat → Int32) → Prop) (nw : (Nat → Int32) → Prop) (cr : (Nat → Int64) → Prop) (tp : (Nat → Int32) → Prop) (tt : (Nat → Int64) → Prop) (sI : (Nat → Int32) → Prop) (sT : (Nat → Int32) → Prop) (pt : (Nat → Int32) → Prop) (ql : (Nat → Int32) → Prop) (fl : Nat) (pe : Nat) (le : Nat) (nx : Nat) (il : Nat) (qu : Nat) (kn : Int32) (ec : Int32) (nu : Int32) (va : Int64) (st : Nat) (ep : Int32) (ti : Int32) (ad : Int32) (ob : Int64) (ra : Int32) (rt : Nat) (ex : Int32) (sa : Int64) (us : Int64) (tk : Nat) (th : Int32) (me : Int32) (dr : Int32) (se : Int64) (sn : Int64)  (hx : G.2.2.2 ≤ x) (hI : Im G x (rd, nw, cr, tp, tt, sI, sT, pt, ql, fl, pe, le, nx, il, qu, kn, ec, nu, va, st, ep, ti, ad, ob, ra, rt, ex, sa, us, tk, th, me, dr, se, sn) Φ) (hnw : ∀ f9 : Nat → Int32, nw f9 → NN f9) : CtD G l yX12_accept wsX12_accept ({ frames := 6, cells := 0, slots := 0, locals := 160 }) 0 0 [.ref x] Φ sz (fun v Φ1 sz1 => (∃ r9 : Int32, v = some (.int r9)) ∧ sz1 = sz ∧ (Im G x (rd, nw, cr, tp, tt, sI, sT, pt, ql, fl, pe, le, nx, il, qu, kn, ec, nu, va, st, ep, ti, ad, ob, ra, rt, ex, sa, us, tk, th, me, dr, se, sn) Φ1) ∧ Fr x (fun j9 => j9 = 0 ∨ j9 = 11 ∨ j9 = 12 ∨ j9 = 13 ∨ j9 = 14 ∨ j9 = 15 ∨ j9 = 16 ∨ j9 = 17 ∨ j9 = 18 ∨ j9 = 19 ∨ j9 = 20 ∨ j9 = 21 ∨ j9 = 22) Φ Φ1) := by
  refine CtD.of (cc := cX12_accept) (maxL := 7) (ret := (some .int)) (by decide) rfl (Nat.le_of_ble_eq_true rfl) ?_
  intro p9 e9 s9 m9 w9 t9 k9 d9 hd9 B
  show Z p9 l e9 _ (s9.setDrawn d9) m9 _ w9 t9 k9 _ G 7 0 [(0, .ref x)] [] Φ sz 0 0
  refine z_aload_n B dX12_accept_0 rfl 0 rfl ?_
  obtain ⟨n_1, v_1, n_2, h_1, b_13, b_1, b_2, b_3, b_4, b_5, b_6, b_7, b_8, b_9, b_10, b_11, b_12⟩ := im0 hI
  replace b_1 : 1 ≤ rt := b_1
  replace b_2 : rt ≤ 1024 := b_2
  replace b_3 : fl ≤ 12 := b_3
  replace b_4 : pe ≤ 24 := b_4
  replace b_5 : le ≤ 700 := b_5
  replace b_6 : qu ≤ 12 := b_6
  replace b_7 : n_1 ≤ 8 := b_7
  replace b_8 : n_2 ≤ 24 := b_8
  replace b_9 : tk ≤ 24 := b_9
  replace b_10 : il ≤ 700 := b_10
  replace b_11 : nx ≤ 701 := b_11
  replace b_12 : st ≤ 701 := b_12
  have h_2 : Φ x = some (o_ 14 [.int th, .ref (x + 1), .ref (x + 2), .int ti, .int ra, .int (nI rt), .int ex, .int ad, .ref (x + 3), .ref (x + 4), .int me, .long se, .ref (x + 5), .int (nI fl), .int dr, .long ob, .long sa, .long sn, .long us, .ref (x + 6), .ref (x + 7), .int (nI pe), .ref (x + 8), .int (nI le), .ref (x + 9), .ref (x + 10), .int (nI qu), .ref (x + 11), .ref (x + 12), .ref (x + 13), .ref (x + 14), .ref (x + 15), .ref (x + 16), .int (nI n_1), .long v_1, .ref (x + 17), .ref (x + 18), .ref (x + 19), .ref (x + 20), .ref (x + 21), .ref (x + 22), .int (nI n_2), .ref (x + 23), .ref (x + 24), .int (nI tk), .ref (x + 25), .int (nI il), .int (nI nx), .int ec, .int ep, .int kn, .int (nI st), .int nu, .long va]) := h_1
  refine z_get (ref := "FlowExporterModel") (C := RX12) (T := TX12) (N := 54) (ci := 14) (v := .ref (x + 11)) B hu_X12_accept_X12 rfl 27 (Nat.le_of_ble_eq_true rfl) hv_X12_accept_45 rfl h_2 rfl dX12_accept_1 ?_
  refine z_bipush (v := 8) B dX12_accept_4 rfl ?_
  refine z_dup2_11 B dX12_accept_6 rfl rfl ?_
  obtain ⟨f_1, h_3⟩ := imk (k := 11) hI
  have h_4 : Φ (x + 11) = some (al_ G 9 f_1) := h_3
  refine z_lald B h_4 (vin rfl) dX12_accept_7 ?_
  refine z_fl (fun v_2 => ?_)
  refine z_lconst (v := 1) B dX12_accept_8 rfl ?_
  refine z_ladd B dX12_accept_9 ?_
  refine z_fl (fun v_3 => ?_)
  refine z_last B h_4 (Nat.le_trans hx (Nat.le_add_right x 11)) (vin rfl) dX12_accept_10 (fun Φ1 hΦ1 => ?_)
  have h_5 : Φ1 (x + 11) = some (al_ G 9 (vp_updL f_1 (8 : Int32).toNatClampNeg v_3)) := fset_at hΦ1
  have hI1 : Im G x (rd, nw, cr, tp, tt, sI, sT, pt, ql, fl, pe, le, nx, il, qu, kn, ec, nu, va, st, ep, ti, ad, ob, ra, rt, ex, sa, us, tk, th, me, dr, se, sn) Φ1 := Im.put (k := 11) hI hΦ1 ⟨_, rfl⟩
  refine z_aload_n B dX12_accept_11 rfl 0 rfl ?_
  have h_6 : Φ1 x = some (o_ 14 [.int th, .ref (x + 1), .ref (x + 2), .int ti, .int ra, .int (nI rt), .int ex, .int ad, .ref (x + 3), .ref (x + 4), .int me, .long se, .ref (x + 5), .int (nI fl), .int dr, .long ob, .long sa, .long sn, .long us, .ref (x + 6), .ref (x + 7), .int (nI pe), .ref (x + 8), .int (nI le), .ref (x + 9), .ref (x + 10), .int (nI qu), .ref (x + 11), .ref (x + 12), .ref (x + 13), .ref (x + 14), .ref (x + 15), .ref (x + 16), .int (nI n_1), .long v_1, .ref (x + 17), .ref (x + 18), .ref (x + 19), .ref (x + 20), .ref (x + 21), .ref (x + 22), .int (nI n_2), .ref (x + 23), .ref (x + 24), .int (nI tk), .ref (x + 25), .int (nI il), .int (nI nx), .int ec, .int ep, .int kn, .int (nI st), .int nu, .long va]) := ((fset_fr hΦ1 (ne_off (x := x) (i := 0) (j := 11) rfl)).trans h_2)
  refine z_get (ref := "FlowExporterModel") (C := RX12) (T := TX12) (N := 54) (ci := 14) (v := .int (nI le)) B hu_X12_accept_X12 rfl 23 (Nat.le_of_ble_eq_true rfl) hv_X12_accept_280 rfl h_6 rfl dX12_accept_12 ?_
  refine z_bipush (v := 16) B dX12_accept_15 rfl ?_
  refine z_icmp_lt (tgt := 48) B dX12_accept_17 rfl (fun c_1 => ?_) (fun c_1 => ?_)
  · have e_1 : le < 16 := (nI_ltI (a := le) (b := 16) (by omega) (by omega)).mp c_1
    refine z_aload_n B dX12_accept_48 rfl 0 rfl ?_
    refine z_get (ref := "FlowExporterModel") (C := RX12) (T := TX12) (N := 54) (ci := 14) (v := .ref (x + 11)) B hu_X12_accept_X12 rfl 27 (Nat.le_of_ble_eq_true rfl) hv_X12_accept_45 rfl h_6 rfl dX12_accept_49 ?_
    refine z_iconst (v := 4) B dX12_accept_52 rfl ?_
    refine z_dup2_11 B dX12_accept_53 rfl rfl ?_
    obtain ⟨f_2, h_7⟩ := imk (k := 11) hI1
    have h_8 : Φ1 (x + 11) = some (al_ G 9 f_2) := h_7
    refine z_lald B h_8 (vin rfl) dX12_accept_54 ?_
    refine z_fl (fun v_4 => ?_)
    refine z_lconst (v := 1) B dX12_accept_55 rfl ?_
    refine z_ladd B dX12_accept_56 ?_
    refine z_fl (fun v_5 => ?_)
    refine z_last B h_8 (Nat.le_trans hx (Nat.le_add_right x 11)) (vin rfl) dX12_accept_57 (fun Φ2 hΦ2 => ?_)
    have h_9 : Φ2 (x + 11) = some (al_ G 9 (vp_updL f_2 (4 : Int32).toNatClampNeg v_5)) := fset_at hΦ2
    have hI2 : Im G x (rd, nw, cr, tp, tt, sI, sT, pt, ql, fl, pe, le, nx, il, qu, kn, ec, nu, va, st, ep, ti, ad, ob, ra, rt, ex, sa, us, tk, th, me, dr, se, sn) Φ2 := Im.put (k := 11) hI1 hΦ2 ⟨_, rfl⟩
    refine z_iconst (v := 0) B dX12_accept_58 rfl ?_
    exact zd_end hd9 (z_ret_i B dX12_accept_59 ⟨⟨_, rfl⟩, rfl, hI2, (fun b9 h9 => ((fset_fr hΦ2 (fun h8 => h9 (11) h8 (show 11 = 0 ∨ 11 = 11 ∨ 11 = 12 ∨ 11 = 13 ∨ 11 = 14 ∨ 11 = 15 ∨ 11 = 16 ∨ 11 = 17 ∨ 11 = 18 ∨ 11 = 19 ∨ 11 = 20 ∨ 11 = 21 ∨ 11 = 22 by decide))).trans ((fset_fr hΦ1 (fun h8 => h9 (11) h8 (show 11 = 0 ∨ 11 = 11 ∨ 11 = 12 ∨ 11 = 13 ∨ 11 = 14 ∨ 11 = 15 ∨ 11 = 16 ∨ 11 = 17 ∨ 11 = 18 ∨ 11 = 19 ∨ 11 = 20 ∨ 11 = 21 ∨ 11 = 22 by decide))).trans rfl)))⟩)
  · have e_2 : ¬ (le < 16) := fun h9 => c_1 ((nI_ltI (a := le) (b := 16) (by omega) (by omega)).mpr h9)
    refine z_aload_n B dX12_accept_20 rfl 0 rfl ?_
    refine z_iconst (v := 0) B dX12_accept_21 rfl ?_
    refine z_iconst (v := 2) B dX12_accept_22 rfl ?_
    refine z_callV (As := [.int 0, .int 2]) (rest := []) B (r_get G l Φ1 sz x rd nw cr tp tt sI sT pt ql fl pe le nx il qu kn ec nu va st ep ti ad ob ra rt ex sa us tk th me dr se sn 0 2 hx hI1 (show 2 ≤ 8 by omega) (show 0 + 2 ≤ 700 by omega) hnw) (cwV 2 B.1.2.2.2.2 gX12_accept_X12_get rfl rfl rfl (by decide +kernel) ⟨Nat.le_of_ble_eq_true rfl, Nat.le_of_ble_eq_true rfl⟩) h_6 rfl rfl rfl rfl (Nat.le_of_ble_eq_true rfl) dX12_accept_23 ⟨Nat.le_of_ble_eq_true rfl, Nat.le_of_ble_eq_true rfl⟩ (fun r_3 Φ3 sz1 st1 hp1 hs1 => ?_)
    obtain ⟨⟨v_6, rfl, q_1⟩, hq1, hI3, hF1⟩ := hp1
    subst sz1
    replace hs1 : st1 = [.long v_6] := hs1
    subst st1
    replace q_1 : np 2 v_6 := q_1
    replace hI3 : Im G x (rd, nw, cr, tp, tt, sI, sT, pt, ql, fl, pe, le, nx, il, qu, kn, ec, nu, va, st, ep, ti, ad, ob, ra, rt, ex, sa, us, tk, th, me, dr, se, sn) Φ3 := hI3
    refine z_ldc2 (v := 10) B (by decide +kernel) dX12_accept_26 ?_
    refine z_lcmp B dX12_accept_29 ?_
    refine z_fi (fun v_7 => ?_)
    refine z_if_ne (tgt := 48) B dX12_accept_30 rfl (fun c_2 => ?_) (fun c_2 => ?_)
    · refine z_aload_n B dX12_accept_48 rfl 0 rfl ?_
      have h_10 : Φ3 x = some (o_ 14 [.int th, .ref (x + 1), .ref (x + 2), .int ti, .int ra, .int (nI rt), .int ex, .int ad, .ref (x + 3), .ref (x + 4), .int me, .long se, .ref (x + 5), .int (nI fl), .int dr, .long ob, .long sa, .long sn, .long us, .ref (x + 6), .ref (x + 7), .int (nI pe), .ref (x + 8), .int (nI le), .ref (x + 9), .ref (x + 10), .int (nI qu), .ref (x + 11), .ref (x + 12), .ref (x + 13), .ref (x + 14), .ref (x + 15), .ref (x + 16), .int (nI n_1), .long v_1, .ref (x + 17), .ref (x + 18), .ref (x + 19), .ref (x + 20), .ref (x + 21), .ref (x + 22), .int (nI n_2), .ref (x + 23), .ref (x + 24), .int (nI tk), .ref (x + 25), .int (nI il), .int (nI nx), .int ec, .int ep, .int kn, .int (nI st), .int nu, .long va]) := ((hF1 x (fun j9 h8 h7 => (show False from h7).elim)).trans h_6)
      refine z_get (ref := "FlowExporterModel") (C := RX12) (T := TX12) (N := 54) (ci := 14) (v := .ref (x + 11)) B hu_X12_accept_X12 rfl 27 (Nat.le_of_ble_eq_true rfl) hv_X12_accept_45 rfl h_10 rfl dX12_accept_49 ?_
      refine z_iconst (v := 4) B dX12_accept_52 rfl ?_
      refine z_dup2_11 B dX12_accept_53 rfl rfl ?_
      obtain ⟨f_3, h_11⟩ := imk (k := 11) hI3
      have h_12 : Φ3 (x + 11) = some (al_ G 9 f_3) := h_11
      refine z_lald B h_12 (vin rfl) dX12_accept_54 ?_
      refine z_fl (fun v_8 => ?_)
      refine z_lconst (v := 1) B dX12_accept_55 rfl ?_
      refine z_ladd B dX12_accept_56 ?_
      refine z_fl (fun v_9 => ?_)
      refine z_last B h_12 (Nat.le_trans hx (Nat.le_add_right x 11)) (vin rfl) dX12_accept_57 (fun Φ4 hΦ3 => ?_)
      have h_13 : Φ4 (x + 11) = some (al_ G 9 (vp_updL f_3 (4 : Int32).toNatClampNeg v_9)) := fset_at hΦ3
      have hI4 : Im G x (rd, nw, cr, tp, tt, sI, sT, pt, ql, fl, pe, le, nx, il, qu, kn, ec, nu, va, st, ep, ti, ad, ob, ra, rt, ex, sa, us, tk, th, me, dr, se, sn) Φ4 := Im.put (k := 11) hI3 hΦ3 ⟨_, rfl⟩
      refine z_iconst (v := 0) B dX12_accept_58 rfl ?_
      exact zd_end hd9 (z_ret_i B dX12_accept_59 ⟨⟨_, rfl⟩, rfl, hI4, (fun b9 h9 => ((fset_fr hΦ3 (fun h8 => h9 (11) h8 (show 11 = 0 ∨ 11 = 11 ∨ 11 = 12 ∨ 11 = 13 ∨ 11 = 14 ∨ 11 = 15 ∨ 11 = 16 ∨ 11 = 17 ∨ 11 = 18 ∨ 11 = 19 ∨ 11 = 20 ∨ 11 = 21 ∨ 11 = 22 by decide))).trans ((hF1 b9 (fun j9 h8 h7 => (show False from h7).elim)).trans ((fset_fr hΦ1 (fun h8 => h9 (11) h8 (show 11 = 0 ∨ 11 = 11 ∨ 11 = 12 ∨ 11 = 13 ∨ 11 = 14 ∨ 11 = 15 ∨ 11 = 16 ∨ 11 = 17 ∨ 11 = 18 ∨ 11 = 19 ∨ 11 = 20 ∨ 11 = 21 ∨ 11 = 22 by decide))).trans rfl))))⟩)
    · refine z_aload_n B dX12_accept_33 rfl 0 rfl ?_
      refine z_iconst (v := 2) B dX12_accept_34 rfl ?_
      refine z_iconst (v := 2) B dX12_accept_35 rfl ?_
      have h_14 : Φ3 x = some (o_ 14 [.int th, .ref (x + 1), .ref (x + 2), .int ti, .int ra, .int (nI rt), .int ex, .int ad, .ref (x + 3), .ref (x + 4), .int me, .long se, .ref (x + 5), .int (nI fl), .int dr, .long ob, .long sa, .long sn, .long us, .ref (x + 6), .ref (x + 7), .int (nI pe), .ref (x + 8), .int (nI le), .ref (x + 9), .ref (x + 10), .int (nI qu), .ref (x + 11), .ref (x + 12), .ref (x + 13), .ref (x + 14), .ref (x + 15), .ref (x + 16), .int (nI n_1), .long v_1, .ref (x + 17), .ref (x + 18), .ref (x + 19), .ref (x + 20), .ref (x + 21), .ref (x + 22), .int (nI n_2), .ref (x + 23), .ref (x + 24), .int (nI tk), .ref (x + 25), .int (nI il), .int (nI nx), .int ec, .int ep, .int kn, .int (nI st), .int nu, .long va]) := ((hF1 x (fun j9 h8 h7 => (show False from h7).elim)).trans h_6)
      refine z_callV (As := [.int 2, .int 2]) (rest := []) B (r_get G l Φ3 sz x rd nw cr tp tt sI sT pt ql fl pe le nx il qu kn ec nu va st ep ti ad ob ra rt ex sa us tk th me dr se sn 2 2 hx hI3 (show 2 ≤ 8 by omega) (show 2 + 2 ≤ 700 by omega) hnw) (cwV 2 B.1.2.2.2.2 gX12_accept_X12_get rfl rfl rfl (by decide +kernel) ⟨Nat.le_of_ble_eq_true rfl, Nat.le_of_ble_eq_true rfl⟩) h_14 rfl rfl rfl rfl (Nat.le_of_ble_eq_true rfl) dX12_accept_36 ⟨Nat.le_of_ble_eq_true rfl, Nat.le_of_ble_eq_true rfl⟩ (fun r_5 Φ5 sz2 st2 hp2 hs2 => ?_)
      obtain ⟨⟨v_10, rfl, q_2⟩, hq2, hI5, hF2⟩ := hp2
      subst sz2
      replace hs2 : st2 = [.long v_10] := hs2
      subst st2
      replace q_2 : np 2 v_10 := q_2
      replace hI5 : Im G x (rd, nw, cr, tp, tt, sI, sT, pt, ql, fl, pe, le, nx, il, qu, kn, ec, nu, va, st, ep, ti, ad, ob, ra, rt, ex, sa, us, tk, th, me, dr, se, sn) Φ5 := hI5
      refine z_aload_n B dX12_accept_39 rfl 0 rfl ?_
      have h_15 : Φ5 x = some (o_ 14 [.int th, .ref (x + 1), .ref (x + 2), .int ti, .int ra, .int (nI rt), .int ex, .int ad, .ref (x + 3), .ref (x + 4), .int me, .long se, .ref (x + 5), .int (nI fl), .int dr, .long ob, .long sa, .long sn, .long us, .ref (x + 6), .ref (x + 7), .int (nI pe), .ref (x + 8), .int (nI le), .ref (x + 9), .ref (x + 10), .int (nI qu), .ref (x + 11), .ref (x + 12), .ref (x + 13), .ref (x + 14), .ref (x + 15), .ref (x + 16), .int (nI n_1), .long v_1, .ref (x + 17), .ref (x + 18), .ref (x + 19), .ref (x + 20), .ref (x + 21), .ref (x + 22), .int (nI n_2), .ref (x + 23), .ref (x + 24), .int (nI tk), .ref (x + 25), .int (nI il), .int (nI nx), .int ec, .int ep, .int kn, .int (nI st), .int nu, .long va]) := ((hF2 x (fun j9 h8 h7 => (show False from h7).elim)).trans h_14)
      refine z_get (ref := "FlowExporterModel") (C := RX12) (T := TX12) (N := 54) (ci := 14) (v := .int (nI le)) B hu_X12_accept_X12 rfl 23 (Nat.le_of_ble_eq_true rfl) hv_X12_accept_280 rfl h_15 rfl dX12_accept_40 ?_
      refine z_i2l (v := (nI le).toInt64) B dX12_accept_43 rfl ?_
      refine z_lcmp B dX12_accept_44 ?_
      refine z_fi (fun v_11 => ?_)
      refine z_if_eq (tgt := 60) B dX12_accept_45 rfl (fun c_3 => ?_) (fun c_3 => ?_)
      · refine z_aload_n B dX12_accept_60 rfl 0 rfl ?_
        refine z_iconst (v := 4) B dX12_accept_61 rfl ?_
        refine z_iconst (v := 4) B dX12_accept_62 rfl ?_
        refine z_callV (As := [.int 4, .int 4]) (rest := []) B (r_get G l Φ5 sz x rd nw cr tp tt sI sT pt ql fl pe le nx il qu kn ec nu va st ep ti ad ob ra rt ex sa us tk th me dr se sn 4 4 hx hI5 (show 4 ≤ 8 by omega) (show 4 + 4 ≤ 700 by omega) hnw) (cwV 2 B.1.2.2.2.2 gX12_accept_X12_get rfl rfl rfl (by decide +kernel) ⟨Nat.le_of_ble_eq_true rfl, Nat.le_of_ble_eq_true rfl⟩) h_15 rfl rfl rfl rfl (Nat.le_of_ble_eq_true rfl) dX12_accept_63 ⟨Nat.le_of_ble_eq_true rfl, Nat.le_of_ble_eq_true rfl⟩ (fun r_6 Φ6 sz3 st3 hp3 hs3 => ?_)
        obtain ⟨⟨v_12, rfl, q_3⟩, hq3, hI6, hF3⟩ := hp3
        subst sz3
        replace hs3 : st3 = [.long v_12] := hs3
        subst st3
        replace q_3 : np 4 v_12 := q_3
        replace hI6 : Im G x (rd, nw, cr, tp, tt, sI, sT, pt, ql, fl, pe, le, nx, il, qu, kn, ec, nu, va, st, ep, ti, ad, ob, ra, rt, ex, sa, us, tk, th, me, dr, se, sn) Φ6 := hI6
        refine z_lstore_n (lv' := [(1, .long v_12), (0, .ref x)]) B dX12_accept_66 rfl (Nat.le_of_ble_eq_true rfl) rfl ?_
        refine z_aload_n B dX12_accept_67 rfl 1 rfl ?_
        refine z_bipush (v := 8) B dX12_accept_68 rfl ?_
        refine z_iconst (v := 4) B dX12_accept_70 rfl ?_
        have h_16 : Φ6 x = some (o_ 14 [.int th, .ref (x + 1), .ref (x + 2), .int ti, .int ra, .int (nI rt), .int ex, .int ad, .ref (x + 3), .ref (x + 4), .int me, .long se, .ref (x + 5), .int (nI fl), .int dr, .long ob, .long sa, .long sn, .long us, .ref (x + 6), .ref (x + 7), .int (nI pe), .ref (x + 8), .int (nI le), .ref (x + 9), .ref (x + 10), .int (nI qu), .ref (x + 11), .ref (x + 12), .ref (x + 13), .ref (x + 14), .ref (x + 15), .ref (x + 16), .int (nI n_1), .long v_1, .ref (x + 17), .ref (x + 18), .ref (x + 19), .ref (x + 20), .ref (x + 21), .ref (x + 22), .int (nI n_2), .ref (x + 23), .ref (x + 24), .int (nI tk), .ref (x + 25), .int (nI il), .int (nI nx), .int ec, .int ep, .int kn, .int (nI st), .int nu, .long va]) := ((hF3 x (fun j9 h8 h7 => (show False from h7).elim)).trans h_15)
        refine z_callV (As := [.int 8, .int 4]) (rest := []) B (r_get G l Φ6 sz x rd nw cr tp tt sI sT pt ql fl pe le nx il qu kn ec nu va st ep ti ad ob ra rt ex sa us tk th me dr se sn 8 4 hx hI6 (show 4 ≤ 8 by omega) (show 8 + 4 ≤ 700 by omega) hnw) (cwV 2 B.1.2.2.2.2 gX12_accept_X12_get rfl rfl rfl (by decide +kernel) ⟨Nat.le_of_ble_eq_true rfl, Nat.le_of_ble_eq_true rfl⟩) h_16 rfl rfl rfl rfl (Nat.le_of_ble_eq_true rfl) dX12_accept_71 ⟨Nat.le_of_ble_eq_true rfl, Nat.le_of_ble_eq_true rfl⟩ (fun r_7 Φ7 sz4 st4 hp4 hs4 => ?_)
        obtain ⟨⟨v_13, rfl, q_4⟩, hq4, hI7, hF4⟩ := hp4
        subst sz4
        replace hs4 : st4 = [.long v_13] := hs4
        subst st4
        replace q_4 : np 4 v_13 := q_4
        replace hI7 : Im G x (rd, nw, cr, tp, tt, sI, sT, pt, ql, fl, pe, le, nx, il, qu, kn, ec, nu, va, st, ep, ti, ad, ob, ra, rt, ex, sa, us, tk, th, me, dr, se, sn) Φ7 := hI7
        refine z_lstore_n (lv' := [(3, .long v_13), (1, .long v_12), (0, .ref x)]) B dX12_accept_74 rfl (Nat.le_of_ble_eq_true rfl) rfl ?_
        refine z_aload_n B dX12_accept_75 rfl 2 rfl ?_
        refine z_lload_n B dX12_accept_76 rfl 0 rfl ?_
        refine z_lload_n B dX12_accept_77 rfl 1 rfl ?_
        have h_17 : Φ7 x = some (o_ 14 [.int th, .ref (x + 1), .ref (x + 2), .int ti, .int ra, .int (nI rt), .int ex, .int ad, .ref (x + 3), .ref (x + 4), .int me, .long se, .ref (x + 5), .int (nI fl), .int dr, .long ob, .long sa, .long sn, .long us, .ref (x + 6), .ref (x + 7), .int (nI pe), .ref (x + 8), .int (nI le), .ref (x + 9), .ref (x + 10), .int (nI qu), .ref (x + 11), .ref (x + 12), .ref (x + 13), .ref (x + 14), .ref (x + 15), .ref (x + 16), .int (nI n_1), .long v_1, .ref (x + 17), .ref (x + 18), .ref (x + 19), .ref (x + 20), .ref (x + 21), .ref (x + 22), .int (nI n_2), .ref (x + 23), .ref (x + 24), .int (nI tk), .ref (x + 25), .int (nI il), .int (nI nx), .int ec, .int ep, .int kn, .int (nI st), .int nu, .long va]) := ((hF4 x (fun j9 h8 h7 => (show False from h7).elim)).trans h_16)
        refine z_callV (As := [.long v_13, .long v_12]) (rest := []) B (r_isDouble G l Φ7 sz x rd nw cr tp tt sI sT pt ql fl pe le nx il qu kn ec nu va st ep ti ad ob ra rt ex sa us tk th me dr se sn v_13 v_12 hx hI7 hnw) (cwV 2 B.1.2.2.2.2 gX12_accept_X12_isDouble rfl rfl rfl (by decide +kernel) ⟨Nat.le_of_ble_eq_true rfl, Nat.le_of_ble_eq_true rfl⟩) h_17 rfl rfl rfl rfl (Nat.le_of_ble_eq_true rfl) dX12_accept_78 ⟨Nat.le_of_ble_eq_true rfl, Nat.le_of_ble_eq_true rfl⟩ (fun r_8 Φ8 sz5 st5 hp5 hs5 => ?_)
        obtain ⟨⟨v_14, rfl, b_14⟩, hq5, hI8, hF5⟩ := hp5
        subst sz5
        replace hs5 : st5 = [.int v_14] := hs5
        subst st5
        replace hI8 : Im G x (rd, nw, cr, tp, tt, sI, sT, pt, ql, fl, pe, le, nx, il, qu, kn, ec, nu, va, st, ep, ti, ad, ob, ra, rt, ex, sa, us, tk, th, me, dr, se, sn) Φ8 := hI8
        refine z_if_eq (tgt := 96) B dX12_accept_81 rfl (fun c_4 => ?_) (fun c_4 => ?_)
        · refine z_aload_n B dX12_accept_96 rfl 2 rfl ?_
          refine z_bipush (v := 12) B dX12_accept_97 rfl ?_
          refine z_iconst (v := 4) B dX12_accept_99 rfl ?_
          have h_18 : Φ8 x = some (o_ 14 [.int th, .ref (x + 1), .ref (x + 2), .int ti, .int ra, .int (nI rt), .int ex, .int ad, .ref (x + 3), .ref (x + 4), .int me, .long se, .ref (x + 5), .int (nI fl), .int dr, .long ob, .long sa, .long sn, .long us, .ref (x + 6), .ref (x + 7), .int (nI pe), .ref (x + 8), .int (nI le), .ref (x + 9), .ref (x + 10), .int (nI qu), .ref (x + 11), .ref (x + 12), .ref (x + 13), .ref (x + 14), .ref (x + 15), .ref (x + 16), .int (nI n_1), .long v_1, .ref (x + 17), .ref (x + 18), .ref (x + 19), .ref (x + 20), .ref (x + 21), .ref (x + 22), .int (nI n_2), .ref (x + 23), .ref (x + 24), .int (nI tk), .ref (x + 25), .int (nI il), .int (nI nx), .int ec, .int ep, .int kn, .int (nI st), .int nu, .long va]) := ((hF5 x (fun j9 h8 h7 => (show False from h7).elim)).trans h_17)
          refine z_callV (As := [.int 12, .int 4]) (rest := []) B (r_get G l Φ8 sz x rd nw cr tp tt sI sT pt ql fl pe le nx il qu kn ec nu va st ep ti ad ob ra rt ex sa us tk th me dr se sn 12 4 hx hI8 (show 4 ≤ 8 by omega) (show 12 + 4 ≤ 700 by omega) hnw) (cwV 2 B.1.2.2.2.2 gX12_accept_X12_get rfl rfl rfl (by decide +kernel) ⟨Nat.le_of_ble_eq_true rfl, Nat.le_of_ble_eq_true rfl⟩) h_18 rfl rfl rfl rfl (Nat.le_of_ble_eq_true rfl) dX12_accept_100 ⟨Nat.le_of_ble_eq_true rfl, Nat.le_of_ble_eq_true rfl⟩ (fun r_9 Φ9 sz6 st6 hp6 hs6 => ?_)
          obtain ⟨⟨v_15, rfl, q_5⟩, hq6, hI9, hF6⟩ := hp6
          subst sz6
          replace hs6 : st6 = [.long v_15] := hs6
          subst st6
          replace q_5 : np 4 v_15 := q_5
          replace hI9 : Im G x (rd, nw, cr, tp, tt, sI, sT, pt, ql, fl, pe, le, nx, il, qu, kn, ec, nu, va, st, ep, ti, ad, ob, ra, rt, ex, sa, us, tk, th, me, dr, se, sn) Φ9 := hI9
          refine z_lstore (lv' := [(5, .long v_15), (3, .long v_13), (1, .long v_12), (0, .ref x)]) B dX12_accept_103 (Nat.le_of_ble_eq_true rfl) rfl ?_
          refine z_aload_n B dX12_accept_105 rfl 3 rfl ?_
          refine z_lload_n B dX12_accept_106 rfl 1 rfl ?_
          refine z_lload_n B dX12_accept_107 rfl 2 rfl ?_
          refine z_lload B dX12_accept_108 0 rfl ?_
          refine z_ldc2 (v := 2147483647) B (by decide +kernel) dX12_accept_110 ?_
          refine z_lcmp B dX12_accept_113 ?_
          refine z_fi (fun v_16 => ?_)
          refine z_if_le (tgt := 121) B dX12_accept_114 rfl (fun c_5 => ?_) (fun c_5 => ?_)
          · refine z_lload B dX12_accept_121 0 rfl ?_
            have h_19 : Φ9 x = some (o_ 14 [.int th, .ref (x + 1), .ref (x + 2), .int ti, .int ra, .int (nI rt), .int ex, .int ad, .ref (x + 3), .ref (x + 4), .int me, .long se, .ref (x + 5), .int (nI fl), .int dr, .long ob, .long sa, .long sn, .long us, .ref (x + 6), .ref (x + 7), .int (nI pe), .ref (x + 8), .int (nI le), .ref (x + 9), .ref (x + 10), .int (nI qu), .ref (x + 11), .ref (x + 12), .ref (x + 13), .ref (x + 14), .ref (x + 15), .ref (x + 16), .int (nI n_1), .long v_1, .ref (x + 17), .ref (x + 18), .ref (x + 19), .ref (x + 20), .ref (x + 21), .ref (x + 22), .int (nI n_2), .ref (x + 23), .ref (x + 24), .int (nI tk), .ref (x + 25), .int (nI il), .int (nI nx), .int ec, .int ep, .int kn, .int (nI st), .int nu, .long va]) := ((hF6 x (fun j9 h8 h7 => (show False from h7).elim)).trans h_18)
            refine z_callV (As := [.long v_13, .long v_12, .long v_15]) (rest := []) B (r_account G l Φ9 sz x rd nw cr tp tt sI sT pt ql fl pe le nx il qu kn ec nu va st ep ti ad ob ra rt ex sa us tk th me dr se sn v_13 v_12 v_15 hx hI9 hnw) (cwV 3 B.1.2.2.2.2 gX12_accept_X12_account rfl rfl rfl (by decide +kernel) ⟨Nat.le_of_ble_eq_true rfl, Nat.le_of_ble_eq_true rfl⟩) h_19 rfl rfl rfl rfl (Nat.le_of_ble_eq_true rfl) dX12_accept_123 ⟨Nat.le_of_ble_eq_true rfl, Nat.le_of_ble_eq_true rfl⟩ (fun r_10 Φ10 sz7 st7 hp7 hs7 => ?_)
            obtain ⟨rfl, hq7, hI10, hF7⟩ := hp7
            subst sz7
            replace hs7 : st7 = [] := hs7
            subst st7
            replace hI10 : Im G x (rd, nw, cr, tp, tt, sI, sT, pt, ql, fl, pe, le, nx, il, qu, kn, ec, nu, va, st, ep, ti, ad, ob, ra, rt, ex, sa, us, tk, th, me, dr, se, sn) Φ10 := hI10
            refine z_aload_n B dX12_accept_126 rfl 3 rfl ?_
            obtain ⟨n_3, v_17, n_4, h_20, b_27, b_15, b_16, b_17, b_18, b_19, b_20, b_21, b_22, b_23, b_24, b_25, b_26⟩ := im0 hI10
            replace b_15 : 1 ≤ rt := b_15
            replace b_16 : rt ≤ 1024 := b_16
            replace b_17 : fl ≤ 12 := b_17
            replace b_18 : pe ≤ 24 := b_18
            replace b_19 : le ≤ 700 := b_19
            replace b_20 : qu ≤ 12 := b_20
            replace b_21 : n_3 ≤ 8 := b_21
            replace b_22 : n_4 ≤ 24 := b_22
            replace b_23 : tk ≤ 24 := b_23
            replace b_24 : il ≤ 700 := b_24
            replace b_25 : nx ≤ 701 := b_25
            replace b_26 : st ≤ 701 := b_26
            have h_21 : Φ10 x = some (o_ 14 [.int th, .ref (x + 1), .ref (x + 2), .int ti, .int ra, .int (nI rt), .int ex, .int ad, .ref (x + 3), .ref (x + 4), .int me, .long se, .ref (x + 5), .int (nI fl), .int dr, .long ob, .long sa, .long sn, .long us, .ref (x + 6), .ref (x + 7), .int (nI pe), .ref (x + 8), .int (nI le), .ref (x + 9), .ref (x + 10), .int (nI qu), .ref (x + 11), .ref (x + 12), .ref (x + 13), .ref (x + 14), .ref (x + 15), .ref (x + 16), .int (nI n_3), .long v_17, .ref (x + 17), .ref (x + 18), .ref (x + 19), .ref (x + 20), .ref (x + 21), .ref (x + 22), .int (nI n_4), .ref (x + 23), .ref (x + 24), .int (nI tk), .ref (x + 25), .int (nI il), .int (nI nx), .int ec, .int ep, .int kn, .int (nI st), .int nu, .long va]) := h_20
            refine zd_callV (As := []) (rest := []) B (r_readSets G l Φ10 sz x rd nw cr tp tt sI sT pt ql fl pe le nx il qu kn ec nu va st ep ti ad ob ra rt ex sa us tk th me dr se sn  hx hI10 (show 16 ≤ le by omega) hnw) (cwV 0 B.1.2.2.2.2 gX12_accept_X12_readSets rfl rfl rfl (by decide +kernel) ⟨Nat.le_of_ble_eq_true rfl, Nat.le_of_ble_eq_true rfl⟩) h_21 rfl rfl rfl rfl (Nat.le_of_ble_eq_true rfl) dX12_accept_127 ⟨Nat.le_of_ble_eq_true rfl, Nat.le_of_ble_eq_true rfl⟩ (fun d_1 hdr1 r_11 Φ11 sz8 st8 hp8 hs8 => ?_)
            have hdr2 := Drawn.sameBut.trans hd9 hdr1
            have B : Bd p9 (s9.setDrawn d_1) m9 _ t9 k9 G _ _ _ _ _ _ := Bd.drawn B d_1
            show Z p9 l e9 _ (s9.setDrawn d_1) m9 _ w9 t9 k9 _ G _ _ _ _ _ _ _ _
            obtain ⟨⟨v_18, rfl⟩, hq8, hI11, hF8⟩ := hp8
            subst sz8
            replace hs8 : st8 = [.int v_18] := hs8
            subst st8
            replace hI11 : Im G x (rd, nw, cr, tp, tt, sI, sT, pt, ql, fl, pe, le, nx, il, qu, kn, ec, nu, va, st, ep, ti, ad, ob, ra, rt, ex, sa, us, tk, th, me, dr, se, sn) Φ11 := hI11
            exact zd_end hdr2 (z_ret_i B dX12_accept_130 ⟨⟨_, rfl⟩, rfl, hI11, (fun b9 h9 => ((hF8 b9 (fun j9 h8 h7 => h9 j9 h8 (fq_1309 j9 h7))).trans ((hF7 b9 (fun j9 h8 h7 => h9 j9 h8 (fq_1308 j9 h7))).trans ((hF6 b9 (fun j9 h8 h7 => (show False from h7).elim)).trans ((hF5 b9 (fun j9 h8 h7 => (show False from h7).elim)).trans ((hF4 b9 (fun j9 h8 h7 => (show False from h7).elim)).trans ((hF3 b9 (fun j9 h8 h7 => (show False from h7).elim)).trans ((hF2 b9 (fun j9 h8 h7 => (show False from h7).elim)).trans ((hF1 b9 (fun j9 h8 h7 => (show False from h7).elim)).trans ((fset_fr hΦ1 (fun h8 => h9 (11) h8 (show 11 = 0 ∨ 11 = 11 ∨ 11 = 12 ∨ 11 = 13 ∨ 11 = 14 ∨ 11 = 15 ∨ 11 = 16 ∨ 11 = 17 ∨ 11 = 18 ∨ 11 = 19 ∨ 11 = 20 ∨ 11 = 21 ∨ 11 = 22 by decide))).trans rfl))))))))))⟩)
          · obtain ⟨n_5, e_4, e_3, rfl⟩ := nI_ofp c_5
            refine z_lconst (v := 0) B dX12_accept_117 rfl ?_
            refine z_goto (tgt := 123) B dX12_accept_118 rfl ?_
            have h_22 : Φ9 x = some (o_ 14 [.int th, .ref (x + 1), .ref (x + 2), .int ti, .int ra, .int (nI rt), .int ex, .int ad, .ref (x + 3), .ref (x + 4), .int me, .long se, .ref (x + 5), .int (nI fl), .int dr, .long ob, .long sa, .long sn, .long us, .ref (x + 6), .ref (x + 7), .int (nI pe), .ref (x + 8), .int (nI le), .ref (x + 9), .ref (x + 10), .int (nI qu), .ref (x + 11), .ref (x + 12), .ref (x + 13), .ref (x + 14), .ref (x + 15), .ref (x + 16), .int (nI n_1), .long v_1, .ref (x + 17), .ref (x + 18), .ref (x + 19), .ref (x + 20), .ref (x + 21), .ref (x + 22), .int (nI n_2), .ref (x + 23), .ref (x + 24), .int (nI tk), .ref (x + 25), .int (nI il), .int (nI nx), .int ec, .int ep, .int kn, .int (nI st), .int nu, .long va]) := ((hF6 x (fun j9 h8 h7 => (show False from h7).elim)).trans h_18)
            refine z_callV (As := [.long v_13, .long v_12, .long 0]) (rest := []) B (r_account G l Φ9 sz x rd nw cr tp tt sI sT pt ql fl pe le nx il qu kn ec nu va st ep ti ad ob ra rt ex sa us tk th me dr se sn v_13 v_12 0 hx hI9 hnw) (cwV 3 B.1.2.2.2.2 gX12_accept_X12_account rfl rfl rfl (by decide +kernel) ⟨Nat.le_of_ble_eq_true rfl, Nat.le_of_ble_eq_true rfl⟩) h_22 rfl rfl rfl rfl (Nat.le_of_ble_eq_true rfl) dX12_accept_123 ⟨Nat.le_of_ble_eq_true rfl, Nat.le_of_ble_eq_true rfl⟩ (fun r_12 Φ12 sz9 st9 hp9 hs9 => ?_)
            obtain ⟨rfl, hq9, hI12, hF9⟩ := hp9
            subst sz9
            replace hs9 : st9 = [] := hs9
            subst st9
            replace hI12 : Im G x (rd, nw, cr, tp, tt, sI, sT, pt, ql, fl, pe, le, nx, il, qu, kn, ec, nu, va, st, ep, ti, ad, ob, ra, rt, ex, sa, us, tk, th, me, dr, se, sn) Φ12 := hI12
            refine z_aload_n B dX12_accept_126 rfl 3 rfl ?_
            obtain ⟨n_6, v_19, n_7, h_23, b_40, b_28, b_29, b_30, b_31, b_32, b_33, b_34, b_35, b_36, b_37, b_38, b_39⟩ := im0 hI12
            replace b_28 : 1 ≤ rt := b_28
            replace b_29 : rt ≤ 1024 := b_29
            replace b_30 : fl ≤ 12 := b_30
            replace b_31 : pe ≤ 24 := b_31
            replace b_32 : le ≤ 700 := b_32
            replace b_33 : qu ≤ 12 := b_33
            replace b_34 : n_6 ≤ 8 := b_34
            replace b_35 : n_7 ≤ 24 := b_35
            replace b_36 : tk ≤ 24 := b_36
            replace b_37 : il ≤ 700 := b_37
            replace b_38 : nx ≤ 701 := b_38
            replace b_39 : st ≤ 701 := b_39
            have h_24 : Φ12 x = some (o_ 14 [.int th, .ref (x + 1), .ref (x + 2), .int ti, .int ra, .int (nI rt), .int ex, .int ad, .ref (x + 3), .ref (x + 4), .int me, .long se, .ref (x + 5), .int (nI fl), .int dr, .long ob, .long sa, .long sn, .long us, .ref (x + 6), .ref (x + 7), .int (nI pe), .ref (x + 8), .int (nI le), .ref (x + 9), .ref (x + 10), .int (nI qu), .ref (x + 11), .ref (x + 12), .ref (x + 13), .ref (x + 14), .ref (x + 15), .ref (x + 16), .int (nI n_6), .long v_19, .ref (x + 17), .ref (x + 18), .ref (x + 19), .ref (x + 20), .ref (x + 21), .ref (x + 22), .int (nI n_7), .ref (x + 23), .ref (x + 24), .int (nI tk), .ref (x + 25), .int (nI il), .int (nI nx), .int ec, .int ep, .int kn, .int (nI st), .int nu, .long va]) := h_23
            refine zd_callV (As := []) (rest := []) B (r_readSets G l Φ12 sz x rd nw cr tp tt sI sT pt ql fl pe le nx il qu kn ec nu va st ep ti ad ob ra rt ex sa us tk th me dr se sn  hx hI12 (show 16 ≤ le by omega) hnw) (cwV 0 B.1.2.2.2.2 gX12_accept_X12_readSets rfl rfl rfl (by decide +kernel) ⟨Nat.le_of_ble_eq_true rfl, Nat.le_of_ble_eq_true rfl⟩) h_24 rfl rfl rfl rfl (Nat.le_of_ble_eq_true rfl) dX12_accept_127 ⟨Nat.le_of_ble_eq_true rfl, Nat.le_of_ble_eq_true rfl⟩ (fun d_2 hdr3 r_13 Φ13 sz10 st10 hp10 hs10 => ?_)
            have hdr4 := Drawn.sameBut.trans hd9 hdr3
            have B : Bd p9 (s9.setDrawn d_2) m9 _ t9 k9 G _ _ _ _ _ _ := Bd.drawn B d_2
            show Z p9 l e9 _ (s9.setDrawn d_2) m9 _ w9 t9 k9 _ G _ _ _ _ _ _ _ _
            obtain ⟨⟨v_20, rfl⟩, hq10, hI13, hF10⟩ := hp10
            subst sz10
            replace hs10 : st10 = [.int v_20] := hs10
            subst st10
            replace hI13 : Im G x (rd, nw, cr, tp, tt, sI, sT, pt, ql, fl, pe, le, nx, il, qu, kn, ec, nu, va, st, ep, ti, ad, ob, ra, rt, ex, sa, us, tk, th, me, dr, se, sn) Φ13 := hI13
            exact zd_end hdr4 (z_ret_i B dX12_accept_130 ⟨⟨_, rfl⟩, rfl, hI13, (fun b9 h9 => ((hF10 b9 (fun j9 h8 h7 => h9 j9 h8 (fq_1309 j9 h7))).trans ((hF9 b9 (fun j9 h8 h7 => h9 j9 h8 (fq_1308 j9 h7))).trans ((hF6 b9 (fun j9 h8 h7 => (show False from h7).elim)).trans ((hF5 b9 (fun j9 h8 h7 => (show False from h7).elim)).trans ((hF4 b9 (fun j9 h8 h7 => (show False from h7).elim)).trans ((hF3 b9 (fun j9 h8 h7 => (show False from h7).elim)).trans ((hF2 b9 (fun j9 h8 h7 => (show False from h7).elim)).trans ((hF1 b9 (fun j9 h8 h7 => (show False from h7).elim)).trans ((fset_fr hΦ1 (fun h8 => h9 (11) h8 (show 11 = 0 ∨ 11 = 11 ∨ 11 = 12 ∨ 11 = 13 ∨ 11 = 14 ∨ 11 = 15 ∨ 11 = 16 ∨ 11 = 17 ∨ 11 = 18 ∨ 11 = 19 ∨ 11 = 20 ∨ 11 = 21 ∨ 11 = 22 by decide))).trans rfl))))))))))⟩)
        · refine z_aload_n B dX12_accept_84 rfl 2 rfl ?_
          have h_25 : Φ8 x = some (o_ 14 [.int th, .ref (x + 1), .ref (x + 2), .int ti, .int ra, .int (nI rt), .int ex, .int ad, .ref (x + 3), .ref (x + 4), .int me, .long se, .ref (x + 5), .int (nI fl), .int dr, .long ob, .long sa, .long sn, .long us, .ref (x + 6), .ref (x + 7), .int (nI pe), .ref (x + 8), .int (nI le), .ref (x + 9), .ref (x + 10), .int (nI qu), .ref (x + 11), .ref (x + 12), .ref (x + 13), .ref (x + 14), .ref (x + 15), .ref (x + 16), .int (nI n_1), .long v_1, .ref (x + 17), .ref (x + 18), .ref (x + 19), .ref (x + 20), .ref (x + 21), .ref (x + 22), .int (nI n_2), .ref (x + 23), .ref (x + 24), .int (nI tk), .ref (x + 25), .int (nI il), .int (nI nx), .int ec, .int ep, .int kn, .int (nI st), .int nu, .long va]) := ((hF5 x (fun j9 h8 h7 => (show False from h7).elim)).trans h_17)
          refine z_get (ref := "FlowExporterModel") (C := RX12) (T := TX12) (N := 54) (ci := 14) (v := .ref (x + 11)) B hu_X12_accept_X12 rfl 27 (Nat.le_of_ble_eq_true rfl) hv_X12_accept_45 rfl h_25 rfl dX12_accept_85 ?_
          refine z_iconst (v := 2) B dX12_accept_88 rfl ?_
          refine z_dup2_11 B dX12_accept_89 rfl rfl ?_
          obtain ⟨f_4, h_26⟩ := imk (k := 11) hI8
          have h_27 : Φ8 (x + 11) = some (al_ G 9 f_4) := h_26
          refine z_lald B h_27 (vin rfl) dX12_accept_90 ?_
          refine z_fl (fun v_21 => ?_)
          refine z_lconst (v := 1) B dX12_accept_91 rfl ?_
          refine z_ladd B dX12_accept_92 ?_
          refine z_fl (fun v_22 => ?_)
          refine z_last B h_27 (Nat.le_trans hx (Nat.le_add_right x 11)) (vin rfl) dX12_accept_93 (fun Φ14 hΦ4 => ?_)
          have h_28 : Φ14 (x + 11) = some (al_ G 9 (vp_updL f_4 (2 : Int32).toNatClampNeg v_22)) := fset_at hΦ4
          have hI14 : Im G x (rd, nw, cr, tp, tt, sI, sT, pt, ql, fl, pe, le, nx, il, qu, kn, ec, nu, va, st, ep, ti, ad, ob, ra, rt, ex, sa, us, tk, th, me, dr, se, sn) Φ14 := Im.put (k := 11) hI8 hΦ4 ⟨_, rfl⟩
          refine z_iconst (v := 0) B dX12_accept_94 rfl ?_
          exact zd_end hd9 (z_ret_i B dX12_accept_95 ⟨⟨_, rfl⟩, rfl, hI14, (fun b9 h9 => ((fset_fr hΦ4 (fun h8 => h9 (11) h8 (show 11 = 0 ∨ 11 = 11 ∨ 11 = 12 ∨ 11 = 13 ∨ 11 = 14 ∨ 11 = 15 ∨ 11 = 16 ∨ 11 = 17 ∨ 11 = 18 ∨ 11 = 19 ∨ 11 = 20 ∨ 11 = 21 ∨ 11 = 22 by decide))).trans ((hF5 b9 (fun j9 h8 h7 => (show False from h7).elim)).trans ((hF4 b9 (fun j9 h8 h7 => (show False from h7).elim)).trans ((hF3 b9 (fun j9 h8 h7 => (show False from h7).elim)).trans ((hF2 b9 (fun j9 h8 h7 => (show False from h7).elim)).trans ((hF1 b9 (fun j9 h8 h7 => (show False from h7).elim)).trans ((fset_fr hΦ1 (fun h8 => h9 (11) h8 (show 11 = 0 ∨ 11 = 11 ∨ 11 = 12 ∨ 11 = 13 ∨ 11 = 14 ∨ 11 = 15 ∨ 11 = 16 ∨ 11 = 17 ∨ 11 = 18 ∨ 11 = 19 ∨ 11 = 20 ∨ 11 = 21 ∨ 11 = 22 by decide))).trans rfl))))))))⟩)
      · refine z_aload_n B dX12_accept_48 rfl 0 rfl ?_
        refine z_get (ref := "FlowExporterModel") (C := RX12) (T := TX12) (N := 54) (ci := 14) (v := .ref (x + 11)) B hu_X12_accept_X12 rfl 27 (Nat.le_of_ble_eq_true rfl) hv_X12_accept_45 rfl h_15 rfl dX12_accept_49 ?_
        refine z_iconst (v := 4) B dX12_accept_52 rfl ?_
        refine z_dup2_11 B dX12_accept_53 rfl rfl ?_
        obtain ⟨f_5, h_29⟩ := imk (k := 11) hI5
        have h_30 : Φ5 (x + 11) = some (al_ G 9 f_5) := h_29
        refine z_lald B h_30 (vin rfl) dX12_accept_54 ?_
        refine z_fl (fun v_23 => ?_)
        refine z_lconst (v := 1) B dX12_accept_55 rfl ?_
        refine z_ladd B dX12_accept_56 ?_
        refine z_fl (fun v_24 => ?_)
        refine z_last B h_30 (Nat.le_trans hx (Nat.le_add_right x 11)) (vin rfl) dX12_accept_57 (fun Φ15 hΦ5 => ?_)
        have h_31 : Φ15 (x + 11) = some (al_ G 9 (vp_updL f_5 (4 : Int32).toNatClampNeg v_24)) := fset_at hΦ5
        have hI15 : Im G x (rd, nw, cr, tp, tt, sI, sT, pt, ql, fl, pe, le, nx, il, qu, kn, ec, nu, va, st, ep, ti, ad, ob, ra, rt, ex, sa, us, tk, th, me, dr, se, sn) Φ15 := Im.put (k := 11) hI5 hΦ5 ⟨_, rfl⟩
        refine z_iconst (v := 0) B dX12_accept_58 rfl ?_
        exact zd_end hd9 (z_ret_i B dX12_accept_59 ⟨⟨_, rfl⟩, rfl, hI15, (fun b9 h9 => ((fset_fr hΦ5 (fun h8 => h9 (11) h8 (show 11 = 0 ∨ 11 = 11 ∨ 11 = 12 ∨ 11 = 13 ∨ 11 = 14 ∨ 11 = 15 ∨ 11 = 16 ∨ 11 = 17 ∨ 11 = 18 ∨ 11 = 19 ∨ 11 = 20 ∨ 11 = 21 ∨ 11 = 22 by decide))).trans ((hF2 b9 (fun j9 h8 h7 => (show False from h7).elim)).trans ((hF1 b9 (fun j9 h8 h7 => (show False from h7).elim)).trans ((fset_fr hΦ1 (fun h8 => h9 (11) h8 (show 11 = 0 ∨ 11 = 11 ∨ 11 = 12 ∨ 11 = 13 ∨ 11 = 14 ∨ 11 = 15 ∨ 11 = 16 ∨ 11 = 17 ∨ 11 = 18 ∨ 11 = 19 ∨ 11 = 20 ∨ 11 = 21 ∨ 11 = 22 by decide))).trans rfl)))))⟩)

theorem hu_X12_receive_X12 : ∀ w ∈ u_ws RX12 TX12 54, w ∈ wsX12_receive := fun _ h => List.mem_cons_of_mem _ (List.mem_append_left _ (List.mem_append_right _ (h)))

theorem hv_X12_receive_1 : Cond.fieldLink RX12 1 "FlowExporterModel" (TX12 0).2.1 (TX12 0).2.2.1 ∈ wsX12_receive := List.mem_cons_of_mem _ (List.mem_append_left _ (List.mem_append_left _ (List.mem_append_left _ (List.mem_of_getElem? (i := 0) rfl))))

theorem hv_X12_receive_441 : Cond.fieldLink RX12 441 "FlowExporterModel" (TX12 46).2.1 (TX12 46).2.2.1 ∈ wsX12_receive := List.mem_cons_of_mem _ (List.mem_append_left _ (List.mem_append_left _ (List.mem_append_left _ (List.mem_of_getElem? (i := 1) rfl))))

theorem hv_X12_receive_280 : Cond.fieldLink RX12 280 "FlowExporterModel" (TX12 23).2.1 (TX12 23).2.2.1 ∈ wsX12_receive := List.mem_cons_of_mem _ (List.mem_append_left _ (List.mem_append_left _ (List.mem_append_left _ (List.mem_of_getElem? (i := 2) rfl))))

theorem fq_1314 : ∀ j9 : Nat, (j9 = 8) → (j9 = 0 ∨ j9 = 8 ∨ j9 = 11 ∨ j9 = 12 ∨ j9 = 13 ∨ j9 = 14 ∨ j9 = 15 ∨ j9 = 16 ∨ j9 = 17 ∨ j9 = 18 ∨ j9 = 19 ∨ j9 = 20 ∨ j9 = 21 ∨ j9 = 22) := by
  intro j9 h
  omega

theorem fq_1315 : ∀ j9 : Nat, (j9 = 0 ∨ j9 = 11 ∨ j9 = 12 ∨ j9 = 13 ∨ j9 = 14 ∨ j9 = 15 ∨ j9 = 16 ∨ j9 = 17 ∨ j9 = 18 ∨ j9 = 19 ∨ j9 = 20 ∨ j9 = 21 ∨ j9 = 22) → (j9 = 0 ∨ j9 = 8 ∨ j9 = 11 ∨ j9 = 12 ∨ j9 = 13 ∨ j9 = 14 ∨ j9 = 15 ∨ j9 = 16 ∨ j9 = 17 ∨ j9 = 18 ∨ j9 = 19 ∨ j9 = 20 ∨ j9 = 21 ∨ j9 = 22) := by
  intro j9 h
  omega

theorem hv_X12_receive_36 : Cond.fieldLink RX12 36 "FlowExporterModel" (TX12 22).2.1 (TX12 22).2.2.1 ∈ wsX12_receive := List.mem_cons_of_mem _ (List.mem_append_left _ (List.mem_append_left _ (List.mem_append_left _ (List.mem_of_getElem? (i := 3) rfl))))

theorem hv_X12_receive_88 : Cond.fieldLink RX12 88 "FlowExporterModel" (TX12 45).2.1 (TX12 45).2.2.1 ∈ wsX12_receive := List.mem_cons_of_mem _ (List.mem_append_left _ (List.mem_append_left _ (List.mem_append_left _ (List.mem_of_getElem? (i := 4) rfl))))

set_option maxHeartbeats 4000000 in
set_option maxRecDepth 100000 in
theorem r_receive (G : EnvG) (l : Launch) (Φ : Hm) (sz x : Nat) (rd : (Nat → Int32) → Prop) (nw : (Nat → Int32) → Prop) (cr : (Nat → Int64) → Prop) (tp : (Nat → Int32) → Prop) (tt : (Nat → Int64) → Prop) (sI : (Nat → Int32) → Prop) (sT : (Nat → Int32) → Prop) (pt : (Nat → Int32) → Prop) (ql : (Nat → Int32) → Prop) (fl : Nat) (pe : Nat) (le : Nat) (nx : Nat) (il : Nat) (qu : Nat) (kn : Int32) (ec : Int32) (nu : Int32) (va : Int64) (st : Nat) (ep : Int32) (ti : Int32) (ad : Int32) (ob : Int64) (ra : Int32) (rt : Nat) (ex : Int32) (sa : Int64) (us : Int64) (tk : Nat) (th : Int32) (me : Int32) (dr : Int32) (se : Int64) (sn : Int64)  (hx : G.2.2.2 ≤ x) (hI : Im G x (rd, nw, cr, tp, tt, sI, sT, pt, ql, fl, pe, le, nx, il, qu, kn, ec, nu, va, st, ep, ti, ad, ob, ra, rt, ex, sa, us, tk, th, me, dr, se, sn) Φ) (hnw : ∀ f9 : Nat → Int32, nw f9 → NN f9) : CtD G l yX12_receive wsX12_receive ({ frames := 7, cells := 0, slots := 0, locals := 186 }) 0 0 [.ref x] Φ sz (fun v Φ1 sz1 => (∃ r9 : Int32, v = some (.int r9)) ∧ sz1 = sz ∧ (∃ (le1 : Nat) (th1 : Int32), Im G x (rd, nw, cr, tp, tt, sI, sT, pt, ql, fl, pe, le1, nx, 0, qu, kn, ec, nu, va, st, ep, ti, ad, ob, ra, rt, ex, sa, us, tk, th1, me, dr, se, sn) Φ1) ∧ Fr x (fun j9 => j9 = 0 ∨ j9 = 8 ∨ j9 = 11 ∨ j9 = 12 ∨ j9 = 13 ∨ j9 = 14 ∨ j9 = 15 ∨ j9 = 16 ∨ j9 = 17 ∨ j9 = 18 ∨ j9 = 19 ∨ j9 = 20 ∨ j9 = 21 ∨ j9 = 22) Φ Φ1) := by
  refine CtD.of (cc := cX12_receive) (maxL := 2) (ret := (some .int)) (by decide) rfl (Nat.le_of_ble_eq_true rfl) ?_
  intro p9 e9 s9 m9 w9 t9 k9 d9 hd9 B
  show Z p9 l e9 _ (s9.setDrawn d9) m9 _ w9 t9 k9 _ G 2 0 [(0, .ref x)] [] Φ sz 0 0
  refine z_aload_n B dX12_receive_0 rfl 0 rfl ?_
  refine z_iconst (v := 0) B dX12_receive_1 rfl ?_
  obtain ⟨n_1, v_1, n_2, h_1, b_13, b_1, b_2, b_3, b_4, b_5, b_6, b_7, b_8, b_9, b_10, b_11, b_12⟩ := im0 hI
  replace b_1 : 1 ≤ rt := b_1
  replace b_2 : rt ≤ 1024 := b_2
  replace b_3 : fl ≤ 12 := b_3
  replace b_4 : pe ≤ 24 := b_4
  replace b_5 : le ≤ 700 := b_5
  replace b_6 : qu ≤ 12 := b_6
  replace b_7 : n_1 ≤ 8 := b_7
  replace b_8 : n_2 ≤ 24 := b_8
  replace b_9 : tk ≤ 24 := b_9
  replace b_10 : il ≤ 700 := b_10
  replace b_11 : nx ≤ 701 := b_11
  replace b_12 : st ≤ 701 := b_12
  have h_2 : Φ x = some (o_ 14 [.int th, .ref (x + 1), .ref (x + 2), .int ti, .int ra, .int (nI rt), .int ex, .int ad, .ref (x + 3), .ref (x + 4), .int me, .long se, .ref (x + 5), .int (nI fl), .int dr, .long ob, .long sa, .long sn, .long us, .ref (x + 6), .ref (x + 7), .int (nI pe), .ref (x + 8), .int (nI le), .ref (x + 9), .ref (x + 10), .int (nI qu), .ref (x + 11), .ref (x + 12), .ref (x + 13), .ref (x + 14), .ref (x + 15), .ref (x + 16), .int (nI n_1), .long v_1, .ref (x + 17), .ref (x + 18), .ref (x + 19), .ref (x + 20), .ref (x + 21), .ref (x + 22), .int (nI n_2), .ref (x + 23), .ref (x + 24), .int (nI tk), .ref (x + 25), .int (nI il), .int (nI nx), .int ec, .int ep, .int kn, .int (nI st), .int nu, .long va]) := h_1
  refine z_put (ref := "FlowExporterModel") (C := RX12) (T := TX12) (N := 54) (ci := 14) (v := .int 0) B hu_X12_receive_X12 tyX12 tyX12_ok nmX12 rfl 0 (Nat.le_of_ble_eq_true rfl) hv_X12_receive_1 rfl (Or.inl rfl) h_2 hx rfl rfl (Nat.le_of_ble_eq_true rfl) dX12_receive_2 (fun Φ1 hΦ1 => ?_)
  have h_3 : Φ1 x = some (o_ 14 [.int 0, .ref (x + 1), .ref (x + 2), .int ti, .int ra, .int (nI rt), .int ex, .int ad, .ref (x + 3), .ref (x + 4), .int me, .long se, .ref (x + 5), .int (nI fl), .int dr, .long ob, .long sa, .long sn, .long us, .ref (x + 6), .ref (x + 7), .int (nI pe), .ref (x + 8), .int (nI le), .ref (x + 9), .ref (x + 10), .int (nI qu), .ref (x + 11), .ref (x + 12), .ref (x + 13), .ref (x + 14), .ref (x + 15), .ref (x + 16), .int (nI n_1), .long v_1, .ref (x + 17), .ref (x + 18), .ref (x + 19), .ref (x + 20), .ref (x + 21), .ref (x + 22), .int (nI n_2), .ref (x + 23), .ref (x + 24), .int (nI tk), .ref (x + 25), .int (nI il), .int (nI nx), .int ec, .int ep, .int kn, .int (nI st), .int nu, .long va]) := fset_at hΦ1
  have hI1 : Im G x (rd, nw, cr, tp, tt, sI, sT, pt, ql, fl, pe, le, nx, il, qu, kn, ec, nu, va, st, ep, ti, ad, ob, ra, rt, ex, sa, us, tk, 0, me, dr, se, sn) Φ1 := Im.put0 hI hΦ1 ⟨n_1, v_1, n_2, rfl, b_13, b_1, b_2, b_3, b_4, b_5, b_6, b_7, b_8, b_9, b_10, b_11, b_12⟩
  refine z_aload_n B dX12_receive_5 rfl 0 rfl ?_
  refine z_aload_n B dX12_receive_6 rfl 0 rfl ?_
  refine z_get (ref := "FlowExporterModel") (C := RX12) (T := TX12) (N := 54) (ci := 14) (v := .int (nI il)) B hu_X12_receive_X12 rfl 46 (Nat.le_of_ble_eq_true rfl) hv_X12_receive_441 rfl h_3 rfl dX12_receive_7 ?_
  refine z_put (ref := "FlowExporterModel") (C := RX12) (T := TX12) (N := 54) (ci := 14) (v := .int (nI il)) B hu_X12_receive_X12 tyX12 tyX12_ok nmX12 rfl 23 (Nat.le_of_ble_eq_true rfl) hv_X12_receive_280 rfl (Or.inl rfl) h_3 hx rfl rfl (Nat.le_of_ble_eq_true rfl) dX12_receive_10 (fun Φ2 hΦ2 => ?_)
  have h_4 : Φ2 x = some (o_ 14 [.int 0, .ref (x + 1), .ref (x + 2), .int ti, .int ra, .int (nI rt), .int ex, .int ad, .ref (x + 3), .ref (x + 4), .int me, .long se, .ref (x + 5), .int (nI fl), .int dr, .long ob, .long sa, .long sn, .long us, .ref (x + 6), .ref (x + 7), .int (nI pe), .ref (x + 8), .int (nI il), .ref (x + 9), .ref (x + 10), .int (nI qu), .ref (x + 11), .ref (x + 12), .ref (x + 13), .ref (x + 14), .ref (x + 15), .ref (x + 16), .int (nI n_1), .long v_1, .ref (x + 17), .ref (x + 18), .ref (x + 19), .ref (x + 20), .ref (x + 21), .ref (x + 22), .int (nI n_2), .ref (x + 23), .ref (x + 24), .int (nI tk), .ref (x + 25), .int (nI il), .int (nI nx), .int ec, .int ep, .int kn, .int (nI st), .int nu, .long va]) := fset_at hΦ2
  have hI2 : Im G x (rd, nw, cr, tp, tt, sI, sT, pt, ql, fl, pe, il, nx, il, qu, kn, ec, nu, va, st, ep, ti, ad, ob, ra, rt, ex, sa, us, tk, 0, me, dr, se, sn) Φ2 := Im.put0 hI1 hΦ2 ⟨n_1, v_1, n_2, rfl, b_13, b_1, b_2, b_3, b_4, b_10, b_6, b_7, b_8, b_9, b_10, b_11, b_12⟩
  refine z_iconst (v := 0) B dX12_receive_13 rfl ?_
  refine z_istore_n (lv' := [(1, .int 0), (0, .ref x)]) B dX12_receive_14 rfl (Nat.le_of_ble_eq_true rfl) rfl ?_
  refine z_lv [0, 1] rfl ?_
  refine z_loopD (s0 := s9) (α := Nat) (fun (a9 : Nat) Φi => Im G x (rd, nw, cr, tp, tt, sI, sT, pt, ql, fl, pe, il, nx, il, qu, kn, ec, nu, va, st, ep, ti, ad, ob, ra, rt, ex, sa, us, tk, 0, me, dr, se, sn) Φi ∧ Fr x (fun j9 => j9 = 8) Φ2 Φi ∧ (a9 ≤ 700) ∧ True) (fun a9 => [(1, .int (nI a9)), (0, .ref x)]) (fun a9 => 700 - a9) ?_ hd9 (0) ⟨hI2, fun _ _ => rfl, (show 0 ≤ 700 by omega), trivial⟩
  intro d_1 hdr1
  have B : Bd p9 (s9.setDrawn d_1) m9 _ t9 k9 G _ _ _ _ _ _ := Bd.drawn B d_1
  rintro i_1 Φl1 ⟨hI3, hF1, b_14, -⟩ ih1
  replace hI3 : Im G x (rd, nw, cr, tp, tt, sI, sT, pt, ql, fl, pe, il, nx, il, qu, kn, ec, nu, va, st, ep, ti, ad, ob, ra, rt, ex, sa, us, tk, 0, me, dr, se, sn) Φl1 := hI3
  replace b_14 : i_1 ≤ 700 := b_14
  show Z p9 l e9 _ (s9.setDrawn d_1) m9 _ w9 t9 k9 _ G 2 15 [(1, .int (nI i_1)), (0, .ref x)] [] Φl1 _ _ _
  refine z_iload_n B dX12_receive_15 rfl 0 rfl ?_
  refine z_aload_n B dX12_receive_16 rfl 1 rfl ?_
  have h_5 : Φl1 x = some (o_ 14 [.int 0, .ref (x + 1), .ref (x + 2), .int ti, .int ra, .int (nI rt), .int ex, .int ad, .ref (x + 3), .ref (x + 4), .int me, .long se, .ref (x + 5), .int (nI fl), .int dr, .long ob, .long sa, .long sn, .long us, .ref (x + 6), .ref (x + 7), .int (nI pe), .ref (x + 8), .int (nI il), .ref (x + 9), .ref (x + 10), .int (nI qu), .ref (x + 11), .ref (x + 12), .ref (x + 13), .ref (x + 14), .ref (x + 15), .ref (x + 16), .int (nI n_1), .long v_1, .ref (x + 17), .ref (x + 18), .ref (x + 19), .ref (x + 20), .ref (x + 21), .ref (x + 22), .int (nI n_2), .ref (x + 23), .ref (x + 24), .int (nI tk), .ref (x + 25), .int (nI il), .int (nI nx), .int ec, .int ep, .int kn, .int (nI st), .int nu, .long va]) := ((hF1 x fq_983).trans h_4)
  refine z_get (ref := "FlowExporterModel") (C := RX12) (T := TX12) (N := 54) (ci := 14) (v := .int (nI il)) B hu_X12_receive_X12 rfl 23 (Nat.le_of_ble_eq_true rfl) hv_X12_receive_280 rfl h_5 rfl dX12_receive_17 ?_
  refine z_icmp_ge (tgt := 45) B dX12_receive_20 rfl (fun c_1 => ?_) (fun c_1 => ?_)
  · have e_1 : il ≤ i_1 := (nI_leI (a := il) (b := i_1) (by omega) (by omega)).mp c_1
    refine z_aload_n B dX12_receive_45 rfl 1 rfl ?_
    refine z_iconst (v := 0) B dX12_receive_46 rfl ?_
    refine z_put (ref := "FlowExporterModel") (C := RX12) (T := TX12) (N := 54) (ci := 14) (v := .int 0) B hu_X12_receive_X12 tyX12 tyX12_ok nmX12 rfl 46 (Nat.le_of_ble_eq_true rfl) hv_X12_receive_441 rfl (Or.inl rfl) h_5 hx rfl rfl (Nat.le_of_ble_eq_true rfl) dX12_receive_47 (fun Φ3 hΦ3 => ?_)
    have h_6 : Φ3 x = some (o_ 14 [.int 0, .ref (x + 1), .ref (x + 2), .int ti, .int ra, .int (nI rt), .int ex, .int ad, .ref (x + 3), .ref (x + 4), .int me, .long se, .ref (x + 5), .int (nI fl), .int dr, .long ob, .long sa, .long sn, .long us, .ref (x + 6), .ref (x + 7), .int (nI pe), .ref (x + 8), .int (nI il), .ref (x + 9), .ref (x + 10), .int (nI qu), .ref (x + 11), .ref (x + 12), .ref (x + 13), .ref (x + 14), .ref (x + 15), .ref (x + 16), .int (nI n_1), .long v_1, .ref (x + 17), .ref (x + 18), .ref (x + 19), .ref (x + 20), .ref (x + 21), .ref (x + 22), .int (nI n_2), .ref (x + 23), .ref (x + 24), .int (nI tk), .ref (x + 25), .int 0, .int (nI nx), .int ec, .int ep, .int kn, .int (nI st), .int nu, .long va]) := fset_at hΦ3
    have hI4 : Im G x (rd, nw, cr, tp, tt, sI, sT, pt, ql, fl, pe, il, nx, 0, qu, kn, ec, nu, va, st, ep, ti, ad, ob, ra, rt, ex, sa, us, tk, 0, me, dr, se, sn) Φ3 := Im.put0 hI3 hΦ3 ⟨n_1, v_1, n_2, rfl, b_13, b_1, b_2, b_3, b_4, b_10, b_6, b_7, b_8, b_9, (show 0 ≤ 700 by omega), b_11, b_12⟩
    refine z_aload_n B dX12_receive_50 rfl 1 rfl ?_
    refine zd_callV (As := []) (rest := []) B (r_accept G l Φ3 sz x rd nw cr tp tt sI sT pt ql fl pe il nx 0 qu kn ec nu va st ep ti ad ob ra rt ex sa us tk 0 me dr se sn  hx hI4 hnw) (cwV 0 B.1.2.2.2.2 gX12_receive_X12_accept rfl rfl rfl (by decide +kernel) ⟨Nat.le_of_ble_eq_true rfl, Nat.le_of_ble_eq_true rfl⟩) h_6 rfl rfl rfl rfl (Nat.le_of_ble_eq_true rfl) dX12_receive_51 ⟨Nat.le_of_ble_eq_true rfl, Nat.le_of_ble_eq_true rfl⟩ (fun d_2 hdr3 r_1 Φ4 sz1 st1 hp1 hs1 => ?_)
    have hdr4 := Drawn.sameBut.trans hdr1 hdr3
    have B : Bd p9 (s9.setDrawn d_2) m9 _ t9 k9 G _ _ _ _ _ _ := Bd.drawn B d_2
    show Z p9 l e9 _ (s9.setDrawn d_2) m9 _ w9 t9 k9 _ G _ _ _ _ _ _ _ _
    obtain ⟨⟨v_2, rfl⟩, hq1, hI5, hF2⟩ := hp1
    subst sz1
    replace hs1 : st1 = [.int v_2] := hs1
    subst st1
    replace hI5 : Im G x (rd, nw, cr, tp, tt, sI, sT, pt, ql, fl, pe, il, nx, 0, qu, kn, ec, nu, va, st, ep, ti, ad, ob, ra, rt, ex, sa, us, tk, 0, me, dr, se, sn) Φ4 := hI5
    exact zd_end hdr4 (z_ret_i B dX12_receive_54 ⟨⟨_, rfl⟩, rfl, ⟨il, 0, hI5⟩, (fun b9 h9 => ((hF2 b9 (fun j9 h8 h7 => h9 j9 h8 (fq_1315 j9 h7))).trans ((fset_fr hΦ3 (fun h8 => h9 (0) h8 (show 0 = 0 ∨ 0 = 8 ∨ 0 = 11 ∨ 0 = 12 ∨ 0 = 13 ∨ 0 = 14 ∨ 0 = 15 ∨ 0 = 16 ∨ 0 = 17 ∨ 0 = 18 ∨ 0 = 19 ∨ 0 = 20 ∨ 0 = 21 ∨ 0 = 22 by decide))).trans ((hF1 b9 (fun j9 h8 h7 => h9 j9 h8 (fq_1314 j9 h7))).trans ((fset_fr hΦ2 (fun h8 => h9 (0) h8 (show 0 = 0 ∨ 0 = 8 ∨ 0 = 11 ∨ 0 = 12 ∨ 0 = 13 ∨ 0 = 14 ∨ 0 = 15 ∨ 0 = 16 ∨ 0 = 17 ∨ 0 = 18 ∨ 0 = 19 ∨ 0 = 20 ∨ 0 = 21 ∨ 0 = 22 by decide))).trans ((fset_fr hΦ1 (fun h8 => h9 (0) h8 (show 0 = 0 ∨ 0 = 8 ∨ 0 = 11 ∨ 0 = 12 ∨ 0 = 13 ∨ 0 = 14 ∨ 0 = 15 ∨ 0 = 16 ∨ 0 = 17 ∨ 0 = 18 ∨ 0 = 19 ∨ 0 = 20 ∨ 0 = 21 ∨ 0 = 22 by decide))).trans rfl))))))⟩)
  · have e_2 : ¬ (il ≤ i_1) := fun h9 => c_1 ((nI_leI (a := il) (b := i_1) (by omega) (by omega)).mpr h9)
    refine z_aload_n B dX12_receive_23 rfl 1 rfl ?_
    refine z_get (ref := "FlowExporterModel") (C := RX12) (T := TX12) (N := 54) (ci := 14) (v := .ref (x + 8)) B hu_X12_receive_X12 rfl 22 (Nat.le_of_ble_eq_true rfl) hv_X12_receive_36 rfl h_5 rfl dX12_receive_24 ?_
    refine z_iload_n B dX12_receive_27 rfl 0 rfl ?_
    refine z_aload_n B dX12_receive_28 rfl 1 rfl ?_
    refine z_get (ref := "FlowExporterModel") (C := RX12) (T := TX12) (N := 54) (ci := 14) (v := .ref (x + 25)) B hu_X12_receive_X12 rfl 45 (Nat.le_of_ble_eq_true rfl) hv_X12_receive_88 rfl h_5 rfl dX12_receive_29 ?_
    refine z_iload_n B dX12_receive_32 rfl 0 rfl ?_
    obtain ⟨f_1, h_7, r_2⟩ := imk (k := 25) hI3
    have h_8 : Φl1 (x + 25) = some (ab_ G 700 f_1) := h_7
    refine z_bald B h_8 (vp_in_nI (by omega) (by omega)) dX12_receive_33 ?_
    refine z_fi (fun v_3 => ?_)
    refine z_sipush (v := 255) B dX12_receive_34 rfl ?_
    refine z_iand B dX12_receive_37 ?_
    obtain ⟨n_3, b_15, e_3⟩ := and255 v_3
    refine z_top (st1 := [.int (nI n_3), .int (nI i_1), .ref (x + 8)]) (congrArg (fun w9 : Int32 => ([.int w9, .int (nI i_1), .ref (x + 8)] : List Value)) (e_3)) ?_
    obtain ⟨f_2, h_9, r_3⟩ := imk (k := 8) hI3
    replace r_3 : Rw 255 f_2 := r_3
    have h_10 : Φl1 (x + 8) = some (ai_ G 700 f_2) := h_9
    refine z_iast B h_10 (Nat.le_trans hx (Nat.le_add_right x 8)) (vp_in_nI (by omega) (by omega)) dX12_receive_38 (fun Φ5 hΦ4 => ?_)
    have h_11 : Φ5 (x + 8) = some (ai_ G 700 (upd f_2 (nI i_1).toNatClampNeg (nI n_3))) := fset_at hΦ4
    have hI6 : Im G x (rd, nw, cr, tp, tt, sI, sT, pt, ql, fl, pe, il, nx, il, qu, kn, ec, nu, va, st, ep, ti, ad, ob, ra, rt, ex, sa, us, tk, 0, me, dr, se, sn) Φ5 := Im.put (k := 8) hI3 hΦ4 ⟨_, rfl, Rw.up (n := n_3) r_3 (show n_3 ≤ 255 by omega)⟩
    refine z_iinc (k := 0) (v := nI (i_1 + 1)) (lv' := [(1, .int (nI (i_1 + 1))), (0, .ref x)]) B dX12_receive_39 rfl (nI_add i_1 1) (Nat.le_of_ble_eq_true rfl) rfl ?_
    refine z_goto (tgt := 15) B dX12_receive_42 rfl ?_
    refine z_lv [0, 1] rfl ?_
    exact ih1 d_1 hdr1 (i_1 + 1) Φ5 (show 700 - (i_1 + 1) < 700 - i_1 by omega) ⟨hI6, (fun b9 h9 => ((fset_fr hΦ4 (fun h8 => h9 (8) h8 (show 8 = 8 by decide))).trans ((hF1 b9 h9).trans rfl))), (show (i_1 + 1) ≤ 700 by omega), trivial⟩

theorem hu_X12_deliver_X12 : ∀ w ∈ u_ws RX12 TX12 54, w ∈ wsX12_deliver := fun _ h => List.mem_cons_of_mem _ (List.mem_append_left _ (List.mem_append_right _ (h)))

theorem hv_X12_deliver_1 : Cond.fieldLink RX12 1 "FlowExporterModel" (TX12 0).2.1 (TX12 0).2.2.1 ∈ wsX12_deliver := List.mem_cons_of_mem _ (List.mem_append_left _ (List.mem_append_left _ (List.mem_append_left _ (List.mem_of_getElem? (i := 0) rfl))))

theorem fq_1320 : ∀ j9 : Nat, (j9 = 0) → (j9 = 0 ∨ j9 = 8 ∨ j9 = 9 ∨ j9 = 10 ∨ j9 = 11 ∨ j9 = 12 ∨ j9 = 13 ∨ j9 = 14 ∨ j9 = 15 ∨ j9 = 16 ∨ j9 = 17 ∨ j9 = 18 ∨ j9 = 19 ∨ j9 = 20 ∨ j9 = 21 ∨ j9 = 22) := by
  intro j9 h
  omega

theorem hv_X12_deliver_42 : Cond.fieldLink RX12 42 "FlowExporterModel" (TX12 25).2.1 (TX12 25).2.2.1 ∈ wsX12_deliver := List.mem_cons_of_mem _ (List.mem_append_left _ (List.mem_append_left _ (List.mem_append_left _ (List.mem_of_getElem? (i := 1) rfl))))

theorem hv_X12_deliver_280 : Cond.fieldLink RX12 280 "FlowExporterModel" (TX12 23).2.1 (TX12 23).2.2.1 ∈ wsX12_deliver := List.mem_cons_of_mem _ (List.mem_append_left _ (List.mem_append_left _ (List.mem_append_left _ (List.mem_of_getElem? (i := 4) rfl))))

theorem fq_1323 : ∀ j9 : Nat, (j9 = 8) → (j9 = 0 ∨ j9 = 8 ∨ j9 = 9 ∨ j9 = 10 ∨ j9 = 11 ∨ j9 = 12 ∨ j9 = 13 ∨ j9 = 14 ∨ j9 = 15 ∨ j9 = 16 ∨ j9 = 17 ∨ j9 = 18 ∨ j9 = 19 ∨ j9 = 20 ∨ j9 = 21 ∨ j9 = 22) := by
  intro j9 h
  omega

theorem fq_1324 : ∀ j9 : Nat, (j9 = 0 ∨ j9 = 9 ∨ j9 = 10) → (j9 = 0 ∨ j9 = 8 ∨ j9 = 9 ∨ j9 = 10 ∨ j9 = 11 ∨ j9 = 12 ∨ j9 = 13 ∨ j9 = 14 ∨ j9 = 15 ∨ j9 = 16 ∨ j9 = 17 ∨ j9 = 18 ∨ j9 = 19 ∨ j9 = 20 ∨ j9 = 21 ∨ j9 = 22) := by
  intro j9 h
  omega

theorem fq_1325 : ∀ j9 : Nat, (j9 = 0 ∨ j9 = 11 ∨ j9 = 12 ∨ j9 = 13 ∨ j9 = 14 ∨ j9 = 15 ∨ j9 = 16 ∨ j9 = 17 ∨ j9 = 18 ∨ j9 = 19 ∨ j9 = 20 ∨ j9 = 21 ∨ j9 = 22) → (j9 = 0 ∨ j9 = 8 ∨ j9 = 9 ∨ j9 = 10 ∨ j9 = 11 ∨ j9 = 12 ∨ j9 = 13 ∨ j9 = 14 ∨ j9 = 15 ∨ j9 = 16 ∨ j9 = 17 ∨ j9 = 18 ∨ j9 = 19 ∨ j9 = 20 ∨ j9 = 21 ∨ j9 = 22) := by
  intro j9 h
  omega

theorem hv_X12_deliver_36 : Cond.fieldLink RX12 36 "FlowExporterModel" (TX12 22).2.1 (TX12 22).2.2.1 ∈ wsX12_deliver := List.mem_cons_of_mem _ (List.mem_append_left _ (List.mem_append_left _ (List.mem_append_left _ (List.mem_of_getElem? (i := 2) rfl))))

theorem hv_X12_deliver_39 : Cond.fieldLink RX12 39 "FlowExporterModel" (TX12 24).2.1 (TX12 24).2.2.1 ∈ wsX12_deliver := List.mem_cons_of_mem _ (List.mem_append_left _ (List.mem_append_left _ (List.mem_append_left _ (List.mem_of_getElem? (i := 3) rfl))))

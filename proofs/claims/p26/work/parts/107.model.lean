set_option maxRecDepth 20000 in
theorem ggX12_areFields_X12_get : GoodIn wsX12_areFields wsX12_get := goodIn_ca ((goodIn_ca (goodIn_r _ [7, 8] rfl (by decide +kernel)) (goodIn_sub (fun _ h => List.mem_cons_of_mem _ (List.mem_append_left _ (List.mem_append_right _ h))) gw_wsX120))) (goodIn_sub (fun _ h => List.mem_cons_of_mem _ (List.mem_append_right _ h)) (all_fg _))
set_option maxRecDepth 20000 in
theorem gX12_areFields_X12_get : GoodIn wsX12_areFields (wsV RX12 339 RX12 yX12_get wsX12_get) := goodIn_app (goodIn_m (mem_cA (List.mem_cons_of_mem _ (List.mem_append_left _ (List.mem_append_left _ (List.mem_of_getElem? (i := 2) rfl)))) (mem_cA (List.mem_cons_of_mem _ (List.mem_append_left _ (List.mem_append_left _ (List.mem_of_getElem? (i := 3) rfl)))) (mem_cA (List.mem_cons_of_mem _ (List.mem_append_left _ (List.mem_append_left _ (List.mem_of_getElem? (i := 4) rfl)))) (mem_cA (List.mem_cons_of_mem _ (List.mem_append_left _ (List.mem_append_left _ (List.mem_of_getElem? (i := 5) rfl)))) mem_cZ)))) (by decide +kernel)) ggX12_areFields_X12_get
set_option maxRecDepth 20000 in
theorem ggX12_areFields_X12_inRange : GoodIn wsX12_areFields wsX12_inRange := (goodIn_r _ [11] rfl (by decide +kernel))
set_option maxRecDepth 20000 in
theorem gX12_areFields_X12_inRange : GoodIn wsX12_areFields (va_wsS RX12 169 yX12_inRange wsX12_inRange) := goodIn_app (goodIn_m (mem_cA (List.mem_cons_of_mem _ (List.mem_append_left _ (List.mem_append_left _ (List.mem_of_getElem? (i := 8) rfl)))) (mem_cA (List.mem_cons_of_mem _ (List.mem_append_left _ (List.mem_append_left _ (List.mem_of_getElem? (i := 9) rfl)))) (mem_cA (List.mem_cons_of_mem _ (List.mem_append_left _ (List.mem_append_left _ (List.mem_of_getElem? (i := 5) rfl)))) mem_cZ))) (by decide +kernel)) ggX12_areFields_X12_inRange
set_option maxRecDepth 20000 in
theorem ggX12_areFields_X12_lengthOf : GoodIn wsX12_areFields wsX12_lengthOf := (goodIn_r _ [14] rfl (by decide +kernel))
set_option maxRecDepth 20000 in
theorem gX12_areFields_X12_lengthOf : GoodIn wsX12_areFields (va_wsS RX12 195 yX12_lengthOf wsX12_lengthOf) := goodIn_app (goodIn_m (mem_cA (List.mem_cons_of_mem _ (List.mem_append_left _ (List.mem_append_left _ (List.mem_of_getElem? (i := 11) rfl)))) (mem_cA (List.mem_cons_of_mem _ (List.mem_append_left _ (List.mem_append_left _ (List.mem_of_getElem? (i := 12) rfl)))) (mem_cA (List.mem_cons_of_mem _ (List.mem_append_left _ (List.mem_append_left _ (List.mem_of_getElem? (i := 5) rfl)))) mem_cZ))) (by decide +kernel)) ggX12_areFields_X12_lengthOf
theorem dX12_areFields_0 : decode cX12_areFields 0 = .ok (.iconst 0, 1) := by decide +kernel
theorem dX12_areFields_1 : decode cX12_areFields 1 = .ok (.istore_n 3, 1) := by decide +kernel
theorem dX12_areFields_2 : decode cX12_areFields 2 = .ok (.iconst 0, 1) := by decide +kernel
theorem dX12_areFields_3 : decode cX12_areFields 3 = .ok (.istore 4, 2) := by decide +kernel
theorem dX12_areFields_5 : decode cX12_areFields 5 = .ok (.iload 4, 2) := by decide +kernel
theorem dX12_areFields_7 : decode cX12_areFields 7 = .ok (.iload_n 2, 1) := by decide +kernel
theorem dX12_areFields_8 : decode cX12_areFields 8 = .ok (.if_icmp .ge 87, 3) := by decide +kernel
theorem dX12_areFields_11 : decode cX12_areFields 11 = .ok (.aload_n 0, 1) := by decide +kernel
theorem dX12_areFields_12 : decode cX12_areFields 12 = .ok (.iload_n 1, 1) := by decide +kernel
theorem dX12_areFields_13 : decode cX12_areFields 13 = .ok (.iconst 4, 1) := by decide +kernel
theorem dX12_areFields_14 : decode cX12_areFields 14 = .ok (.iload 4, 2) := by decide +kernel
theorem dX12_areFields_16 : decode cX12_areFields 16 = .ok (.imul, 1) := by decide +kernel
theorem dX12_areFields_17 : decode cX12_areFields 17 = .ok (.iadd, 1) := by decide +kernel
theorem dX12_areFields_18 : decode cX12_areFields 18 = .ok (.iconst 2, 1) := by decide +kernel
theorem dX12_areFields_19 : decode cX12_areFields 19 = .ok (.invokevirtual 339, 3) := by decide +kernel
theorem dX12_areFields_22 : decode cX12_areFields 22 = .ok (.l2i, 1) := by decide +kernel
theorem dX12_areFields_23 : decode cX12_areFields 23 = .ok (.istore 5, 2) := by decide +kernel
theorem dX12_areFields_25 : decode cX12_areFields 25 = .ok (.iload 5, 2) := by decide +kernel
theorem dX12_areFields_27 : decode cX12_areFields 27 = .ok (.i2l, 1) := by decide +kernel
theorem dX12_areFields_28 : decode cX12_areFields 28 = .ok (.lconst 0, 1) := by decide +kernel
theorem dX12_areFields_29 : decode cX12_areFields 29 = .ok (.ldc2_w 204, 3) := by decide +kernel
theorem dX12_areFields_32 : decode cX12_areFields 32 = .ok (.invokestatic 169, 3) := by decide +kernel
theorem dX12_areFields_35 : decode cX12_areFields 35 = .ok (.ifCond .eq 36, 3) := by decide +kernel
theorem dX12_areFields_38 : decode cX12_areFields 38 = .ok (.aload_n 0, 1) := by decide +kernel
theorem dX12_areFields_39 : decode cX12_areFields 39 = .ok (.iload_n 1, 1) := by decide +kernel
theorem dX12_areFields_40 : decode cX12_areFields 40 = .ok (.iconst 4, 1) := by decide +kernel
theorem dX12_areFields_41 : decode cX12_areFields 41 = .ok (.iload 4, 2) := by decide +kernel
theorem dX12_areFields_43 : decode cX12_areFields 43 = .ok (.imul, 1) := by decide +kernel
theorem dX12_areFields_44 : decode cX12_areFields 44 = .ok (.iadd, 1) := by decide +kernel
theorem dX12_areFields_45 : decode cX12_areFields 45 = .ok (.iconst 2, 1) := by decide +kernel
theorem dX12_areFields_46 : decode cX12_areFields 46 = .ok (.iadd, 1) := by decide +kernel
theorem dX12_areFields_47 : decode cX12_areFields 47 = .ok (.iconst 2, 1) := by decide +kernel
theorem dX12_areFields_48 : decode cX12_areFields 48 = .ok (.invokevirtual 339, 3) := by decide +kernel
theorem dX12_areFields_51 : decode cX12_areFields 51 = .ok (.iload 5, 2) := by decide +kernel
theorem dX12_areFields_53 : decode cX12_areFields 53 = .ok (.invokestatic 195, 3) := by decide +kernel
theorem dX12_areFields_56 : decode cX12_areFields 56 = .ok (.i2l, 1) := by decide +kernel
theorem dX12_areFields_57 : decode cX12_areFields 57 = .ok (.lcmp, 1) := by decide +kernel
theorem dX12_areFields_58 : decode cX12_areFields 58 = .ok (.ifCond .ne 13, 3) := by decide +kernel
theorem dX12_areFields_61 : decode cX12_areFields 61 = .ok (.iload_n 3, 1) := by decide +kernel
theorem dX12_areFields_62 : decode cX12_areFields 62 = .ok (.iload 5, 2) := by decide +kernel
theorem dX12_areFields_64 : decode cX12_areFields 64 = .ok (.ishr, 1) := by decide +kernel
theorem dX12_areFields_65 : decode cX12_areFields 65 = .ok (.iconst 1, 1) := by decide +kernel
theorem dX12_areFields_66 : decode cX12_areFields 66 = .ok (.iand, 1) := by decide +kernel
theorem dX12_areFields_67 : decode cX12_areFields 67 = .ok (.iconst 1, 1) := by decide +kernel
theorem dX12_areFields_68 : decode cX12_areFields 68 = .ok (.if_icmp .ne 5, 3) := by decide +kernel
theorem dX12_areFields_71 : decode cX12_areFields 71 = .ok (.iconst 0, 1) := by decide +kernel
theorem dX12_areFields_72 : decode cX12_areFields 72 = .ok (.ireturn, 1) := by decide +kernel
theorem dX12_areFields_73 : decode cX12_areFields 73 = .ok (.iload_n 3, 1) := by decide +kernel
theorem dX12_areFields_74 : decode cX12_areFields 74 = .ok (.iconst 1, 1) := by decide +kernel
theorem dX12_areFields_75 : decode cX12_areFields 75 = .ok (.iload 5, 2) := by decide +kernel
theorem dX12_areFields_77 : decode cX12_areFields 77 = .ok (.ishl, 1) := by decide +kernel
theorem dX12_areFields_78 : decode cX12_areFields 78 = .ok (.ior, 1) := by decide +kernel
theorem dX12_areFields_79 : decode cX12_areFields 79 = .ok (.istore_n 3, 1) := by decide +kernel
theorem dX12_areFields_80 : decode cX12_areFields 80 = .ok (.aload_n 0, 1) := by decide +kernel
theorem dX12_areFields_81 : decode cX12_areFields 81 = .ok (.getfield 63, 3) := by decide +kernel
theorem dX12_areFields_84 : decode cX12_areFields 84 = .ok (.iload 4, 2) := by decide +kernel
theorem dX12_areFields_86 : decode cX12_areFields 86 = .ok (.iload 5, 2) := by decide +kernel
theorem dX12_areFields_88 : decode cX12_areFields 88 = .ok (.iastore, 1) := by decide +kernel
theorem dX12_areFields_89 : decode cX12_areFields 89 = .ok (.iinc 4 1, 3) := by decide +kernel
theorem dX12_areFields_92 : decode cX12_areFields 92 = .ok (.goto (-87), 3) := by decide +kernel
theorem dX12_areFields_95 : decode cX12_areFields 95 = .ok (.iconst 1, 1) := by decide +kernel
theorem dX12_areFields_96 : decode cX12_areFields 96 = .ok (.ireturn, 1) := by decide +kernel
set_option maxRecDepth 20000 in
theorem ggX12_load_X12_beginConfiguration : GoodIn wsX12_load wsX12_beginConfiguration := goodIn_ca ((goodIn_ca (goodIn_r _ [11, 12] rfl (by decide +kernel)) (goodIn_sub (fun _ h => List.mem_cons_of_mem _ (List.mem_append_left _ (List.mem_append_right _ h))) gw_wsX120))) (goodIn_sub (fun _ h => List.mem_cons_of_mem _ (List.mem_append_right _ h)) (all_fg _))
set_option maxRecDepth 20000 in
theorem gX12_load_X12_beginConfiguration : GoodIn wsX12_load (wsV RX12 95 RX12 yX12_beginConfiguration wsX12_beginConfiguration) := goodIn_app (goodIn_m (mem_cA (List.mem_cons_of_mem _ (List.mem_append_left _ (List.mem_append_left _ (List.mem_append_left _ (List.mem_of_getElem? (i := 6) rfl))))) (mem_cA (List.mem_cons_of_mem _ (List.mem_append_left _ (List.mem_append_left _ (List.mem_append_left _ (List.mem_of_getElem? (i := 7) rfl))))) (mem_cA (List.mem_cons_of_mem _ (List.mem_append_left _ (List.mem_append_left _ (List.mem_append_left _ (List.mem_of_getElem? (i := 8) rfl))))) (mem_cA (List.mem_cons_of_mem _ (List.mem_append_left _ (List.mem_append_left _ (List.mem_append_left _ (List.mem_of_getElem? (i := 9) rfl))))) mem_cZ)))) (by decide +kernel)) ggX12_load_X12_beginConfiguration
set_option maxRecDepth 20000 in
theorem ggX12_load_X12_advanceToken : GoodIn wsX12_load wsX12_advanceToken := goodIn_ca ((goodIn_ca (goodIn_r _ [16, 4, 17, 18, 5, 19, 20, 21, 22, 23, 24, 25, 10, 26, 6, 27, 28, 29, 30, 31, 32, 33, 34, 35, 36, 37, 38, 39] rfl (by decide +kernel)) (goodIn_sub (fun _ h => List.mem_cons_of_mem _ (List.mem_append_left _ (List.mem_append_right _ h))) gw_wsX120))) (goodIn_sub (fun _ h => List.mem_cons_of_mem _ (List.mem_append_right _ h)) (all_fg _))
set_option maxRecDepth 20000 in
theorem gX12_load_X12_advanceToken : GoodIn wsX12_load (wsV RX12 489 RX12 yX12_advanceToken wsX12_advanceToken) := goodIn_app (goodIn_m (mem_cA (List.mem_cons_of_mem _ (List.mem_append_left _ (List.mem_append_left _ (List.mem_append_left _ (List.mem_of_getElem? (i := 12) rfl))))) (mem_cA (List.mem_cons_of_mem _ (List.mem_append_left _ (List.mem_append_left _ (List.mem_append_left _ (List.mem_of_getElem? (i := 13) rfl))))) (mem_cA (List.mem_cons_of_mem _ (List.mem_append_left _ (List.mem_append_left _ (List.mem_append_left _ (List.mem_of_getElem? (i := 14) rfl))))) (mem_cA (List.mem_cons_of_mem _ (List.mem_append_left _ (List.mem_append_left _ (List.mem_append_left _ (List.mem_of_getElem? (i := 9) rfl))))) mem_cZ)))) (by decide +kernel)) ggX12_load_X12_advanceToken
set_option maxRecDepth 20000 in
theorem ggX12_load_X12_readStatement : GoodIn wsX12_load wsX12_readStatement := goodIn_ca ((goodIn_ca (goodIn_r _ [43, 5, 18, 44, 45, 46, 47, 48, 10, 49, 2, 17, 3, 50, 51, 52, 20, 19, 53, 54, 55, 56, 13, 14, 15, 16, 4, 21, 22, 23, 24, 25, 26, 6, 27, 28, 29, 30, 31, 32, 33, 34, 35, 36, 37, 38, 39, 57, 58, 59, 60, 12, 61, 62, 63, 64, 65, 66, 67, 68, 69, 70, 71, 72, 73, 74, 75, 76, 77, 78, 79, 80, 81, 82, 83, 84, 85, 86] rfl (by decide +kernel)) (goodIn_sub (fun _ h => List.mem_cons_of_mem _ (List.mem_append_left _ (List.mem_append_right _ h))) gw_wsX120))) (goodIn_sub (fun _ h => List.mem_cons_of_mem _ (List.mem_append_right _ h)) (all_fg _))
set_option maxRecDepth 20000 in
theorem gX12_load_X12_readStatement : GoodIn wsX12_load (wsV RX12 527 RX12 yX12_readStatement wsX12_readStatement) := goodIn_app (goodIn_m (mem_cA (List.mem_cons_of_mem _ (List.mem_append_left _ (List.mem_append_left _ (List.mem_append_right _ (List.mem_append_left _ (List.mem_of_getElem? (i := 15) rfl)))))) (mem_cA (List.mem_cons_of_mem _ (List.mem_append_left _ (List.mem_append_left _ (List.mem_append_right _ (List.mem_append_left _ (List.mem_of_getElem? (i := 16) rfl)))))) (mem_cA (List.mem_cons_of_mem _ (List.mem_append_left _ (List.mem_append_left _ (List.mem_append_right _ (List.mem_append_left _ (List.mem_of_getElem? (i := 17) rfl)))))) (mem_cA (List.mem_cons_of_mem _ (List.mem_append_left _ (List.mem_append_left _ (List.mem_append_left _ (List.mem_of_getElem? (i := 9) rfl))))) mem_cZ)))) (by decide +kernel)) ggX12_load_X12_readStatement
set_option maxRecDepth 20000 in
theorem ggX12_load_X12_take : GoodIn wsX12_load wsX12_take := goodIn_ca ((goodIn_ca (goodIn_r _ [90, 12, 91, 92, 93, 94, 95, 96, 97, 98, 99, 100, 101, 102, 103, 104, 105, 106, 107, 108, 109, 110, 111, 10, 112, 113, 114, 115, 116, 117, 118, 119, 120, 121, 122] rfl (by decide +kernel)) (goodIn_sub (fun _ h => List.mem_cons_of_mem _ (List.mem_append_left _ (List.mem_append_right _ h))) gw_wsX120))) (goodIn_sub (fun _ h => List.mem_cons_of_mem _ (List.mem_append_right _ h)) (all_fg _))
set_option maxRecDepth 20000 in
theorem gX12_load_X12_take : GoodIn wsX12_load (wsV RX12 98 RX12 yX12_take wsX12_take) := goodIn_app (goodIn_m (mem_cA (List.mem_cons_of_mem _ (List.mem_append_left _ (List.mem_append_left _ (List.mem_append_right _ (List.mem_append_right _ (List.mem_append_right _ (List.mem_append_left _ (List.mem_of_getElem? (i := 14) rfl)))))))) (mem_cA (List.mem_cons_of_mem _ (List.mem_append_left _ (List.mem_append_left _ (List.mem_append_right _ (List.mem_append_right _ (List.mem_append_right _ (List.mem_append_left _ (List.mem_of_getElem? (i := 15) rfl)))))))) (mem_cA (List.mem_cons_of_mem _ (List.mem_append_left _ (List.mem_append_left _ (List.mem_append_right _ (List.mem_append_right _ (List.mem_append_right _ (List.mem_append_left _ (List.mem_of_getElem? (i := 16) rfl)))))))) (mem_cA (List.mem_cons_of_mem _ (List.mem_append_left _ (List.mem_append_left _ (List.mem_append_left _ (List.mem_of_getElem? (i := 9) rfl))))) mem_cZ)))) (by decide +kernel)) ggX12_load_X12_take
theorem dX12_load_0 : decode cX12_load 0 = .ok (.aload_n 0, 1) := by decide +kernel
theorem dX12_load_1 : decode cX12_load 1 = .ok (.iconst 0, 1) := by decide +kernel
theorem dX12_load_2 : decode cX12_load 2 = .ok (.putfield 1, 3) := by decide +kernel
theorem dX12_load_5 : decode cX12_load 5 = .ok (.aload_n 0, 1) := by decide +kernel
theorem dX12_load_6 : decode cX12_load 6 = .ok (.invokevirtual 95, 3) := by decide +kernel
theorem dX12_load_9 : decode cX12_load 9 = .ok (.aload_n 0, 1) := by decide +kernel
theorem dX12_load_10 : decode cX12_load 10 = .ok (.iconst 0, 1) := by decide +kernel
theorem dX12_load_11 : decode cX12_load 11 = .ok (.putfield 447, 3) := by decide +kernel
theorem dX12_load_14 : decode cX12_load 14 = .ok (.aload_n 0, 1) := by decide +kernel
theorem dX12_load_15 : decode cX12_load 15 = .ok (.iconst (-1), 1) := by decide +kernel
theorem dX12_load_16 : decode cX12_load 16 = .ok (.putfield 92, 3) := by decide +kernel
theorem dX12_load_19 : decode cX12_load 19 = .ok (.aload_n 0, 1) := by decide +kernel
theorem dX12_load_20 : decode cX12_load 20 = .ok (.iconst 0, 1) := by decide +kernel
theorem dX12_load_21 : decode cX12_load 21 = .ok (.putfield 458, 3) := by decide +kernel
theorem dX12_load_24 : decode cX12_load 24 = .ok (.aload_n 0, 1) := by decide +kernel
theorem dX12_load_25 : decode cX12_load 25 = .ok (.invokevirtual 489, 3) := by decide +kernel
theorem dX12_load_28 : decode cX12_load 28 = .ok (.iconst 0, 1) := by decide +kernel
theorem dX12_load_29 : decode cX12_load 29 = .ok (.istore_n 1, 1) := by decide +kernel
theorem dX12_load_30 : decode cX12_load 30 = .ok (.aload_n 0, 1) := by decide +kernel
theorem dX12_load_31 : decode cX12_load 31 = .ok (.getfield 447, 3) := by decide +kernel
theorem dX12_load_34 : decode cX12_load 34 = .ok (.ifCond .ne 23, 3) := by decide +kernel
theorem dX12_load_37 : decode cX12_load 37 = .ok (.aload_n 0, 1) := by decide +kernel
theorem dX12_load_38 : decode cX12_load 38 = .ok (.getfield 476, 3) := by decide +kernel
theorem dX12_load_41 : decode cX12_load 41 = .ok (.ifCond .eq 16, 3) := by decide +kernel
theorem dX12_load_44 : decode cX12_load 44 = .ok (.aload_n 0, 1) := by decide +kernel
theorem dX12_load_45 : decode cX12_load 45 = .ok (.invokevirtual 527, 3) := by decide +kernel
theorem dX12_load_48 : decode cX12_load 48 = .ok (.ifCond .eq (-18), 3) := by decide +kernel
theorem dX12_load_51 : decode cX12_load 51 = .ok (.iinc 1 1, 3) := by decide +kernel
theorem dX12_load_54 : decode cX12_load 54 = .ok (.goto (-24), 3) := by decide +kernel
theorem dX12_load_57 : decode cX12_load 57 = .ok (.aload_n 0, 1) := by decide +kernel
theorem dX12_load_58 : decode cX12_load 58 = .ok (.iconst 0, 1) := by decide +kernel
theorem dX12_load_59 : decode cX12_load 59 = .ok (.putfield 441, 3) := by decide +kernel
theorem dX12_load_62 : decode cX12_load 62 = .ok (.aload_n 0, 1) := by decide +kernel
theorem dX12_load_63 : decode cX12_load 63 = .ok (.getfield 447, 3) := by decide +kernel
theorem dX12_load_66 : decode cX12_load 66 = .ok (.ifCond .eq 6, 3) := by decide +kernel
theorem dX12_load_69 : decode cX12_load 69 = .ok (.bipush (-2), 2) := by decide +kernel
theorem dX12_load_71 : decode cX12_load 71 = .ok (.ireturn, 1) := by decide +kernel
theorem dX12_load_72 : decode cX12_load 72 = .ok (.aload_n 0, 1) := by decide +kernel
theorem dX12_load_73 : decode cX12_load 73 = .ok (.invokevirtual 98, 3) := by decide +kernel
theorem dX12_load_76 : decode cX12_load 76 = .ok (.iload_n 1, 1) := by decide +kernel
theorem dX12_load_77 : decode cX12_load 77 = .ok (.ireturn, 1) := by decide +kernel
set_option maxHeartbeats 4000000 in
set_option maxRecDepth 100000 in
theorem r_load (G : EnvG) (l : Launch) (Φ : Hm) (sz x : Nat) (rd : (Nat → Int32) → Prop) (fl : Nat) (le : Nat) (nx : Nat) (il : Nat) (qu : Nat) (kn : Int32) (ec : Int32) (nu : Int32) (va : Int64) (st : Nat) (ep : Int32) (ti : Int32) (ad : Int32) (ob : Int64) (ra : Int32) (rt : Nat) (ex : Int32) (sa : Int64) (us : Int64) (tk : Nat) (th : Int32) (me : Int32) (dr : Int32) (se : Int64) (sn : Int64) (fB : Nat → Int32) (c0 : Cf) (Fs : Nat → Fl) (Ft : Nat → Fl) (fa : Nat → Int32) (fb : Nat → Int32) (L : Nat → Nat) (sq : Int32) (hx : G.2.2.2 ≤ x) (hI : Im G x (rd, (NNq c0), (CaQ fl Fs), (TpQ tk Ft), (TtQ tk Ft), (SiQ fa), (AtQ fb), (PtQ 0 (fun _ => 0)), (QlQ qu L), fl, 0, le, nx, il, qu, kn, ec, nu, va, st, ep, ti, ad, ob, ra, rt, ex, sa, us, tk, th, me, dr, se, sn) Φ) (hc0 : Φ (x + 25) = some (ab_ G 700 fB)) (hll : il ≤ 700) (hse : se = sq.toInt64 &&& 4294967295) : Ct G l yX12_load wsX12_load ({ frames := 7, cells := 0, slots := 0, locals := 154 }) 0 0 [.ref x] Φ sz (fun v Φ1 sz1 => (∃ r9 : Int32, v = some (.int r9)) ∧ sz1 = sz ∧ (∃ (fl1 : Nat) (qu1 : Nat) (nx1 : Nat) (kn1 : Int32) (ec1 : Int32) (nu1 : Int32) (va1 : Int64) (st1 : Nat) (ep1 : Int32) (ti1 : Int32) (ad1 : Int32) (ob1 : Int64) (cf1 : Cf) (ra1 : Int32) (rt1 : Nat) (exx1 : Int32) (sa1 : Int64) (us1 : Int64) (tk1 : Nat) (F1 : Nat → Fl) (G1 : Nat → Fl) (fa1 : Nat → Int32) (L1 : Nat → Nat) (me1 : Int32) (dr1 : Int32) (se1 : Int64) (sn1 : Int64) (sq1 : Int32) (th1 : Int32), ((∃ (m9 q9 : Nat) (c9 : Cf), v = some (.int (nI m9)) ∧ txA (bA fB il) 702 0 cB 0 = (0, q9, m9, c9) ∧ ec1 = 0 ∧ ep1 = -1 ∧ ti1 = 0 ∧ ad1 = 0 ∧ ob1 = 0) ∨ (∃ (er9 s9 m9 : Nat) (c9 : Cf), v = some (.int (-2)) ∧ txA (bA fB il) 702 0 cB 0 = (er9, s9, m9, c9) ∧ ¬ er9 = 0 ∧ ec1 = nI er9 ∧ ep1 = nI s9 ∧ ti1 = ti ∧ ad1 = ad ∧ ob1 = ob)) ∧ (CfL (bA fB il) c0 cf1) ∧ (LdX (bA fB il) ((fl, Fs), (tk, Ft), nI rt, ra, ex, sa, us) cf1 ((fl1, F1), (tk1, G1), nI rt1, ra1, exx1, sa1, us1)) ∧ (fl1 ≤ 12) ∧ (tk1 ≤ 24) ∧ (1 ≤ rt1 ∧ rt1 ≤ 1024) ∧ (Ld5 (bA fB il) ((fa, fb, me, sn, sq), qu, L, dr) ((fa1, fb, me1, sn1, sq1), qu1, L1, dr1)) ∧ (se1 = sq1.toInt64 &&& 4294967295) ∧ Im G x (NN, (NNq cf1), (CaQ fl1 F1), (TpQ tk1 G1), (TtQ tk1 G1), (SiQ fa1), (AtQ fb), (PtQ 0 (fun _ => 0)), (QlQ qu1 L1), fl1, 0, le, nx1, 0, qu1, kn1, ec1, nu1, va1, st1, ep1, ti1, ad1, ob1, ra1, rt1, exx1, sa1, us1, tk1, th1, me1, dr1, se1, sn1) Φ1) ∧ Fr x (fun j9 => j9 = 0 ∨ j9 = 1 ∨ j9 = 2 ∨ j9 = 3 ∨ j9 = 11 ∨ j9 = 12) Φ Φ1) := by
  refine Ct.of (cc := cX12_load) (maxL := 2) (ret := (some .int)) (by decide) rfl (Nat.le_of_ble_eq_true rfl) ?_
  intro p9 e9 s9 m9 w9 t9 k9 B
  show Z p9 l e9 _ s9 m9 _ w9 t9 k9 _ G 2 0 [(0, .ref x)] [] Φ sz 0 0
  refine z_aload_n B dX12_load_0 rfl 0 rfl ?_
  refine z_iconst (v := 0) B dX12_load_1 rfl ?_
  obtain ⟨n_1, v_1, n_2, h_1, b_13, b_1, b_2, b_3, b_4, b_5, b_6, b_7, b_8, b_9, b_10, b_11, b_12⟩ := im0 hI
  replace b_1 : 1 ≤ rt := b_1
  replace b_2 : rt ≤ 1024 := b_2
  replace b_3 : fl ≤ 12 := b_3
  replace b_4 : 0 ≤ 24 := b_4
  replace b_5 : le ≤ 700 := b_5
  replace b_6 : qu ≤ 12 := b_6
  replace b_7 : n_1 ≤ 8 := b_7
  replace b_8 : n_2 ≤ 24 := b_8
  replace b_9 : tk ≤ 24 := b_9
  replace b_10 : il ≤ 700 := b_10
  replace b_11 : nx ≤ 701 := b_11
  replace b_12 : st ≤ 701 := b_12
  have h_2 : Φ x = some (o_ 14 [.int th, .ref (x + 1), .ref (x + 2), .int ti, .int ra, .int (nI rt), .int ex, .int ad, .ref (x + 3), .ref (x + 4), .int me, .long se, .ref (x + 5), .int (nI fl), .int dr, .long ob, .long sa, .long sn, .long us, .ref (x + 6), .ref (x + 7), .int (nI 0), .ref (x + 8), .int (nI le), .ref (x + 9), .ref (x + 10), .int (nI qu), .ref (x + 11), .ref (x + 12), .ref (x + 13), .ref (x + 14), .ref (x + 15), .ref (x + 16), .int (nI n_1), .long v_1, .ref (x + 17), .ref (x + 18), .ref (x + 19), .ref (x + 20), .ref (x + 21), .ref (x + 22), .int (nI n_2), .ref (x + 23), .ref (x + 24), .int (nI tk), .ref (x + 25), .int (nI il), .int (nI nx), .int ec, .int ep, .int kn, .int (nI st), .int nu, .long va]) := h_1
  refine z_put (ref := "FlowExporterModel") (C := RX12) (T := TX12) (N := 54) (ci := 14) (v := .int 0) B hu_X12_load_X12 tyX12 tyX12_ok nmX12 rfl 0 (Nat.le_of_ble_eq_true rfl) hv_X12_load_1 rfl (Or.inl rfl) h_2 hx rfl rfl (Nat.le_of_ble_eq_true rfl) dX12_load_2 (fun Φ1 hΦ1 => ?_)
  have h_3 : Φ1 x = some (o_ 14 [.int 0, .ref (x + 1), .ref (x + 2), .int ti, .int ra, .int (nI rt), .int ex, .int ad, .ref (x + 3), .ref (x + 4), .int me, .long se, .ref (x + 5), .int (nI fl), .int dr, .long ob, .long sa, .long sn, .long us, .ref (x + 6), .ref (x + 7), .int (nI 0), .ref (x + 8), .int (nI le), .ref (x + 9), .ref (x + 10), .int (nI qu), .ref (x + 11), .ref (x + 12), .ref (x + 13), .ref (x + 14), .ref (x + 15), .ref (x + 16), .int (nI n_1), .long v_1, .ref (x + 17), .ref (x + 18), .ref (x + 19), .ref (x + 20), .ref (x + 21), .ref (x + 22), .int (nI n_2), .ref (x + 23), .ref (x + 24), .int (nI tk), .ref (x + 25), .int (nI il), .int (nI nx), .int ec, .int ep, .int kn, .int (nI st), .int nu, .long va]) := fset_at hΦ1
  have hI1 : Im G x (rd, (NNq c0), (CaQ fl Fs), (TpQ tk Ft), (TtQ tk Ft), (SiQ fa), (AtQ fb), (PtQ 0 (fun _ => 0)), (QlQ qu L), fl, 0, le, nx, il, qu, kn, ec, nu, va, st, ep, ti, ad, ob, ra, rt, ex, sa, us, tk, 0, me, dr, se, sn) Φ1 := Im.put0 hI hΦ1 ⟨n_1, v_1, n_2, rfl, b_13, b_1, b_2, b_3, b_4, b_5, b_6, b_7, b_8, b_9, b_10, b_11, b_12⟩
  refine z_aload_n B dX12_load_5 rfl 0 rfl ?_
  refine z_callV (As := []) (rest := []) B (r_beginConfiguration G l Φ1 sz x rd (NNq c0) (CaQ fl Fs) (TpQ tk Ft) (TtQ tk Ft) (SiQ fa) (AtQ fb) (PtQ 0 (fun _ => 0)) (QlQ qu L) fl 0 le nx il qu kn ec nu va st ep ti ad ob ra rt ex sa us tk 0 me dr se sn  hx hI1 ) (cwV 0 B.1.2.2.2.2 gX12_load_X12_beginConfiguration rfl rfl rfl (by decide +kernel) ⟨Nat.le_of_ble_eq_true rfl, Nat.le_of_ble_eq_true rfl⟩) h_3 rfl rfl rfl rfl (Nat.le_of_ble_eq_true rfl) dX12_load_6 ⟨Nat.le_of_ble_eq_true rfl, Nat.le_of_ble_eq_true rfl⟩ (fun r_1 Φ2 sz1 st1 hp1 hs1 => ?_)
  obtain ⟨rfl, hq1, hI2, hF1⟩ := hp1
  subst sz1
  replace hs1 : st1 = [] := hs1
  subst st1
  replace hI2 : Im G x (NNc 0 cB, (NNq c0), (CaQ fl Fs), (TpQ tk Ft), (TtQ tk Ft), (SiQ fa), (AtQ fb), (PtQ 0 (fun _ => 0)), (QlQ qu L), fl, 0, le, nx, il, qu, kn, ec, nu, va, st, ep, ti, ad, ob, ra, rt, ex, sa, us, tk, 0, me, dr, se, sn) Φ2 := hI2
  refine z_aload_n B dX12_load_9 rfl 0 rfl ?_
  refine z_iconst (v := 0) B dX12_load_10 rfl ?_
  have h_4 : Φ2 x = some (o_ 14 [.int 0, .ref (x + 1), .ref (x + 2), .int ti, .int ra, .int (nI rt), .int ex, .int ad, .ref (x + 3), .ref (x + 4), .int me, .long se, .ref (x + 5), .int (nI fl), .int dr, .long ob, .long sa, .long sn, .long us, .ref (x + 6), .ref (x + 7), .int (nI 0), .ref (x + 8), .int (nI le), .ref (x + 9), .ref (x + 10), .int (nI qu), .ref (x + 11), .ref (x + 12), .ref (x + 13), .ref (x + 14), .ref (x + 15), .ref (x + 16), .int (nI n_1), .long v_1, .ref (x + 17), .ref (x + 18), .ref (x + 19), .ref (x + 20), .ref (x + 21), .ref (x + 22), .int (nI n_2), .ref (x + 23), .ref (x + 24), .int (nI tk), .ref (x + 25), .int (nI il), .int (nI nx), .int ec, .int ep, .int kn, .int (nI st), .int nu, .long va]) := ((hF1 x fq_1244).trans h_3)
  refine z_put (ref := "FlowExporterModel") (C := RX12) (T := TX12) (N := 54) (ci := 14) (v := .int 0) B hu_X12_load_X12 tyX12 tyX12_ok nmX12 rfl 48 (Nat.le_of_ble_eq_true rfl) hv_X12_load_447 rfl (Or.inl rfl) h_4 hx rfl rfl (Nat.le_of_ble_eq_true rfl) dX12_load_11 (fun Φ3 hΦ2 => ?_)
  have h_5 : Φ3 x = some (o_ 14 [.int 0, .ref (x + 1), .ref (x + 2), .int ti, .int ra, .int (nI rt), .int ex, .int ad, .ref (x + 3), .ref (x + 4), .int me, .long se, .ref (x + 5), .int (nI fl), .int dr, .long ob, .long sa, .long sn, .long us, .ref (x + 6), .ref (x + 7), .int (nI 0), .ref (x + 8), .int (nI le), .ref (x + 9), .ref (x + 10), .int (nI qu), .ref (x + 11), .ref (x + 12), .ref (x + 13), .ref (x + 14), .ref (x + 15), .ref (x + 16), .int (nI n_1), .long v_1, .ref (x + 17), .ref (x + 18), .ref (x + 19), .ref (x + 20), .ref (x + 21), .ref (x + 22), .int (nI n_2), .ref (x + 23), .ref (x + 24), .int (nI tk), .ref (x + 25), .int (nI il), .int (nI nx), .int 0, .int ep, .int kn, .int (nI st), .int nu, .long va]) := fset_at hΦ2
  have hI3 : Im G x (NNc 0 cB, (NNq c0), (CaQ fl Fs), (TpQ tk Ft), (TtQ tk Ft), (SiQ fa), (AtQ fb), (PtQ 0 (fun _ => 0)), (QlQ qu L), fl, 0, le, nx, il, qu, kn, 0, nu, va, st, ep, ti, ad, ob, ra, rt, ex, sa, us, tk, 0, me, dr, se, sn) Φ3 := Im.put0 hI2 hΦ2 ⟨n_1, v_1, n_2, rfl, b_13, b_1, b_2, b_3, b_4, b_5, b_6, b_7, b_8, b_9, b_10, b_11, b_12⟩
  refine z_aload_n B dX12_load_14 rfl 0 rfl ?_
  refine z_iconst (v := (-1)) B dX12_load_15 rfl ?_
  refine z_put (ref := "FlowExporterModel") (C := RX12) (T := TX12) (N := 54) (ci := 14) (v := .int (-1)) B hu_X12_load_X12 tyX12 tyX12_ok nmX12 rfl 49 (Nat.le_of_ble_eq_true rfl) hv_X12_load_92 rfl (Or.inl rfl) h_5 hx rfl rfl (Nat.le_of_ble_eq_true rfl) dX12_load_16 (fun Φ4 hΦ3 => ?_)
  have h_6 : Φ4 x = some (o_ 14 [.int 0, .ref (x + 1), .ref (x + 2), .int ti, .int ra, .int (nI rt), .int ex, .int ad, .ref (x + 3), .ref (x + 4), .int me, .long se, .ref (x + 5), .int (nI fl), .int dr, .long ob, .long sa, .long sn, .long us, .ref (x + 6), .ref (x + 7), .int (nI 0), .ref (x + 8), .int (nI le), .ref (x + 9), .ref (x + 10), .int (nI qu), .ref (x + 11), .ref (x + 12), .ref (x + 13), .ref (x + 14), .ref (x + 15), .ref (x + 16), .int (nI n_1), .long v_1, .ref (x + 17), .ref (x + 18), .ref (x + 19), .ref (x + 20), .ref (x + 21), .ref (x + 22), .int (nI n_2), .ref (x + 23), .ref (x + 24), .int (nI tk), .ref (x + 25), .int (nI il), .int (nI nx), .int 0, .int (-1), .int kn, .int (nI st), .int nu, .long va]) := fset_at hΦ3
  have hI4 : Im G x (NNc 0 cB, (NNq c0), (CaQ fl Fs), (TpQ tk Ft), (TtQ tk Ft), (SiQ fa), (AtQ fb), (PtQ 0 (fun _ => 0)), (QlQ qu L), fl, 0, le, nx, il, qu, kn, 0, nu, va, st, (-1), ti, ad, ob, ra, rt, ex, sa, us, tk, 0, me, dr, se, sn) Φ4 := Im.put0 hI3 hΦ3 ⟨n_1, v_1, n_2, rfl, b_13, b_1, b_2, b_3, b_4, b_5, b_6, b_7, b_8, b_9, b_10, b_11, b_12⟩
  refine z_aload_n B dX12_load_19 rfl 0 rfl ?_
  refine z_iconst (v := 0) B dX12_load_20 rfl ?_
  refine z_put (ref := "FlowExporterModel") (C := RX12) (T := TX12) (N := 54) (ci := 14) (v := .int 0) B hu_X12_load_X12 tyX12 tyX12_ok nmX12 rfl 47 (Nat.le_of_ble_eq_true rfl) hv_X12_load_458 rfl (Or.inl rfl) h_6 hx rfl rfl (Nat.le_of_ble_eq_true rfl) dX12_load_21 (fun Φ5 hΦ4 => ?_)
  have h_7 : Φ5 x = some (o_ 14 [.int 0, .ref (x + 1), .ref (x + 2), .int ti, .int ra, .int (nI rt), .int ex, .int ad, .ref (x + 3), .ref (x + 4), .int me, .long se, .ref (x + 5), .int (nI fl), .int dr, .long ob, .long sa, .long sn, .long us, .ref (x + 6), .ref (x + 7), .int (nI 0), .ref (x + 8), .int (nI le), .ref (x + 9), .ref (x + 10), .int (nI qu), .ref (x + 11), .ref (x + 12), .ref (x + 13), .ref (x + 14), .ref (x + 15), .ref (x + 16), .int (nI n_1), .long v_1, .ref (x + 17), .ref (x + 18), .ref (x + 19), .ref (x + 20), .ref (x + 21), .ref (x + 22), .int (nI n_2), .ref (x + 23), .ref (x + 24), .int (nI tk), .ref (x + 25), .int (nI il), .int 0, .int 0, .int (-1), .int kn, .int (nI st), .int nu, .long va]) := fset_at hΦ4
  have hI5 : Im G x (NNc 0 cB, (NNq c0), (CaQ fl Fs), (TpQ tk Ft), (TtQ tk Ft), (SiQ fa), (AtQ fb), (PtQ 0 (fun _ => 0)), (QlQ qu L), fl, 0, le, 0, il, qu, kn, 0, nu, va, st, (-1), ti, ad, ob, ra, rt, ex, sa, us, tk, 0, me, dr, se, sn) Φ5 := Im.put0 hI4 hΦ4 ⟨n_1, v_1, n_2, rfl, b_13, b_1, b_2, b_3, b_4, b_5, b_6, b_7, b_8, b_9, b_10, (show 0 ≤ 701 by omega), b_12⟩
  refine z_aload_n B dX12_load_24 rfl 0 rfl ?_
  have h_8 : Φ5 (x + 25) = some (ab_ G 700 fB) := ((fset_fr hΦ4 (ne_off (x := x) (i := 25) (j := 0) rfl)).trans ((fset_fr hΦ3 (ne_off (x := x) (i := 25) (j := 0) rfl)).trans ((fset_fr hΦ2 (ne_off (x := x) (i := 25) (j := 0) rfl)).trans ((hF1 (x + 25) fq_1250).trans ((fset_fr hΦ1 (ne_off (x := x) (i := 25) (j := 0) rfl)).trans hc0)))))
  refine z_callV (As := []) (rest := []) B (r_advanceToken G l Φ5 sz x (NNc 0 cB) (NNq c0) (CaQ fl Fs) (TpQ tk Ft) (TtQ tk Ft) (SiQ fa) (AtQ fb) (PtQ 0 (fun _ => 0)) (QlQ qu L) fl 0 le 0 il qu kn 0 nu va st (-1) ti ad ob ra rt ex sa us tk 0 me dr se sn fB hx hI5 h_8 (show 0 ≤ il by omega) (show il ≤ 700 by omega) (fun f9 h9 => h9.1)) (cwV 0 B.1.2.2.2.2 gX12_load_X12_advanceToken rfl rfl rfl (by decide +kernel) ⟨Nat.le_of_ble_eq_true rfl, Nat.le_of_ble_eq_true rfl⟩) h_7 rfl rfl rfl rfl (Nat.le_of_ble_eq_true rfl) dX12_load_25 ⟨Nat.le_of_ble_eq_true rfl, Nat.le_of_ble_eq_true rfl⟩ (fun r_2 Φ6 sz2 st2 hp2 hs2 => ?_)
  obtain ⟨rfl, hq2, ⟨n_3, v_2, v_3, n_4, b_14, hI6⟩, hF2⟩ := hp2
  subst sz2
  replace hs2 : st2 = [] := hs2
  subst st2
  replace hI6 : Im G x (NNc 0 cB, (NNq c0), (CaQ fl Fs), (TpQ tk Ft), (TtQ tk Ft), (SiQ fa), (AtQ fb), (PtQ 0 (fun _ => 0)), (QlQ qu L), fl, 0, le, n_3, il, qu, v_2, 0, nu, v_3, n_4, (-1), ti, ad, ob, ra, rt, ex, sa, us, tk, 0, me, dr, se, sn) Φ6 := hI6
  replace b_14 : TkR (bA fB il) 0 v_2 n_4 n_3 v_3 := b_14
  obtain ⟨b_15, b_16, b_17, b_18⟩ := TkR_b b_14 (by omega)
  refine z_iconst (v := 0) B dX12_load_28 rfl ?_
  refine z_istore_n (lv' := [(1, .int 0), (0, .ref x)]) B dX12_load_29 rfl (Nat.le_of_ble_eq_true rfl) rfl ?_
  refine z_lv [0, 1] rfl ?_
  refine z_loop (α := Nat × Nat × Int32 × Int32 × Int64 × Nat × Nat × Cf × Nat) (fun (a9 : Nat × Nat × Int32 × Int32 × Int64 × Nat × Nat × Cf × Nat) Φi => Im G x ((NNc a9.2.2.2.2.2.2.2.2 a9.2.2.2.2.2.2.2.1), (NNq c0), (CaQ fl Fs), (TpQ tk Ft), (TtQ tk Ft), (SiQ fa), (AtQ fb), (PtQ 0 (fun _ => 0)), (QlQ qu L), fl, 0, le, a9.2.1, il, qu, a9.2.2.1, 0, a9.2.2.2.1, a9.2.2.2.2.1, a9.2.2.2.2.2.1, (-1), ti, ad, ob, ra, rt, ex, sa, us, tk, 0, me, dr, se, sn) Φi ∧ Fr x (fun j9 => j9 = 0 ∨ j9 = 1) Φ6 Φi ∧ (a9.1 ≤ 700) ∧ (a9.1 ≤ a9.2.2.2.2.2.2.1) ∧ (a9.2.2.2.2.2.2.1 ≤ il) ∧ (a9.2.2.2.2.2.2.2.2 ≤ 4) ∧ (TkR (bA fB il) a9.2.2.2.2.2.2.1 a9.2.2.1 a9.2.2.2.2.2.1 a9.2.1 a9.2.2.2.2.1) ∧ (txA (bA fB il) 702 0 cB 0 = txA (bA fB il) (702 - a9.1) a9.2.2.2.2.2.2.1 a9.2.2.2.2.2.2.2.1 a9.1) ∧ (a9.2.2.2.2.2.2.2.1 10 = nI a9.2.2.2.2.2.2.2.2) ∧ True) (fun a9 => [(1, .int (nI (a9.1))), (0, .ref x)]) (fun a9 => 702 - a9.2.2.2.2.2.2.1) ?_ (0, n_3, v_2, nu, v_3, n_4, 0, cB, 0) ⟨(Im.weak5 hI6 (fun _ q9 => q9) (fun _ q9 => q9) (fun _ q9 => q9) (fun _ q9 => q9) (fun _ q9 => q9) (fun _ q9 => q9) (fun _ q9 => q9) (fun _ q9 => q9) (fun _ q9 => q9)), fun _ _ => rfl, (show 0 ≤ 700 by omega), (show 0 ≤ 0 by omega), (show 0 ≤ il by omega), (show 0 ≤ 4 by omega), b_14, rfl, rfl, trivial⟩
  rintro ⟨i_1, i_2, i_3, i_4, i_5, i_6, i_7, i_8, i_9⟩ Φl1 ⟨hI7, hF3, b_19, b_20, b_21, b_22, b_23, b_24, b_25, -⟩ ih1
  replace hI7 : Im G x ((NNc i_9 i_8), (NNq c0), (CaQ fl Fs), (TpQ tk Ft), (TtQ tk Ft), (SiQ fa), (AtQ fb), (PtQ 0 (fun _ => 0)), (QlQ qu L), fl, 0, le, i_2, il, qu, i_3, 0, i_4, i_5, i_6, (-1), ti, ad, ob, ra, rt, ex, sa, us, tk, 0, me, dr, se, sn) Φl1 := hI7
  replace b_19 : i_1 ≤ 700 := b_19
  replace b_20 : i_1 ≤ i_7 := b_20
  replace b_21 : i_7 ≤ il := b_21
  replace b_22 : i_9 ≤ 4 := b_22
  replace b_23 : TkR (bA fB il) i_7 i_3 i_6 i_2 i_5 := b_23
  replace b_24 : txA (bA fB il) 702 0 cB 0 = txA (bA fB il) (702 - i_1) i_7 i_8 i_1 := b_24
  replace b_25 : i_8 10 = nI i_9 := b_25
  show Z p9 l e9 _ s9 m9 _ w9 t9 k9 _ G 2 30 [(1, .int (nI i_1)), (0, .ref x)] [] Φl1 _ _ _
  obtain ⟨b_26, b_27, b_28, b_29⟩ := TkR_b b_23 (by omega)
  refine z_aload_n B dX12_load_30 rfl 1 rfl ?_
  obtain ⟨n_5, v_4, n_6, h_9, b_42, b_30, b_31, b_32, b_33, b_34, b_35, b_36, b_37, b_38, b_39, b_40, b_41⟩ := im0 hI7
  replace b_30 : 1 ≤ rt := b_30
  replace b_31 : rt ≤ 1024 := b_31
  replace b_32 : fl ≤ 12 := b_32
  replace b_33 : 0 ≤ 24 := b_33
  replace b_34 : le ≤ 700 := b_34
  replace b_35 : qu ≤ 12 := b_35
  replace b_36 : n_5 ≤ 8 := b_36
  replace b_37 : n_6 ≤ 24 := b_37
  replace b_38 : tk ≤ 24 := b_38
  replace b_39 : il ≤ 700 := b_39
  replace b_40 : i_2 ≤ 701 := b_40
  replace b_41 : i_6 ≤ 701 := b_41
  have h_10 : Φl1 x = some (o_ 14 [.int 0, .ref (x + 1), .ref (x + 2), .int ti, .int ra, .int (nI rt), .int ex, .int ad, .ref (x + 3), .ref (x + 4), .int me, .long se, .ref (x + 5), .int (nI fl), .int dr, .long ob, .long sa, .long sn, .long us, .ref (x + 6), .ref (x + 7), .int (nI 0), .ref (x + 8), .int (nI le), .ref (x + 9), .ref (x + 10), .int (nI qu), .ref (x + 11), .ref (x + 12), .ref (x + 13), .ref (x + 14), .ref (x + 15), .ref (x + 16), .int (nI n_5), .long v_4, .ref (x + 17), .ref (x + 18), .ref (x + 19), .ref (x + 20), .ref (x + 21), .ref (x + 22), .int (nI n_6), .ref (x + 23), .ref (x + 24), .int (nI tk), .ref (x + 25), .int (nI il), .int (nI i_2), .int 0, .int (-1), .int i_3, .int (nI i_6), .int i_4, .long i_5]) := h_9
  refine z_get (ref := "FlowExporterModel") (C := RX12) (T := TX12) (N := 54) (ci := 14) (v := .int 0) B hu_X12_load_X12 rfl 48 (Nat.le_of_ble_eq_true rfl) hv_X12_load_447 rfl h_10 rfl dX12_load_31 ?_
  refine z_if_ne (tgt := 57) B dX12_load_34 rfl (fun h9 => absurd (by decide) h9) (fun c_1 => ?_)
  refine z_aload_n B dX12_load_37 rfl 1 rfl ?_
  refine z_get (ref := "FlowExporterModel") (C := RX12) (T := TX12) (N := 54) (ci := 14) (v := .int i_3) B hu_X12_load_X12 rfl 50 (Nat.le_of_ble_eq_true rfl) hv_X12_load_476 rfl h_10 rfl dX12_load_38 ?_
  refine z_if_eq (tgt := 57) B dX12_load_41 rfl (fun c_2 => ?_) (fun c_2 => ?_)
  · refine z_aload_n B dX12_load_57 rfl 1 rfl ?_
    refine z_iconst (v := 0) B dX12_load_58 rfl ?_
    refine z_put (ref := "FlowExporterModel") (C := RX12) (T := TX12) (N := 54) (ci := 14) (v := .int 0) B hu_X12_load_X12 tyX12 tyX12_ok nmX12 rfl 46 (Nat.le_of_ble_eq_true rfl) hv_X12_load_441 rfl (Or.inl rfl) h_10 hx rfl rfl (Nat.le_of_ble_eq_true rfl) dX12_load_59 (fun Φ7 hΦ5 => ?_)
    have h_11 : Φ7 x = some (o_ 14 [.int 0, .ref (x + 1), .ref (x + 2), .int ti, .int ra, .int (nI rt), .int ex, .int ad, .ref (x + 3), .ref (x + 4), .int me, .long se, .ref (x + 5), .int (nI fl), .int dr, .long ob, .long sa, .long sn, .long us, .ref (x + 6), .ref (x + 7), .int (nI 0), .ref (x + 8), .int (nI le), .ref (x + 9), .ref (x + 10), .int (nI qu), .ref (x + 11), .ref (x + 12), .ref (x + 13), .ref (x + 14), .ref (x + 15), .ref (x + 16), .int (nI n_5), .long v_4, .ref (x + 17), .ref (x + 18), .ref (x + 19), .ref (x + 20), .ref (x + 21), .ref (x + 22), .int (nI n_6), .ref (x + 23), .ref (x + 24), .int (nI tk), .ref (x + 25), .int 0, .int (nI i_2), .int 0, .int (-1), .int i_3, .int (nI i_6), .int i_4, .long i_5]) := fset_at hΦ5
    have hI8 : Im G x ((NNc i_9 i_8), (NNq c0), (CaQ fl Fs), (TpQ tk Ft), (TtQ tk Ft), (SiQ fa), (AtQ fb), (PtQ 0 (fun _ => 0)), (QlQ qu L), fl, 0, le, i_2, 0, qu, i_3, 0, i_4, i_5, i_6, (-1), ti, ad, ob, ra, rt, ex, sa, us, tk, 0, me, dr, se, sn) Φ7 := Im.put0 hI7 hΦ5 ⟨n_5, v_4, n_6, rfl, b_42, b_30, b_31, b_32, b_33, b_34, b_35, b_36, b_37, b_38, (show 0 ≤ 700 by omega), b_40, b_41⟩
    refine z_aload_n B dX12_load_62 rfl 1 rfl ?_
    refine z_get (ref := "FlowExporterModel") (C := RX12) (T := TX12) (N := 54) (ci := 14) (v := .int 0) B hu_X12_load_X12 rfl 48 (Nat.le_of_ble_eq_true rfl) hv_X12_load_447 rfl h_11 rfl dX12_load_63 ?_
    refine z_if_eq (tgt := 72) B dX12_load_66 rfl (fun c_3 => ?_) (fun h9 => absurd (by decide) h9)
    refine z_aload_n B dX12_load_72 rfl 1 rfl ?_
    refine z_callV (As := []) (rest := []) B (r_take G l Φ7 sz x (NNq c0) (CaQ fl Fs) (TpQ tk Ft) (TtQ tk Ft) (SiQ fa) (AtQ fb) (PtQ 0 (fun _ => 0)) (QlQ qu L) fl 0 le i_2 0 qu i_3 0 i_4 i_5 i_6 (-1) ti ad ob ra rt ex sa us tk 0 me dr se sn i_9 i_8 hx hI8 ) (cwV 0 B.1.2.2.2.2 gX12_load_X12_take rfl rfl rfl (by decide +kernel) ⟨Nat.le_of_ble_eq_true rfl, Nat.le_of_ble_eq_true rfl⟩) h_11 rfl rfl rfl rfl (Nat.le_of_ble_eq_true rfl) dX12_load_73 ⟨Nat.le_of_ble_eq_true rfl, Nat.le_of_ble_eq_true rfl⟩ (fun r_3 Φ8 sz3 st3 hp3 hs3 => ?_)
    obtain ⟨rfl, hq3, ⟨n_7, b_43, hI9⟩, hF4⟩ := hp3
    subst sz3
    replace hs3 : st3 = [] := hs3
    subst st3
    replace hI9 : Im G x (NN, NNq (finC i_8), CaQ 0 Fz, TpQ 0 Fz, TtQ 0 Fz, SiQ (fun _ => 0), (AtQ fb), PtQ 0 (fun _ => 0), QlQ 0 (fun _ => 0), 0, 0, le, i_2, 0, 0, i_3, 0, i_4, i_5, i_6, (-1), 0, 0, 0, 1, n_7, 0, 0, 0, 0, 0, 0, 0, 0, 0) Φ8 := hI9
    replace b_43 : finC i_8 0 = nI n_7 := b_43
    obtain ⟨n_8, v_5, n_9, h_12, b_56, b_44, b_45, b_46, b_47, b_48, b_49, b_50, b_51, b_52, b_53, b_54, b_55⟩ := im0 hI9
    replace b_44 : 1 ≤ n_7 := b_44
    replace b_45 : n_7 ≤ 1024 := b_45
    replace b_46 : 0 ≤ 12 := b_46
    replace b_47 : 0 ≤ 24 := b_47
    replace b_48 : le ≤ 700 := b_48
    replace b_49 : 0 ≤ 12 := b_49
    replace b_50 : n_8 ≤ 8 := b_50
    replace b_51 : n_9 ≤ 24 := b_51
    replace b_52 : 0 ≤ 24 := b_52
    replace b_53 : 0 ≤ 700 := b_53
    replace b_54 : i_2 ≤ 701 := b_54
    replace b_55 : i_6 ≤ 701 := b_55
    have h_13 : Φ8 x = some (o_ 14 [.int 0, .ref (x + 1), .ref (x + 2), .int 0, .int 1, .int (nI n_7), .int 0, .int 0, .ref (x + 3), .ref (x + 4), .int 0, .long 0, .ref (x + 5), .int (nI 0), .int 0, .long 0, .long 0, .long 0, .long 0, .ref (x + 6), .ref (x + 7), .int (nI 0), .ref (x + 8), .int (nI le), .ref (x + 9), .ref (x + 10), .int (nI 0), .ref (x + 11), .ref (x + 12), .ref (x + 13), .ref (x + 14), .ref (x + 15), .ref (x + 16), .int (nI n_8), .long v_5, .ref (x + 17), .ref (x + 18), .ref (x + 19), .ref (x + 20), .ref (x + 21), .ref (x + 22), .int (nI n_9), .ref (x + 23), .ref (x + 24), .int (nI 0), .ref (x + 25), .int (nI 0), .int (nI i_2), .int 0, .int (-1), .int i_3, .int (nI i_6), .int i_4, .long i_5]) := h_12
    refine z_iload_n B dX12_load_76 rfl 0 rfl ?_
    exact z_ret_i B dX12_load_77 ⟨⟨_, rfl⟩, rfl, ⟨0, 0, i_2, i_3, 0, i_4, i_5, i_6, (-1), 0, 0, 0, finC i_8, 1, n_7, 0, 0, 0, 0, Fz, Fz, (fun _ => 0), (fun _ => 0), 0, 0, 0, 0, 0, 0, (Or.inl ⟨i_1, _, i_8, rfl, (txF b_24 (by omega)).trans (txA_0 (tk_end b_23 (by omega) c_2)), rfl, rfl, rfl, rfl, rfl⟩), (Or.inl ⟨_, _, _, (txF b_24 (by omega)).trans (txA_0 (tk_end b_23 (by omega) c_2)), rfl⟩), (Or.inl ⟨_, _, _, (txF b_24 (by omega)).trans (txA_0 (tk_end b_23 (by omega) c_2)), congrArg (fun w9 : Int32 => (((0, Fz), (0, Fz), w9, 1, 0, 0, 0) : ZS)) b_43.symm⟩), (show 0 ≤ 12 by omega), (show 0 ≤ 24 by omega), (show 1 ≤ n_7 ∧ n_7 ≤ 1024 by omega), (Or.inl ⟨_, _, _, (txF b_24 (by omega)).trans (txA_0 (tk_end b_23 (by omega) c_2)), rfl⟩), (by decide), hI9⟩, (fun b9 h9 => ((hF4 b9 h9).trans ((fset_fr hΦ5 (fun h8 => h9 (0) h8 (show 0 = 0 ∨ 0 = 1 ∨ 0 = 2 ∨ 0 = 3 ∨ 0 = 11 ∨ 0 = 12 by decide))).trans ((hF3 b9 (fun j9 h8 h7 => h9 j9 h8 (fq_1254 j9 h7))).trans ((hF2 b9 (fun j9 h8 h7 => h9 j9 h8 (fq_1253 j9 h7))).trans ((fset_fr hΦ4 (fun h8 => h9 (0) h8 (show 0 = 0 ∨ 0 = 1 ∨ 0 = 2 ∨ 0 = 3 ∨ 0 = 11 ∨ 0 = 12 by decide))).trans ((fset_fr hΦ3 (fun h8 => h9 (0) h8 (show 0 = 0 ∨ 0 = 1 ∨ 0 = 2 ∨ 0 = 3 ∨ 0 = 11 ∨ 0 = 12 by decide))).trans ((fset_fr hΦ2 (fun h8 => h9 (0) h8 (show 0 = 0 ∨ 0 = 1 ∨ 0 = 2 ∨ 0 = 3 ∨ 0 = 11 ∨ 0 = 12 by decide))).trans ((hF1 b9 (fun j9 h8 h7 => h9 j9 h8 (fq_1243 j9 h7))).trans ((fset_fr hΦ1 (fun h8 => h9 (0) h8 (show 0 = 0 ∨ 0 = 1 ∨ 0 = 2 ∨ 0 = 3 ∨ 0 = 11 ∨ 0 = 12 by decide))).trans rfl))))))))))⟩
  · obtain ⟨k_1, hT1, e_1⟩ := tk_go b_23 (by omega) c_2
    refine z_aload_n B dX12_load_44 rfl 1 rfl ?_
    have h_14 : Φl1 (x + 25) = some (ab_ G 700 fB) := ((hF3 (x + 25) fq_1203).trans ((hF2 (x + 25) fq_1182).trans h_8))
    refine z_callV (As := []) (rest := []) B (r_readStatement G l Φl1 sz x (NNq c0) (CaQ fl Fs) (TpQ tk Ft) (TtQ tk Ft) (SiQ fa) (AtQ fb) (PtQ 0 (fun _ => 0)) (QlQ qu L) fl 0 le i_2 il qu i_3 0 i_4 i_5 i_6 (-1) ti ad ob ra rt ex sa us tk 0 me dr se sn fB i_7 i_9 i_8 hx hI7 h_14 b_23 (show i_7 ≤ il by omega) (show il ≤ 700 by omega) b_25 (show i_9 ≤ 4 by omega) (fun f9 h9 => h9.1)) (cwV 0 B.1.2.2.2.2 gX12_load_X12_readStatement rfl rfl rfl (by decide +kernel) ⟨Nat.le_of_ble_eq_true rfl, Nat.le_of_ble_eq_true rfl⟩) h_10 rfl rfl rfl rfl (Nat.le_of_ble_eq_true rfl) dX12_load_45 ⟨Nat.le_of_ble_eq_true rfl, Nat.le_of_ble_eq_true rfl⟩ (fun r_4 Φ9 sz4 st4 hp4 hs4 => ?_)
    obtain ⟨-, hq4, ⟨n_10, v_6, v_7, v_8, v_9, n_11, v_10, n_12, n_13, b_57, hI10⟩, hF5⟩ := hp4
    subst sz4
    replace hI10 : Im G x (NNc n_12 n_13, (NNq c0), (CaQ fl Fs), (TpQ tk Ft), (TtQ tk Ft), (SiQ fa), (AtQ fb), (PtQ 0 (fun _ => 0)), (QlQ qu L), fl, 0, le, n_10, il, qu, v_6, v_7, v_8, v_9, n_11, v_10, ti, ad, ob, ra, rt, ex, sa, us, tk, 0, me, dr, se, sn) Φ9 := hI10
    replace b_57 : (∃ (q9 : Nat), r_4 = some (.int 1) ∧ stK (bA fB il) (tkG (bA fB il) i_7).1 i_6 i_2 i_8 = (0, q9, n_13) ∧ 0 = v_7 ∧ ((-1)) = v_10 ∧ n_13 10 = nI n_12 ∧ n_12 ≤ 4 ∧ i_7 < q9 ∧ q9 ≤ il ∧ TkR (bA fB il) q9 v_6 n_11 n_10 v_9) ∨ (∃ (er9 s9 : Nat) (c9 : Cf), r_4 = some (.int 0) ∧ stK (bA fB il) (tkG (bA fB il) i_7).1 i_6 i_2 i_8 = (er9, s9, c9) ∧ (¬ er9 = 0 ∧ er9 ≤ 4) ∧ v_7 = nI er9 ∧ v_10 = nI s9) := b_57
    rcases b_57 with ⟨q_1, rfl, hN1, rfl, rfl, e_2, b_58, b_59, b_60, hT2⟩ | ⟨er_1, s_1, c_5, rfl, hN2, he1, rfl, rfl⟩
    · replace hT2 : TkR (bA fB il) q_1 v_6 n_11 n_10 v_9 := hT2
      obtain ⟨b_61, b_62, b_63, b_64⟩ := TkR_b hT2 (by omega)
      replace hs4 : st4 = [.int 1] := hs4
      subst st4
      replace hN1 : stK (bA fB il) (tkG (bA fB il) i_7).1 i_6 i_2 i_8 = (0, q_1, n_13) := hN1
      replace b_59 : i_7 < q_1 := b_59
      replace b_60 : q_1 ≤ il := b_60
      refine z_if_eq (tgt := 30) B dX12_load_48 rfl (fun h9 => absurd h9 (by decide)) (fun c_6 => ?_)
      refine z_iinc (k := 0) (v := nI (i_1 + 1)) (lv' := [(1, .int (nI (i_1 + 1))), (0, .ref x)]) B dX12_load_51 rfl (nI_add i_1 1) (Nat.le_of_ble_eq_true rfl) rfl ?_
      refine z_goto (tgt := 30) B dX12_load_54 rfl ?_
      refine z_lv [0, 1] rfl ?_
      exact ih1 (i_1 + 1, n_10, v_6, v_8, v_9, n_11, q_1, n_13, n_12) Φ9 (show 702 - q_1 < 702 - i_7 by omega) ⟨(Im.weak5 hI10 (fun _ q9 => q9) (fun _ q9 => q9) (fun _ q9 => q9) (fun _ q9 => q9) (fun _ q9 => q9) (fun _ q9 => q9) (fun _ q9 => q9) (fun _ q9 => q9) (fun _ q9 => q9)), (fun b9 h9 => ((hF5 b9 h9).trans ((hF3 b9 h9).trans rfl))), (show (i_1 + 1) ≤ 700 by omega), (show (i_1 + 1) ≤ q_1 by omega), (show q_1 ≤ il by omega), (show n_12 ≤ 4 by omega), hT2, (txS b_24 (by omega) hT1 e_1 (tk_st hT1 hN1)), e_2, trivial⟩
    · replace hs4 : st4 = [.int 0] := hs4
      subst st4
      replace hN2 : stK (bA fB il) (tkG (bA fB il) i_7).1 i_6 i_2 i_8 = (er_1, s_1, c_5) := hN2
      replace he1 : ¬ er_1 = 0 ∧ er_1 ≤ 4 := he1
      have hz9 : ¬ nI er_1 = 0 := fun h9 => by have h8 := (nI_eq (a := er_1) (b := 0) (by omega) (by omega)).mp h9; omega
      refine z_if_eq (tgt := 30) B dX12_load_48 rfl (fun c_7 => ?_) (fun h9 => absurd (by decide) h9)
      refine z_aload_n B dX12_load_30 rfl 1 rfl ?_
      obtain ⟨n_14, v_11, n_15, h_15, b_77, b_65, b_66, b_67, b_68, b_69, b_70, b_71, b_72, b_73, b_74, b_75, b_76⟩ := im0 hI10
      replace b_65 : 1 ≤ rt := b_65
      replace b_66 : rt ≤ 1024 := b_66
      replace b_67 : fl ≤ 12 := b_67
      replace b_68 : 0 ≤ 24 := b_68
      replace b_69 : le ≤ 700 := b_69
      replace b_70 : qu ≤ 12 := b_70
      replace b_71 : n_14 ≤ 8 := b_71
      replace b_72 : n_15 ≤ 24 := b_72
      replace b_73 : tk ≤ 24 := b_73
      replace b_74 : il ≤ 700 := b_74
      replace b_75 : n_10 ≤ 701 := b_75
      replace b_76 : n_11 ≤ 701 := b_76
      have h_16 : Φ9 x = some (o_ 14 [.int 0, .ref (x + 1), .ref (x + 2), .int ti, .int ra, .int (nI rt), .int ex, .int ad, .ref (x + 3), .ref (x + 4), .int me, .long se, .ref (x + 5), .int (nI fl), .int dr, .long ob, .long sa, .long sn, .long us, .ref (x + 6), .ref (x + 7), .int (nI 0), .ref (x + 8), .int (nI le), .ref (x + 9), .ref (x + 10), .int (nI qu), .ref (x + 11), .ref (x + 12), .ref (x + 13), .ref (x + 14), .ref (x + 15), .ref (x + 16), .int (nI n_14), .long v_11, .ref (x + 17), .ref (x + 18), .ref (x + 19), .ref (x + 20), .ref (x + 21), .ref (x + 22), .int (nI n_15), .ref (x + 23), .ref (x + 24), .int (nI tk), .ref (x + 25), .int (nI il), .int (nI n_10), .int (nI er_1), .int (nI s_1), .int v_6, .int (nI n_11), .int v_8, .long v_9]) := h_15
      refine z_get (ref := "FlowExporterModel") (C := RX12) (T := TX12) (N := 54) (ci := 14) (v := .int (nI er_1)) B hu_X12_load_X12 rfl 48 (Nat.le_of_ble_eq_true rfl) hv_X12_load_447 rfl h_16 rfl dX12_load_31 ?_
      refine z_if_ne (tgt := 57) B dX12_load_34 rfl (fun c_8 => ?_) (fun h9 => absurd h9 hz9)
      have hI11 : Im G x (NN, (NNq c0), (CaQ fl Fs), (TpQ tk Ft), (TtQ tk Ft), (SiQ fa), (AtQ fb), (PtQ 0 (fun _ => 0)), (QlQ qu L), fl, 0, le, n_10, il, qu, v_6, nI er_1, v_8, v_9, n_11, nI s_1, ti, ad, ob, ra, rt, ex, sa, us, tk, 0, me, dr, se, sn) Φ9 := Im.weak hI10 (fun f9 q9 => q9.1.1) (fun _ q9 => q9)
      refine z_aload_n B dX12_load_57 rfl 1 rfl ?_
      refine z_iconst (v := 0) B dX12_load_58 rfl ?_
      refine z_put (ref := "FlowExporterModel") (C := RX12) (T := TX12) (N := 54) (ci := 14) (v := .int 0) B hu_X12_load_X12 tyX12 tyX12_ok nmX12 rfl 46 (Nat.le_of_ble_eq_true rfl) hv_X12_load_441 rfl (Or.inl rfl) h_16 hx rfl rfl (Nat.le_of_ble_eq_true rfl) dX12_load_59 (fun Φ10 hΦ6 => ?_)
      have h_17 : Φ10 x = some (o_ 14 [.int 0, .ref (x + 1), .ref (x + 2), .int ti, .int ra, .int (nI rt), .int ex, .int ad, .ref (x + 3), .ref (x + 4), .int me, .long se, .ref (x + 5), .int (nI fl), .int dr, .long ob, .long sa, .long sn, .long us, .ref (x + 6), .ref (x + 7), .int (nI 0), .ref (x + 8), .int (nI le), .ref (x + 9), .ref (x + 10), .int (nI qu), .ref (x + 11), .ref (x + 12), .ref (x + 13), .ref (x + 14), .ref (x + 15), .ref (x + 16), .int (nI n_14), .long v_11, .ref (x + 17), .ref (x + 18), .ref (x + 19), .ref (x + 20), .ref (x + 21), .ref (x + 22), .int (nI n_15), .ref (x + 23), .ref (x + 24), .int (nI tk), .ref (x + 25), .int 0, .int (nI n_10), .int (nI er_1), .int (nI s_1), .int v_6, .int (nI n_11), .int v_8, .long v_9]) := fset_at hΦ6
      have hI12 : Im G x (NN, (NNq c0), (CaQ fl Fs), (TpQ tk Ft), (TtQ tk Ft), (SiQ fa), (AtQ fb), (PtQ 0 (fun _ => 0)), (QlQ qu L), fl, 0, le, n_10, 0, qu, v_6, nI er_1, v_8, v_9, n_11, nI s_1, ti, ad, ob, ra, rt, ex, sa, us, tk, 0, me, dr, se, sn) Φ10 := Im.put0 hI11 hΦ6 ⟨n_14, v_11, n_15, rfl, b_77, b_65, b_66, b_67, b_68, b_69, b_70, b_71, b_72, b_73, (show 0 ≤ 700 by omega), b_75, b_76⟩
      refine z_aload_n B dX12_load_62 rfl 1 rfl ?_
      refine z_get (ref := "FlowExporterModel") (C := RX12) (T := TX12) (N := 54) (ci := 14) (v := .int (nI er_1)) B hu_X12_load_X12 rfl 48 (Nat.le_of_ble_eq_true rfl) hv_X12_load_447 rfl h_17 rfl dX12_load_63 ?_
      refine z_if_eq (tgt := 72) B dX12_load_66 rfl (fun h9 => absurd h9 hz9) (fun c_9 => ?_)
      refine z_bipush (v := (-2)) B dX12_load_69 rfl ?_
      exact z_ret_i B dX12_load_71 ⟨⟨_, rfl⟩, rfl, ⟨fl, qu, n_10, v_6, nI er_1, v_8, v_9, n_11, nI s_1, ti, ad, ob, c0, ra, rt, ex, sa, us, tk, Fs, Ft, fa, L, me, dr, se, sn, sq, 0, (Or.inr ⟨er_1, s_1, i_1, c_5, rfl, (txF b_24 (by omega)).trans (txA_e hT1 e_1 (tk_st hT1 hN2) he1.1), he1.1, rfl, rfl, rfl, rfl, rfl⟩), (Or.inr ⟨_, _, _, _, (txF b_24 (by omega)).trans (txA_e hT1 e_1 (tk_st hT1 hN2) he1.1), he1.1, rfl⟩), (Or.inr ⟨_, _, _, _, (txF b_24 (by omega)).trans (txA_e hT1 e_1 (tk_st hT1 hN2) he1.1), he1.1, rfl⟩), (show fl ≤ 12 by omega), (show tk ≤ 24 by omega), (show 1 ≤ rt ∧ rt ≤ 1024 by omega), (Or.inr ⟨_, _, _, _, (txF b_24 (by omega)).trans (txA_e hT1 e_1 (tk_st hT1 hN2) he1.1), he1.1, rfl⟩), hse, hI12⟩, (fun b9 h9 => ((fset_fr hΦ6 (fun h8 => h9 (0) h8 (show 0 = 0 ∨ 0 = 1 ∨ 0 = 2 ∨ 0 = 3 ∨ 0 = 11 ∨ 0 = 12 by decide))).trans ((hF5 b9 (fun j9 h8 h7 => h9 j9 h8 (fq_1254 j9 h7))).trans ((hF3 b9 (fun j9 h8 h7 => h9 j9 h8 (fq_1254 j9 h7))).trans ((hF2 b9 (fun j9 h8 h7 => h9 j9 h8 (fq_1253 j9 h7))).trans ((fset_fr hΦ4 (fun h8 => h9 (0) h8 (show 0 = 0 ∨ 0 = 1 ∨ 0 = 2 ∨ 0 = 3 ∨ 0 = 11 ∨ 0 = 12 by decide))).trans ((fset_fr hΦ3 (fun h8 => h9 (0) h8 (show 0 = 0 ∨ 0 = 1 ∨ 0 = 2 ∨ 0 = 3 ∨ 0 = 11 ∨ 0 = 12 by decide))).trans ((fset_fr hΦ2 (fun h8 => h9 (0) h8 (show 0 = 0 ∨ 0 = 1 ∨ 0 = 2 ∨ 0 = 3 ∨ 0 = 11 ∨ 0 = 12 by decide))).trans ((hF1 b9 (fun j9 h8 h7 => h9 j9 h8 (fq_1243 j9 h7))).trans ((fset_fr hΦ1 (fun h8 => h9 (0) h8 (show 0 = 0 ∨ 0 = 1 ∨ 0 = 2 ∨ 0 = 3 ∨ 0 = 11 ∨ 0 = 12 by decide))).trans rfl))))))))))⟩

section ZLF
variable {p : Program} {l : Launch} {e : Env} {R : Room} {s : State} {m : MethodId} {args : Array Value} {below : List Frame} {meth : Method} {c : Code} {Q : State → Prop} {G : EnvG} {nL pc : Nat} {lv : List (Nat × Value)} {rest : List Value} {Φ : Hm} {sz cells slots : Nat}
variable {cc : ByteArray} {own : String} {ws : List Cond} {ret : Option FieldType} {nm : String}
theorem z_ldcwf (B : Bd p s m args meth c G cc nL own ws ret nm) {index : Nat} {v : UInt32} (hconst : Jvm.Cond.constantFloat own index v ∈ ws) (hdg : decode cc pc = .ok (.ldc_w index, 3)) (k : Z p l e R s m args below meth c Q G nL (pc + 3) lv (.float v :: rest) Φ sz cells slots) : Z p l e R s m args below meth c Q G nL pc lv rest Φ sz cells slots := by
  intro H locs ls hl hP hS T hT X
  obtain ⟨t, a, b⟩ := k H locs ls hl hP hS T hT X
  refine ⟨t, ?_, b⟩
  obtain ⟨k, cf, hk, hcf, hcp⟩ := Cond.constantFloat_spec B.1.2.2.2.1 (B.1.2.2.2.2 _ hconst)
  obtain ⟨k', hk', he⟩ := X.warmed.alike.2.2 _ _ hk
  have hdg' : decode c.code (F0 m pc ls rest).pc = .ok (.ldc_w index, 3) := by rw [B.1.2.1]; exact hdg
  jvm_step X.here [B.1.1, hdg', ldc_w.wp_float (s := T) (f := F0 m pc ls rest) X.here.top hk' (by rw [he]; exact hcf) hcp]
  exact a
end ZLF
theorem gt_nn {u : UInt32} (h : ¬ Op.cmpValue (FP.fcmp u FP.fconst0) .l ≤ 0) : nn32 u := by
  intro e
  apply h
  have h1 : Jvm.FP.Core.fcmp u FP.fconst0 = none := (Jvm.FP.Core.fcmp_none u FP.fconst0).mpr (Or.inl e)
  show Op.cmpValue (Jvm.FP.Core.fcmp u FP.fconst0) .l ≤ 0
  rw [h1]
  decide
theorem rec_up {f : Nat → Int64} {i : Nat} {v : Int64} (h : 0 ≤ f 4) (hv : i = 4 → 0 ≤ v) : 0 ≤ vp_updL f i v 4 := by
  show 0 ≤ (if 4 = i then v else f 4)
  by_cases e : 4 = i
  · rw [if_pos e]
    exact hv e.symm
  · rw [if_neg e]
    exact h

theorem hu_X12_areFields_X12 : ∀ w ∈ u_ws RX12 TX12 54, w ∈ wsX12_areFields := fun _ h => List.mem_cons_of_mem _ (List.mem_append_left _ (List.mem_append_right _ (h)))

theorem hv_X12_areFields_63 : Cond.fieldLink RX12 63 "FlowExporterModel" (TX12 35).2.1 (TX12 35).2.2.1 ∈ wsX12_areFields := List.mem_cons_of_mem _ (List.mem_append_left _ (List.mem_append_left _ (List.mem_of_getElem? (i := 1) rfl)))

set_option maxHeartbeats 4000000 in
set_option maxRecDepth 100000 in
theorem r_areFields (G : EnvG) (l : Launch) (Φ : Hm) (sz x : Nat) (rd : (Nat → Int32) → Prop) (nw : (Nat → Int32) → Prop) (cr : (Nat → Int64) → Prop) (tp : (Nat → Int32) → Prop) (tt : (Nat → Int64) → Prop) (sI : (Nat → Int32) → Prop) (sT : (Nat → Int32) → Prop) (pt : (Nat → Int32) → Prop) (ql : (Nat → Int32) → Prop) (fl : Nat) (pe : Nat) (le : Nat) (nx : Nat) (il : Nat) (qu : Nat) (kn : Int32) (ec : Int32) (nu : Int32) (va : Int64) (st : Nat) (ep : Int32) (ti : Int32) (ad : Int32) (ob : Int64) (ra : Int32) (rt : Nat) (ex : Int32) (sa : Int64) (us : Int64) (tk : Nat) (th : Int32) (me : Int32) (dr : Int32) (se : Int64) (sn : Int64) (q : Nat) (n : Nat) (hx : G.2.2.2 ≤ x) (hI : Im G x (rd, nw, cr, tp, tt, sI, sT, pt, ql, fl, pe, le, nx, il, qu, kn, ec, nu, va, st, ep, ti, ad, ob, ra, rt, ex, sa, us, tk, th, me, dr, se, sn) Φ) (hn : n ≤ 9) (hq : q + 4 * n ≤ 700) (hnw : ∀ f9 : Nat → Int32, nw f9 → NN f9) : Ct G l yX12_areFields wsX12_areFields ({ frames := 1, cells := 0, slots := 0, locals := 25 }) 0 0 [.ref x, .int (nI q), .int (nI n)] Φ sz (fun v Φ1 sz1 => (∃ r9 : Int32, v = some (.int r9) ∧ (r9 = 0 ∨ r9 = 1)) ∧ sz1 = sz ∧ (Im G x (rd, nw, cr, tp, tt, sI, sT, pt, ql, fl, pe, le, nx, il, qu, kn, ec, nu, va, st, ep, ti, ad, ob, ra, rt, ex, sa, us, tk, th, me, dr, se, sn) Φ1) ∧ Fr x (fun j9 => j9 = 17) Φ Φ1) := by
  refine Ct.of (cc := cX12_areFields) (maxL := 6) (ret := (some .boolean)) (by decide) rfl (Nat.le_of_ble_eq_true rfl) ?_
  intro p9 e9 s9 m9 w9 t9 k9 B
  show Z p9 l e9 _ s9 m9 _ w9 t9 k9 _ G 6 0 [(0, .ref x), (1, .int (nI q)), (2, .int (nI n))] [] Φ sz 0 0
  refine z_iconst (v := 0) B dX12_areFields_0 rfl ?_
  refine z_istore_n (lv' := [(3, .int 0), (0, .ref x), (1, .int (nI q)), (2, .int (nI n))]) B dX12_areFields_1 rfl (Nat.le_of_ble_eq_true rfl) rfl ?_
  refine z_iconst (v := 0) B dX12_areFields_2 rfl ?_
  refine z_istore (lv' := [(4, .int 0), (3, .int 0), (0, .ref x), (1, .int (nI q)), (2, .int (nI n))]) B dX12_areFields_3 (Nat.le_of_ble_eq_true rfl) rfl ?_
  refine z_lv [0, 1, 2, 3, 4] rfl ?_
  refine z_loop (α := Nat × Int32) (fun (a9 : Nat × Int32) Φi => Im G x (rd, nw, cr, tp, tt, sI, sT, pt, ql, fl, pe, le, nx, il, qu, kn, ec, nu, va, st, ep, ti, ad, ob, ra, rt, ex, sa, us, tk, th, me, dr, se, sn) Φi ∧ Fr x (fun j9 => j9 = 17) Φ Φi ∧ (a9.1 ≤ 9) ∧ True) (fun a9 => [(4, .int (nI (a9.1))), (3, .int a9.2), (0, .ref x), (1, .int (nI q)), (2, .int (nI n))]) (fun a9 => 9 - a9.1) ?_ (0, 0) ⟨hI, fun _ _ => rfl, (show 0 ≤ 9 by omega), trivial⟩
  rintro ⟨i_1, i_2⟩ Φl1 ⟨hI1, hF1, b_1, -⟩ ih1
  replace hI1 : Im G x (rd, nw, cr, tp, tt, sI, sT, pt, ql, fl, pe, le, nx, il, qu, kn, ec, nu, va, st, ep, ti, ad, ob, ra, rt, ex, sa, us, tk, th, me, dr, se, sn) Φl1 := hI1
  replace b_1 : i_1 ≤ 9 := b_1
  show Z p9 l e9 _ s9 m9 _ w9 t9 k9 _ G 6 5 [(4, .int (nI i_1)), (3, .int i_2), (0, .ref x), (1, .int (nI q)), (2, .int (nI n))] [] Φl1 _ _ _
  refine z_iload B dX12_areFields_5 0 rfl ?_
  refine z_iload_n B dX12_areFields_7 rfl 4 rfl ?_
  refine z_icmp_ge (tgt := 95) B dX12_areFields_8 rfl (fun c_1 => ?_) (fun c_1 => ?_)
  · have e_1 : n ≤ i_1 := (nI_leI (a := n) (b := i_1) (by omega) (by omega)).mp c_1
    refine z_iconst (v := 1) B dX12_areFields_95 rfl ?_
    exact z_ret_z B dX12_areFields_96 (by decide) ⟨⟨_, rfl, by decide⟩, rfl, hI1, (fun b9 h9 => ((hF1 b9 h9).trans rfl))⟩
  · have e_2 : ¬ (n ≤ i_1) := fun h9 => c_1 ((nI_leI (a := n) (b := i_1) (by omega) (by omega)).mpr h9)
    refine z_aload_n B dX12_areFields_11 rfl 2 rfl ?_
    refine z_iload_n B dX12_areFields_12 rfl 3 rfl ?_
    refine z_iconst (v := 4) B dX12_areFields_13 rfl ?_
    refine z_iload B dX12_areFields_14 0 rfl ?_
    refine z_imul B dX12_areFields_16 ?_
    refine z_top (st1 := [.int (nI (4 * i_1)), .int (nI q), .ref x]) (congrArg (fun w9 : Int32 => ([.int w9, .int (nI q), .ref x] : List Value)) (nI_mul 4 i_1)) ?_
    refine z_iadd B dX12_areFields_17 ?_
    refine z_top (st1 := [.int (nI (q + 4 * i_1)), .ref x]) (congrArg (fun w9 : Int32 => ([.int w9, .ref x] : List Value)) (nI_add q (4 * i_1))) ?_
    refine z_iconst (v := 2) B dX12_areFields_18 rfl ?_
    obtain ⟨n_1, v_1, n_2, h_1, b_14, b_2, b_3, b_4, b_5, b_6, b_7, b_8, b_9, b_10, b_11, b_12, b_13⟩ := im0 hI1
    replace b_2 : 1 ≤ rt := b_2
    replace b_3 : rt ≤ 1024 := b_3
    replace b_4 : fl ≤ 12 := b_4
    replace b_5 : pe ≤ 24 := b_5
    replace b_6 : le ≤ 700 := b_6
    replace b_7 : qu ≤ 12 := b_7
    replace b_8 : n_1 ≤ 8 := b_8
    replace b_9 : n_2 ≤ 24 := b_9
    replace b_10 : tk ≤ 24 := b_10
    replace b_11 : il ≤ 700 := b_11
    replace b_12 : nx ≤ 701 := b_12
    replace b_13 : st ≤ 701 := b_13
    have h_2 : Φl1 x = some (o_ 14 [.int th, .ref (x + 1), .ref (x + 2), .int ti, .int ra, .int (nI rt), .int ex, .int ad, .ref (x + 3), .ref (x + 4), .int me, .long se, .ref (x + 5), .int (nI fl), .int dr, .long ob, .long sa, .long sn, .long us, .ref (x + 6), .ref (x + 7), .int (nI pe), .ref (x + 8), .int (nI le), .ref (x + 9), .ref (x + 10), .int (nI qu), .ref (x + 11), .ref (x + 12), .ref (x + 13), .ref (x + 14), .ref (x + 15), .ref (x + 16), .int (nI n_1), .long v_1, .ref (x + 17), .ref (x + 18), .ref (x + 19), .ref (x + 20), .ref (x + 21), .ref (x + 22), .int (nI n_2), .ref (x + 23), .ref (x + 24), .int (nI tk), .ref (x + 25), .int (nI il), .int (nI nx), .int ec, .int ep, .int kn, .int (nI st), .int nu, .long va]) := h_1
    refine z_callV (As := [.int (nI (q + 4 * i_1)), .int 2]) (rest := []) B (r_get G l Φl1 sz x rd nw cr tp tt sI sT pt ql fl pe le nx il qu kn ec nu va st ep ti ad ob ra rt ex sa us tk th me dr se sn (q + 4 * i_1) 2 hx hI1 (show 2 ≤ 8 by omega) (show (q + 4 * i_1) + 2 ≤ 700 by omega) hnw) (cwV 2 B.1.2.2.2.2 gX12_areFields_X12_get rfl rfl rfl (by decide +kernel) ⟨Nat.le_of_ble_eq_true rfl, Nat.le_of_ble_eq_true rfl⟩) h_2 rfl rfl rfl rfl (Nat.le_of_ble_eq_true rfl) dX12_areFields_19 ⟨Nat.le_of_ble_eq_true rfl, Nat.le_of_ble_eq_true rfl⟩ (fun r_1 Φ1 sz1 st1 hp1 hs1 => ?_)
    obtain ⟨⟨v_2, rfl, q_1⟩, hq1, hI2, hF2⟩ := hp1
    subst sz1
    replace hs1 : st1 = [.long v_2] := hs1
    subst st1
    replace q_1 : np 2 v_2 := q_1
    replace hI2 : Im G x (rd, nw, cr, tp, tt, sI, sT, pt, ql, fl, pe, le, nx, il, qu, kn, ec, nu, va, st, ep, ti, ad, ob, ra, rt, ex, sa, us, tk, th, me, dr, se, sn) Φ1 := hI2
    refine z_l2i (v := v_2.toInt32) B dX12_areFields_22 rfl ?_
    obtain ⟨n_3, b_15, e_3, -⟩ := np2 q_1
    refine z_top (st1 := [.int (nI n_3)]) (congrArg (fun w9 : Int32 => ([.int w9] : List Value)) (e_3)) ?_
    refine z_istore (lv' := [(5, .int (nI n_3)), (4, .int (nI i_1)), (3, .int i_2), (0, .ref x), (1, .int (nI q)), (2, .int (nI n))]) B dX12_areFields_23 (Nat.le_of_ble_eq_true rfl) rfl ?_
    refine z_iload B dX12_areFields_25 0 rfl ?_
    refine z_i2l (v := (nI n_3).toInt64) B dX12_areFields_27 rfl ?_
    refine z_lconst (v := 0) B dX12_areFields_28 rfl ?_
    refine z_ldc2 (v := 8) B (by decide +kernel) dX12_areFields_29 ?_
    by_cases hR1 : inP ((nI n_3).toInt64) 0 8
    · have e_4 := (in_nat (m := n_3) (L := 0) (H := 8) (by decide) (by decide) (by omega)).mp hR1
      refine z_callS (As := [.long ((nI n_3).toInt64), .long 0, .long 8]) (rest := []) B (c_inR1 G l Φ1 sz ((nI n_3).toInt64) 0 8 hR1 (fun v8 Φ8 sz8 => v8 = some (.int 1) ∧ sz8 = sz ∧ Im G x (rd, nw, cr, tp, tt, sI, sT, pt, ql, fl, pe, le, nx, il, qu, kn, ec, nu, va, st, ep, ti, ad, ob, ra, rt, ex, sa, us, tk, th, me, dr, se, sn) Φ8 ∧ Fr x (fun j9 => False) Φ1 Φ8) ⟨rfl, rfl, hI2, fun _ _ => rfl⟩) (va_cwS 3 B.1.2.2.2.2 gX12_areFields_X12_inRange rfl rfl rfl (by decide +kernel) ⟨Nat.le_of_ble_eq_true rfl, Nat.le_of_ble_eq_true rfl⟩) rfl rfl (Nat.le_of_ble_eq_true rfl) dX12_areFields_32 ⟨Nat.le_of_ble_eq_true rfl, Nat.le_of_ble_eq_true rfl⟩ (fun r_2 Φ2 sz2 st2 hp2 hs2 => ?_)
      obtain ⟨rfl, hq2, hI3, hF3⟩ := hp2
      subst sz2
      replace hs2 : st2 = [.int 1] := hs2
      subst st2
      refine z_if_eq (tgt := 71) B dX12_areFields_35 rfl (fun h9 => absurd h9 (by decide)) (fun c_2 => ?_)
      refine z_aload_n B dX12_areFields_38 rfl 3 rfl ?_
      refine z_iload_n B dX12_areFields_39 rfl 4 rfl ?_
      refine z_iconst (v := 4) B dX12_areFields_40 rfl ?_
      refine z_iload B dX12_areFields_41 1 rfl ?_
      refine z_imul B dX12_areFields_43 ?_
      refine z_top (st1 := [.int (nI (4 * i_1)), .int (nI q), .ref x]) (congrArg (fun w9 : Int32 => ([.int w9, .int (nI q), .ref x] : List Value)) (nI_mul 4 i_1)) ?_
      refine z_iadd B dX12_areFields_44 ?_
      refine z_top (st1 := [.int (nI (q + 4 * i_1)), .ref x]) (congrArg (fun w9 : Int32 => ([.int w9, .ref x] : List Value)) (nI_add q (4 * i_1))) ?_
      refine z_iconst (v := 2) B dX12_areFields_45 rfl ?_
      refine z_iadd B dX12_areFields_46 ?_
      refine z_top (st1 := [.int (nI (q + 4 * i_1 + 2)), .ref x]) (congrArg (fun w9 : Int32 => ([.int w9, .ref x] : List Value)) (nI_add (q + 4 * i_1) 2)) ?_
      refine z_iconst (v := 2) B dX12_areFields_47 rfl ?_
      have h_3 : Φ2 x = some (o_ 14 [.int th, .ref (x + 1), .ref (x + 2), .int ti, .int ra, .int (nI rt), .int ex, .int ad, .ref (x + 3), .ref (x + 4), .int me, .long se, .ref (x + 5), .int (nI fl), .int dr, .long ob, .long sa, .long sn, .long us, .ref (x + 6), .ref (x + 7), .int (nI pe), .ref (x + 8), .int (nI le), .ref (x + 9), .ref (x + 10), .int (nI qu), .ref (x + 11), .ref (x + 12), .ref (x + 13), .ref (x + 14), .ref (x + 15), .ref (x + 16), .int (nI n_1), .long v_1, .ref (x + 17), .ref (x + 18), .ref (x + 19), .ref (x + 20), .ref (x + 21), .ref (x + 22), .int (nI n_2), .ref (x + 23), .ref (x + 24), .int (nI tk), .ref (x + 25), .int (nI il), .int (nI nx), .int ec, .int ep, .int kn, .int (nI st), .int nu, .long va]) := ((hF3 x (fun j9 h8 h7 => (show False from h7).elim)).trans ((hF2 x (fun j9 h8 h7 => (show False from h7).elim)).trans h_2))
      refine z_callV (As := [.int (nI (q + 4 * i_1 + 2)), .int 2]) (rest := []) B (r_get G l Φ2 sz x rd nw cr tp tt sI sT pt ql fl pe le nx il qu kn ec nu va st ep ti ad ob ra rt ex sa us tk th me dr se sn (q + 4 * i_1 + 2) 2 hx hI3 (show 2 ≤ 8 by omega) (show (q + 4 * i_1 + 2) + 2 ≤ 700 by omega) hnw) (cwV 2 B.1.2.2.2.2 gX12_areFields_X12_get rfl rfl rfl (by decide +kernel) ⟨Nat.le_of_ble_eq_true rfl, Nat.le_of_ble_eq_true rfl⟩) h_3 rfl rfl rfl rfl (Nat.le_of_ble_eq_true rfl) dX12_areFields_48 ⟨Nat.le_of_ble_eq_true rfl, Nat.le_of_ble_eq_true rfl⟩ (fun r_3 Φ3 sz3 st3 hp3 hs3 => ?_)
      obtain ⟨⟨v_3, rfl, q_2⟩, hq3, hI4, hF4⟩ := hp3
      subst sz3
      replace hs3 : st3 = [.long v_3] := hs3
      subst st3
      replace q_2 : np 2 v_3 := q_2
      replace hI4 : Im G x (rd, nw, cr, tp, tt, sI, sT, pt, ql, fl, pe, le, nx, il, qu, kn, ec, nu, va, st, ep, ti, ad, ob, ra, rt, ex, sa, us, tk, th, me, dr, se, sn) Φ3 := hI4
      refine z_iload B dX12_areFields_51 0 rfl ?_
      refine z_callS (As := [.int (nI n_3)]) (rest := [.long v_3]) B (r_lengthOf G l Φ3 sz x rd nw cr tp tt sI sT pt ql fl pe le nx il qu kn ec nu va st ep ti ad ob ra rt ex sa us tk th me dr se sn n_3 hx hI4 (show n_3 < 2 ^ 31 by omega) hnw) (va_cwS 1 B.1.2.2.2.2 gX12_areFields_X12_lengthOf rfl rfl rfl (by decide +kernel) ⟨Nat.le_of_ble_eq_true rfl, Nat.le_of_ble_eq_true rfl⟩) rfl rfl (Nat.le_of_ble_eq_true rfl) dX12_areFields_53 ⟨Nat.le_of_ble_eq_true rfl, Nat.le_of_ble_eq_true rfl⟩ (fun r_4 Φ4 sz4 st4 hp4 hs4 => ?_)
      obtain ⟨rfl, hq4, hI5, hF5⟩ := hp4
      subst sz4
      replace hs4 : st4 = [.int (nI (lnN n_3)), .long v_3] := hs4
      subst st4
      have b_16 := lnN_pos n_3
      have b_17 := lnN_le n_3
      replace hI5 : Im G x (rd, nw, cr, tp, tt, sI, sT, pt, ql, fl, pe, le, nx, il, qu, kn, ec, nu, va, st, ep, ti, ad, ob, ra, rt, ex, sa, us, tk, th, me, dr, se, sn) Φ4 := hI5
      refine z_i2l (v := (nI (lnN n_3)).toInt64) B dX12_areFields_56 rfl ?_
      refine z_lcmp B dX12_areFields_57 ?_
      refine z_fi (fun v_4 => ?_)
      refine z_if_ne (tgt := 71) B dX12_areFields_58 rfl (fun c_3 => ?_) (fun c_3 => ?_)
      · refine z_iconst (v := 0) B dX12_areFields_71 rfl ?_
        exact z_ret_z B dX12_areFields_72 (by decide) ⟨⟨_, rfl, by decide⟩, rfl, hI5, (fun b9 h9 => ((hF5 b9 (fun j9 h8 h7 => (show False from h7).elim)).trans ((hF4 b9 (fun j9 h8 h7 => (show False from h7).elim)).trans ((hF3 b9 (fun j9 h8 h7 => (show False from h7).elim)).trans ((hF2 b9 (fun j9 h8 h7 => (show False from h7).elim)).trans ((hF1 b9 h9).trans rfl))))))⟩
      · refine z_iload_n B dX12_areFields_61 rfl 2 rfl ?_
        refine z_iload B dX12_areFields_62 0 rfl ?_
        refine z_ishr B dX12_areFields_64 ?_
        refine z_fi (fun v_5 => ?_)
        refine z_iconst (v := 1) B dX12_areFields_65 rfl ?_
        refine z_iand B dX12_areFields_66 ?_
        refine z_fi (fun v_6 => ?_)
        refine z_iconst (v := 1) B dX12_areFields_67 rfl ?_
        refine z_icmp_ne (tgt := 73) B dX12_areFields_68 rfl (fun c_4 => ?_) (fun c_4 => ?_)
        · refine z_iload_n B dX12_areFields_73 rfl 2 rfl ?_
          refine z_iconst (v := 1) B dX12_areFields_74 rfl ?_
          refine z_iload B dX12_areFields_75 0 rfl ?_
          refine z_ishl B dX12_areFields_77 ?_
          refine z_fi (fun v_7 => ?_)
          refine z_ior B dX12_areFields_78 ?_
          refine z_fi (fun v_8 => ?_)
          refine z_istore_n (lv' := [(3, .int v_8), (5, .int (nI n_3)), (4, .int (nI i_1)), (0, .ref x), (1, .int (nI q)), (2, .int (nI n))]) B dX12_areFields_79 rfl (Nat.le_of_ble_eq_true rfl) rfl ?_
          refine z_aload_n B dX12_areFields_80 rfl 3 rfl ?_
          have h_4 : Φ4 x = some (o_ 14 [.int th, .ref (x + 1), .ref (x + 2), .int ti, .int ra, .int (nI rt), .int ex, .int ad, .ref (x + 3), .ref (x + 4), .int me, .long se, .ref (x + 5), .int (nI fl), .int dr, .long ob, .long sa, .long sn, .long us, .ref (x + 6), .ref (x + 7), .int (nI pe), .ref (x + 8), .int (nI le), .ref (x + 9), .ref (x + 10), .int (nI qu), .ref (x + 11), .ref (x + 12), .ref (x + 13), .ref (x + 14), .ref (x + 15), .ref (x + 16), .int (nI n_1), .long v_1, .ref (x + 17), .ref (x + 18), .ref (x + 19), .ref (x + 20), .ref (x + 21), .ref (x + 22), .int (nI n_2), .ref (x + 23), .ref (x + 24), .int (nI tk), .ref (x + 25), .int (nI il), .int (nI nx), .int ec, .int ep, .int kn, .int (nI st), .int nu, .long va]) := ((hF5 x (fun j9 h8 h7 => (show False from h7).elim)).trans ((hF4 x (fun j9 h8 h7 => (show False from h7).elim)).trans h_3))
          refine z_get (ref := "FlowExporterModel") (C := RX12) (T := TX12) (N := 54) (ci := 14) (v := .ref (x + 17)) B hu_X12_areFields_X12 rfl 35 (Nat.le_of_ble_eq_true rfl) hv_X12_areFields_63 rfl h_4 rfl dX12_areFields_81 ?_
          refine z_iload B dX12_areFields_84 2 rfl ?_
          refine z_iload B dX12_areFields_86 1 rfl ?_
          obtain ⟨f_1, h_5, r_5⟩ := imk (k := 17) hI5
          replace r_5 : Rw 8 f_1 := r_5
          have h_6 : Φ4 (x + 17) = some (ai_ G 9 f_1) := h_5
          refine z_iast B h_6 (Nat.le_trans hx (Nat.le_add_right x 17)) (vp_in_nI (by omega) (by omega)) dX12_areFields_88 (fun Φ5 hΦ1 => ?_)
          have h_7 : Φ5 (x + 17) = some (ai_ G 9 (upd f_1 (nI i_1).toNatClampNeg (nI n_3))) := fset_at hΦ1
          have hI6 : Im G x (rd, nw, cr, tp, tt, sI, sT, pt, ql, fl, pe, le, nx, il, qu, kn, ec, nu, va, st, ep, ti, ad, ob, ra, rt, ex, sa, us, tk, th, me, dr, se, sn) Φ5 := Im.put (k := 17) hI5 hΦ1 ⟨_, rfl, Rw.up (n := n_3) r_5 (show n_3 ≤ 8 by omega)⟩
          refine z_iinc (k := 2) (v := nI (i_1 + 1)) (lv' := [(4, .int (nI (i_1 + 1))), (3, .int v_8), (5, .int (nI n_3)), (0, .ref x), (1, .int (nI q)), (2, .int (nI n))]) B dX12_areFields_89 rfl (nI_add i_1 1) (Nat.le_of_ble_eq_true rfl) rfl ?_
          refine z_goto (tgt := 5) B dX12_areFields_92 rfl ?_
          refine z_lv [0, 1, 3, 4, 5] rfl ?_
          exact ih1 (i_1 + 1, v_8) Φ5 (show 9 - (i_1 + 1) < 9 - i_1 by omega) ⟨hI6, (fun b9 h9 => ((fset_fr hΦ1 (fun h8 => h9 (17) h8 (show 17 = 17 by decide))).trans ((hF5 b9 (fun j9 h8 h7 => (show False from h7).elim)).trans ((hF4 b9 (fun j9 h8 h7 => (show False from h7).elim)).trans ((hF3 b9 (fun j9 h8 h7 => (show False from h7).elim)).trans ((hF2 b9 (fun j9 h8 h7 => (show False from h7).elim)).trans ((hF1 b9 h9).trans rfl))))))), (show (i_1 + 1) ≤ 9 by omega), trivial⟩
        · refine z_iconst (v := 0) B dX12_areFields_71 rfl ?_
          exact z_ret_z B dX12_areFields_72 (by decide) ⟨⟨_, rfl, by decide⟩, rfl, hI5, (fun b9 h9 => ((hF5 b9 (fun j9 h8 h7 => (show False from h7).elim)).trans ((hF4 b9 (fun j9 h8 h7 => (show False from h7).elim)).trans ((hF3 b9 (fun j9 h8 h7 => (show False from h7).elim)).trans ((hF2 b9 (fun j9 h8 h7 => (show False from h7).elim)).trans ((hF1 b9 h9).trans rfl))))))⟩
    · have e_7 := fun h9 => hR1 ((in_nat (m := n_3) (L := 0) (H := 8) (by decide) (by decide) (by omega)).mpr h9)
      refine z_callS (As := [.long ((nI n_3).toInt64), .long 0, .long 8]) (rest := []) B (c_inR0 G l Φ1 sz ((nI n_3).toInt64) 0 8 hR1 (fun v8 Φ8 sz8 => v8 = some (.int 0) ∧ sz8 = sz ∧ Im G x (rd, nw, cr, tp, tt, sI, sT, pt, ql, fl, pe, le, nx, il, qu, kn, ec, nu, va, st, ep, ti, ad, ob, ra, rt, ex, sa, us, tk, th, me, dr, se, sn) Φ8 ∧ Fr x (fun j9 => False) Φ1 Φ8) ⟨rfl, rfl, hI2, fun _ _ => rfl⟩) (va_cwS 3 B.1.2.2.2.2 gX12_areFields_X12_inRange rfl rfl rfl (by decide +kernel) ⟨Nat.le_of_ble_eq_true rfl, Nat.le_of_ble_eq_true rfl⟩) rfl rfl (Nat.le_of_ble_eq_true rfl) dX12_areFields_32 ⟨Nat.le_of_ble_eq_true rfl, Nat.le_of_ble_eq_true rfl⟩ (fun r_6 Φ6 sz5 st5 hp5 hs5 => ?_)
      obtain ⟨rfl, hq5, hI7, hF6⟩ := hp5
      subst sz5
      replace hs5 : st5 = [.int 0] := hs5
      subst st5
      refine z_if_eq (tgt := 71) B dX12_areFields_35 rfl (fun c_5 => ?_) (fun h9 => absurd (by decide) h9)
      refine z_iconst (v := 0) B dX12_areFields_71 rfl ?_
      exact z_ret_z B dX12_areFields_72 (by decide) ⟨⟨_, rfl, by decide⟩, rfl, hI7, (fun b9 h9 => ((hF6 b9 (fun j9 h8 h7 => (show False from h7).elim)).trans ((hF2 b9 (fun j9 h8 h7 => (show False from h7).elim)).trans ((hF1 b9 h9).trans rfl))))⟩

theorem fq_1257 : ∀ j9 : Nat, (j9 = 17) → (j9 = 12 ∨ j9 = 13 ∨ j9 = 14 ∨ j9 = 17) := by
  intro j9 h
  omega

theorem fq_1258 {x : Nat} : ∀ j9 : Nat, x = x + j9 → (j9 = 17) → False := by
  intro j9 h1 h2
  omega

theorem hu_X12_readTemplates_X12 : ∀ w ∈ u_ws RX12 TX12 54, w ∈ wsX12_readTemplates := fun _ h => List.mem_cons_of_mem _ (List.mem_append_left _ (List.mem_append_right _ (h)))

theorem hv_X12_readTemplates_48 : Cond.fieldLink RX12 48 "FlowExporterModel" (TX12 28).2.1 (TX12 28).2.2.1 ∈ wsX12_readTemplates := List.mem_cons_of_mem _ (List.mem_append_left _ (List.mem_append_left _ (List.mem_append_left _ (List.mem_of_getElem? (i := 3) rfl))))

theorem hv_X12_readTemplates_54 : Cond.fieldLink RX12 54 "FlowExporterModel" (TX12 30).2.1 (TX12 30).2.2.1 ∈ wsX12_readTemplates := List.mem_cons_of_mem _ (List.mem_append_left _ (List.mem_append_left _ (List.mem_append_left _ (List.mem_of_getElem? (i := 4) rfl))))

theorem hv_X12_readTemplates_101 : Cond.fieldLink RX12 101 "FlowExporterModel" (TX12 3).2.1 (TX12 3).2.2.1 ∈ wsX12_readTemplates := List.mem_cons_of_mem _ (List.mem_append_left _ (List.mem_append_left _ (List.mem_append_left _ (List.mem_of_getElem? (i := 5) rfl))))

theorem fq_1263 : ∀ j9 : Nat, (j9 = 13) → (j9 = 12 ∨ j9 = 13 ∨ j9 = 14 ∨ j9 = 17) := by
  intro j9 h
  omega

theorem fq_1264 {x : Nat} : ∀ j9 : Nat, x = x + j9 → (j9 = 13) → False := by
  intro j9 h1 h2
  omega

theorem hv_X12_readTemplates_51 : Cond.fieldLink RX12 51 "FlowExporterModel" (TX12 29).2.1 (TX12 29).2.2.1 ∈ wsX12_readTemplates := List.mem_cons_of_mem _ (List.mem_append_left _ (List.mem_append_left _ (List.mem_append_left _ (List.mem_of_getElem? (i := 6) rfl))))

theorem hv_X12_readTemplates_63 : Cond.fieldLink RX12 63 "FlowExporterModel" (TX12 35).2.1 (TX12 35).2.2.1 ∈ wsX12_readTemplates := List.mem_cons_of_mem _ (List.mem_append_left _ (List.mem_append_left _ (List.mem_append_left _ (List.mem_of_getElem? (i := 7) rfl))))

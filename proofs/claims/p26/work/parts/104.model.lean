set_option maxRecDepth 20000 in
theorem ggX12_readStatement_X12_fail : GoodIn wsX12_readStatement wsX12_fail := (goodIn_ca (goodIn_r _ [9, 10, 11, 12] rfl (by decide +kernel)) (goodIn_sub (fun _ h => List.mem_cons_of_mem _ (List.mem_append_left _ (List.mem_append_right _ h))) gw_wsX120))
set_option maxRecDepth 20000 in
theorem gX12_readStatement_X12_fail : GoodIn wsX12_readStatement (wsV RX12 483 RX12 yX12_fail wsX12_fail) := goodIn_app (goodIn_m (mem_cA (List.mem_cons_of_mem _ (List.mem_append_left _ (List.mem_append_left _ (List.mem_append_left _ (List.mem_of_getElem? (i := 4) rfl))))) (mem_cA (List.mem_cons_of_mem _ (List.mem_append_left _ (List.mem_append_left _ (List.mem_append_left _ (List.mem_of_getElem? (i := 5) rfl))))) (mem_cA (List.mem_cons_of_mem _ (List.mem_append_left _ (List.mem_append_left _ (List.mem_append_left _ (List.mem_of_getElem? (i := 6) rfl))))) (mem_cA (List.mem_cons_of_mem _ (List.mem_append_left _ (List.mem_append_left _ (List.mem_append_left _ (List.mem_of_getElem? (i := 7) rfl))))) mem_cZ)))) (by decide +kernel)) ggX12_readStatement_X12_fail
set_option maxRecDepth 20000 in
theorem ggX12_readStatement_X12_pack : GoodIn wsX12_readStatement wsX12_pack := (goodIn_r _ [15, 16, 17] rfl (by decide +kernel))
set_option maxRecDepth 20000 in
theorem gX12_readStatement_X12_pack : GoodIn wsX12_readStatement (va_wsS RX12 495 yX12_pack wsX12_pack) := goodIn_app (goodIn_m (mem_cA (List.mem_cons_of_mem _ (List.mem_append_left _ (List.mem_append_left _ (List.mem_append_left _ (List.mem_of_getElem? (i := 12) rfl))))) (mem_cA (List.mem_cons_of_mem _ (List.mem_append_left _ (List.mem_append_left _ (List.mem_append_left _ (List.mem_of_getElem? (i := 13) rfl))))) (mem_cA (List.mem_cons_of_mem _ (List.mem_append_left _ (List.mem_append_left _ (List.mem_append_left _ (List.mem_of_getElem? (i := 7) rfl))))) mem_cZ))) (by decide +kernel)) ggX12_readStatement_X12_pack
set_option maxRecDepth 20000 in
theorem ggX12_readStatement_X12_readSetting : GoodIn wsX12_readStatement wsX12_readSetting := goodIn_ca ((goodIn_ca (goodIn_r _ [21, 22, 23, 24, 8, 25, 26, 11, 2, 1, 17, 16, 27, 28, 29, 30, 31, 32, 33, 34, 35, 36, 37, 38, 39, 40, 41, 42, 43, 44, 45, 46, 47, 48, 49, 50, 51, 52, 53, 54, 55, 56, 5, 6, 7, 9, 10, 12, 57, 58, 59, 60] rfl (by decide +kernel)) (goodIn_sub (fun _ h => List.mem_cons_of_mem _ (List.mem_append_left _ (List.mem_append_right _ h))) gw_wsX120))) (goodIn_sub (fun _ h => List.mem_cons_of_mem _ (List.mem_append_right _ h)) (all_fg _))
set_option maxRecDepth 20000 in
theorem gX12_readStatement_X12_readSetting : GoodIn wsX12_readStatement (wsV RX12 514 RX12 yX12_readSetting wsX12_readSetting) := goodIn_app (goodIn_m (mem_cA (List.mem_cons_of_mem _ (List.mem_append_left _ (List.mem_append_left _ (List.mem_append_left _ (List.mem_of_getElem? (i := 17) rfl))))) (mem_cA (List.mem_cons_of_mem _ (List.mem_append_left _ (List.mem_append_left _ (List.mem_append_left _ (List.mem_of_getElem? (i := 18) rfl))))) (mem_cA (List.mem_cons_of_mem _ (List.mem_append_left _ (List.mem_append_left _ (List.mem_append_left _ (List.mem_of_getElem? (i := 19) rfl))))) (mem_cA (List.mem_cons_of_mem _ (List.mem_append_left _ (List.mem_append_left _ (List.mem_append_left _ (List.mem_of_getElem? (i := 7) rfl))))) mem_cZ)))) (by decide +kernel)) ggX12_readStatement_X12_readSetting
set_option maxRecDepth 20000 in
theorem ggX12_readStatement_X12_readTemplate : GoodIn wsX12_readStatement wsX12_readTemplate := goodIn_ca ((goodIn_ca (goodIn_r _ [64, 51, 5, 6, 7, 8, 9, 10, 11, 12, 22, 23, 24, 25, 26, 2, 1, 17, 16, 27, 28, 29, 30, 31, 32, 33, 34, 35, 36, 37, 38, 39, 40, 41, 42, 43, 44, 45, 46, 65, 66, 67, 68, 69, 3, 13, 14, 15, 57, 58, 59, 60] rfl (by decide +kernel)) (goodIn_sub (fun _ h => List.mem_cons_of_mem _ (List.mem_append_left _ (List.mem_append_right _ h))) gw_wsX120))) (goodIn_sub (fun _ h => List.mem_cons_of_mem _ (List.mem_append_right _ h)) (all_fg _))
set_option maxRecDepth 20000 in
theorem gX12_readStatement_X12_readTemplate : GoodIn wsX12_readStatement (wsV RX12 518 RX12 yX12_readTemplate wsX12_readTemplate) := goodIn_app (goodIn_m (mem_cA (List.mem_cons_of_mem _ (List.mem_append_left _ (List.mem_append_left _ (List.mem_append_right _ (List.mem_append_right _ (List.mem_append_left _ (List.mem_of_getElem? (i := 12) rfl))))))) (mem_cA (List.mem_cons_of_mem _ (List.mem_append_left _ (List.mem_append_left _ (List.mem_append_right _ (List.mem_append_right _ (List.mem_append_left _ (List.mem_of_getElem? (i := 13) rfl))))))) (mem_cA (List.mem_cons_of_mem _ (List.mem_append_left _ (List.mem_append_left _ (List.mem_append_right _ (List.mem_append_right _ (List.mem_append_left _ (List.mem_of_getElem? (i := 14) rfl))))))) (mem_cA (List.mem_cons_of_mem _ (List.mem_append_left _ (List.mem_append_left _ (List.mem_append_left _ (List.mem_of_getElem? (i := 7) rfl))))) mem_cZ)))) (by decide +kernel)) ggX12_readStatement_X12_readTemplate
set_option maxRecDepth 20000 in
theorem ggX12_readStatement_X12_readUse : GoodIn wsX12_readStatement wsX12_readUse := goodIn_ca ((goodIn_ca (goodIn_r _ [73, 52, 51, 22, 23, 24, 8, 25, 26, 11, 2, 1, 17, 16, 27, 28, 29, 30, 31, 32, 33, 34, 35, 36, 37, 38, 39, 40, 41, 42, 43, 44, 45, 46, 53, 54, 55, 56, 5, 6, 7, 9, 10, 12, 47, 48, 49, 50, 57, 58, 59, 60] rfl (by decide +kernel)) (goodIn_sub (fun _ h => List.mem_cons_of_mem _ (List.mem_append_left _ (List.mem_append_right _ h))) gw_wsX120))) (goodIn_sub (fun _ h => List.mem_cons_of_mem _ (List.mem_append_right _ h)) (all_fg _))
set_option maxRecDepth 20000 in
theorem gX12_readStatement_X12_readUse : GoodIn wsX12_readStatement (wsV RX12 521 RX12 yX12_readUse wsX12_readUse) := goodIn_app (goodIn_m (mem_cA (List.mem_cons_of_mem _ (List.mem_append_left _ (List.mem_append_left _ (List.mem_append_right _ (List.mem_append_right _ (List.mem_append_left _ (List.mem_of_getElem? (i := 21) rfl))))))) (mem_cA (List.mem_cons_of_mem _ (List.mem_append_left _ (List.mem_append_left _ (List.mem_append_right _ (List.mem_append_right _ (List.mem_append_left _ (List.mem_of_getElem? (i := 22) rfl))))))) (mem_cA (List.mem_cons_of_mem _ (List.mem_append_left _ (List.mem_append_left _ (List.mem_append_right _ (List.mem_append_right _ (List.mem_append_left _ (List.mem_of_getElem? (i := 23) rfl))))))) (mem_cA (List.mem_cons_of_mem _ (List.mem_append_left _ (List.mem_append_left _ (List.mem_append_left _ (List.mem_of_getElem? (i := 7) rfl))))) mem_cZ)))) (by decide +kernel)) ggX12_readStatement_X12_readUse
set_option maxRecDepth 20000 in
theorem ggX12_readStatement_X12_readDrop : GoodIn wsX12_readStatement wsX12_readDrop := goodIn_ca ((goodIn_ca (goodIn_r _ [77, 51, 22, 23, 24, 8, 25, 26, 11, 2, 1, 17, 16, 27, 28, 29, 30, 31, 32, 33, 34, 35, 36, 37, 38, 39, 40, 41, 42, 43, 44, 45, 46, 65, 66, 67, 68, 69, 3, 13, 14, 15, 5, 6, 7, 9, 10, 12, 57, 58, 59, 60] rfl (by decide +kernel)) (goodIn_sub (fun _ h => List.mem_cons_of_mem _ (List.mem_append_left _ (List.mem_append_right _ h))) gw_wsX120))) (goodIn_sub (fun _ h => List.mem_cons_of_mem _ (List.mem_append_right _ h)) (all_fg _))
set_option maxRecDepth 20000 in
theorem gX12_readStatement_X12_readDrop : GoodIn wsX12_readStatement (wsV RX12 524 RX12 yX12_readDrop wsX12_readDrop) := goodIn_app (goodIn_m (mem_cA (List.mem_cons_of_mem _ (List.mem_append_left _ (List.mem_append_left _ (List.mem_append_right _ (List.mem_append_right _ (List.mem_append_right _ (List.mem_of_getElem? (i := 1) rfl))))))) (mem_cA (List.mem_cons_of_mem _ (List.mem_append_left _ (List.mem_append_left _ (List.mem_append_right _ (List.mem_append_right _ (List.mem_append_right _ (List.mem_of_getElem? (i := 2) rfl))))))) (mem_cA (List.mem_cons_of_mem _ (List.mem_append_left _ (List.mem_append_left _ (List.mem_append_right _ (List.mem_append_right _ (List.mem_append_right _ (List.mem_of_getElem? (i := 3) rfl))))))) (mem_cA (List.mem_cons_of_mem _ (List.mem_append_left _ (List.mem_append_left _ (List.mem_append_left _ (List.mem_of_getElem? (i := 7) rfl))))) mem_cZ)))) (by decide +kernel)) ggX12_readStatement_X12_readDrop
set_option maxRecDepth 20000 in
theorem ggX12_readStatement_X12_advanceToken : GoodIn wsX12_readStatement wsX12_advanceToken := goodIn_ca ((goodIn_ca (goodIn_r _ [25, 26, 11, 2, 1, 17, 16, 27, 28, 29, 30, 31, 8, 32, 33, 34, 35, 36, 37, 38, 39, 40, 41, 42, 43, 44, 45, 46] rfl (by decide +kernel)) (goodIn_sub (fun _ h => List.mem_cons_of_mem _ (List.mem_append_left _ (List.mem_append_right _ h))) gw_wsX120))) (goodIn_sub (fun _ h => List.mem_cons_of_mem _ (List.mem_append_right _ h)) (all_fg _))
set_option maxRecDepth 20000 in
theorem gX12_readStatement_X12_advanceToken : GoodIn wsX12_readStatement (wsV RX12 489 RX12 yX12_advanceToken wsX12_advanceToken) := goodIn_app (goodIn_m (mem_cA (List.mem_cons_of_mem _ (List.mem_append_left _ (List.mem_append_left _ (List.mem_append_left _ (List.mem_of_getElem? (i := 21) rfl))))) (mem_cA (List.mem_cons_of_mem _ (List.mem_append_left _ (List.mem_append_left _ (List.mem_append_left _ (List.mem_of_getElem? (i := 22) rfl))))) (mem_cA (List.mem_cons_of_mem _ (List.mem_append_left _ (List.mem_append_left _ (List.mem_append_left _ (List.mem_of_getElem? (i := 23) rfl))))) (mem_cA (List.mem_cons_of_mem _ (List.mem_append_left _ (List.mem_append_left _ (List.mem_append_left _ (List.mem_of_getElem? (i := 7) rfl))))) mem_cZ)))) (by decide +kernel)) ggX12_readStatement_X12_advanceToken
set_option maxRecDepth 20000 in
theorem ggX12_readStatement_X12_readInto : GoodIn wsX12_readStatement wsX12_readInto := goodIn_ca ((goodIn_ca (goodIn_r _ [50, 51, 52, 53, 54, 55, 8, 56, 1, 2, 5, 6, 7, 9, 10, 11, 12, 40, 41, 42, 22, 23, 24, 25, 26, 17, 16, 27, 28, 29, 30, 31, 32, 33, 34, 35, 36, 37, 38, 39, 43, 44, 45, 46] rfl (by decide +kernel)) (goodIn_sub (fun _ h => List.mem_cons_of_mem _ (List.mem_append_left _ (List.mem_append_right _ h))) gw_wsX120))) (goodIn_sub (fun _ h => List.mem_cons_of_mem _ (List.mem_append_right _ h)) (all_fg _))
set_option maxRecDepth 20000 in
theorem gX12_readStatement_X12_readInto : GoodIn wsX12_readStatement (wsV RX12 510 RX12 yX12_readInto wsX12_readInto) := goodIn_app (goodIn_m (mem_cA (List.mem_cons_of_mem _ (List.mem_append_left _ (List.mem_append_left _ (List.mem_append_right _ (List.mem_append_left _ (List.mem_of_getElem? (i := 22) rfl)))))) (mem_cA (List.mem_cons_of_mem _ (List.mem_append_left _ (List.mem_append_left _ (List.mem_append_right _ (List.mem_append_left _ (List.mem_of_getElem? (i := 23) rfl)))))) (mem_cA (List.mem_cons_of_mem _ (List.mem_append_left _ (List.mem_append_left _ (List.mem_append_right _ (List.mem_append_right _ (List.mem_append_left _ (List.mem_of_getElem? (i := 0) rfl))))))) (mem_cA (List.mem_cons_of_mem _ (List.mem_append_left _ (List.mem_append_left _ (List.mem_append_left _ (List.mem_of_getElem? (i := 7) rfl))))) mem_cZ)))) (by decide +kernel)) ggX12_readStatement_X12_readInto
set_option maxRecDepth 20000 in
theorem ggX12_readStatement_X12_readEnd : GoodIn wsX12_readStatement wsX12_readEnd := goodIn_ca ((goodIn_ca (goodIn_r _ [60, 1, 5, 6, 7, 8, 9, 10, 11, 12, 22, 23, 24, 25, 26, 2, 17, 16, 27, 28, 29, 30, 31, 32, 33, 34, 35, 36, 37, 38, 39, 40, 41, 42, 43, 44, 45, 46] rfl (by decide +kernel)) (goodIn_sub (fun _ h => List.mem_cons_of_mem _ (List.mem_append_left _ (List.mem_append_right _ h))) gw_wsX120))) (goodIn_sub (fun _ h => List.mem_cons_of_mem _ (List.mem_append_right _ h)) (all_fg _))
set_option maxRecDepth 20000 in
theorem gX12_readStatement_X12_readEnd : GoodIn wsX12_readStatement (wsV RX12 506 RX12 yX12_readEnd wsX12_readEnd) := goodIn_app (goodIn_m (mem_cA (List.mem_cons_of_mem _ (List.mem_append_left _ (List.mem_append_left _ (List.mem_append_right _ (List.mem_append_right _ (List.mem_append_left _ (List.mem_of_getElem? (i := 8) rfl))))))) (mem_cA (List.mem_cons_of_mem _ (List.mem_append_left _ (List.mem_append_left _ (List.mem_append_right _ (List.mem_append_right _ (List.mem_append_left _ (List.mem_of_getElem? (i := 9) rfl))))))) (mem_cA (List.mem_cons_of_mem _ (List.mem_append_left _ (List.mem_append_left _ (List.mem_append_right _ (List.mem_append_right _ (List.mem_append_left _ (List.mem_of_getElem? (i := 10) rfl))))))) (mem_cA (List.mem_cons_of_mem _ (List.mem_append_left _ (List.mem_append_left _ (List.mem_append_left _ (List.mem_of_getElem? (i := 7) rfl))))) mem_cZ)))) (by decide +kernel)) ggX12_readStatement_X12_readEnd
theorem dX12_readStatement_0 : decode cX12_readStatement 0 = .ok (.aload_n 0, 1) := by decide +kernel
theorem dX12_readStatement_1 : decode cX12_readStatement 1 = .ok (.getfield 476, 3) := by decide +kernel
theorem dX12_readStatement_4 : decode cX12_readStatement 4 = .ok (.iconst 1, 1) := by decide +kernel
theorem dX12_readStatement_5 : decode cX12_readStatement 5 = .ok (.if_icmp .eq 9, 3) := by decide +kernel
theorem dX12_readStatement_8 : decode cX12_readStatement 8 = .ok (.aload_n 0, 1) := by decide +kernel
theorem dX12_readStatement_9 : decode cX12_readStatement 9 = .ok (.iconst 1, 1) := by decide +kernel
theorem dX12_readStatement_10 : decode cX12_readStatement 10 = .ok (.invokevirtual 483, 3) := by decide +kernel
theorem dX12_readStatement_13 : decode cX12_readStatement 13 = .ok (.ireturn, 1) := by decide +kernel
theorem dX12_readStatement_14 : decode cX12_readStatement 14 = .ok (.aload_n 0, 1) := by decide +kernel
theorem dX12_readStatement_15 : decode cX12_readStatement 15 = .ok (.getfield 467, 3) := by decide +kernel
theorem dX12_readStatement_18 : decode cX12_readStatement 18 = .ok (.bipush 115, 2) := by decide +kernel
theorem dX12_readStatement_20 : decode cX12_readStatement 20 = .ok (.bipush 97, 2) := by decide +kernel
theorem dX12_readStatement_22 : decode cX12_readStatement 22 = .ok (.bipush 109, 2) := by decide +kernel
theorem dX12_readStatement_24 : decode cX12_readStatement 24 = .ok (.bipush 112, 2) := by decide +kernel
theorem dX12_readStatement_26 : decode cX12_readStatement 26 = .ok (.bipush 108, 2) := by decide +kernel
theorem dX12_readStatement_28 : decode cX12_readStatement 28 = .ok (.iconst 0, 1) := by decide +kernel
theorem dX12_readStatement_29 : decode cX12_readStatement 29 = .ok (.invokestatic 495, 3) := by decide +kernel
theorem dX12_readStatement_32 : decode cX12_readStatement 32 = .ok (.ldc2_w 501, 3) := by decide +kernel
theorem dX12_readStatement_35 : decode cX12_readStatement 35 = .ok (.lmul, 1) := by decide +kernel
theorem dX12_readStatement_36 : decode cX12_readStatement 36 = .ok (.bipush 105, 2) := by decide +kernel
theorem dX12_readStatement_38 : decode cX12_readStatement 38 = .ok (.bipush 110, 2) := by decide +kernel
theorem dX12_readStatement_40 : decode cX12_readStatement 40 = .ok (.bipush 103, 2) := by decide +kernel
theorem dX12_readStatement_42 : decode cX12_readStatement 42 = .ok (.iconst 0, 1) := by decide +kernel
theorem dX12_readStatement_43 : decode cX12_readStatement 43 = .ok (.iconst 0, 1) := by decide +kernel
theorem dX12_readStatement_44 : decode cX12_readStatement 44 = .ok (.iconst 0, 1) := by decide +kernel
theorem dX12_readStatement_45 : decode cX12_readStatement 45 = .ok (.invokestatic 495, 3) := by decide +kernel
theorem dX12_readStatement_48 : decode cX12_readStatement 48 = .ok (.ladd, 1) := by decide +kernel
theorem dX12_readStatement_49 : decode cX12_readStatement 49 = .ok (.lcmp, 1) := by decide +kernel
theorem dX12_readStatement_50 : decode cX12_readStatement 50 = .ok (.ifCond .ne 13, 3) := by decide +kernel
theorem dX12_readStatement_53 : decode cX12_readStatement 53 = .ok (.aload_n 0, 1) := by decide +kernel
theorem dX12_readStatement_54 : decode cX12_readStatement 54 = .ok (.iconst 0, 1) := by decide +kernel
theorem dX12_readStatement_55 : decode cX12_readStatement 55 = .ok (.iconst 1, 1) := by decide +kernel
theorem dX12_readStatement_56 : decode cX12_readStatement 56 = .ok (.sipush 1024, 3) := by decide +kernel
theorem dX12_readStatement_59 : decode cX12_readStatement 59 = .ok (.invokevirtual 514, 3) := by decide +kernel
theorem dX12_readStatement_62 : decode cX12_readStatement 62 = .ok (.ireturn, 1) := by decide +kernel
theorem dX12_readStatement_63 : decode cX12_readStatement 63 = .ok (.aload_n 0, 1) := by decide +kernel
theorem dX12_readStatement_64 : decode cX12_readStatement 64 = .ok (.getfield 467, 3) := by decide +kernel
theorem dX12_readStatement_67 : decode cX12_readStatement 67 = .ok (.bipush 98, 2) := by decide +kernel
theorem dX12_readStatement_69 : decode cX12_readStatement 69 = .ok (.bipush 117, 2) := by decide +kernel
theorem dX12_readStatement_71 : decode cX12_readStatement 71 = .ok (.bipush 100, 2) := by decide +kernel
theorem dX12_readStatement_73 : decode cX12_readStatement 73 = .ok (.bipush 103, 2) := by decide +kernel
theorem dX12_readStatement_75 : decode cX12_readStatement 75 = .ok (.bipush 101, 2) := by decide +kernel
theorem dX12_readStatement_77 : decode cX12_readStatement 77 = .ok (.bipush 116, 2) := by decide +kernel
theorem dX12_readStatement_79 : decode cX12_readStatement 79 = .ok (.invokestatic 495, 3) := by decide +kernel
theorem dX12_readStatement_82 : decode cX12_readStatement 82 = .ok (.lcmp, 1) := by decide +kernel
theorem dX12_readStatement_83 : decode cX12_readStatement 83 = .ok (.ifCond .ne 13, 3) := by decide +kernel
theorem dX12_readStatement_86 : decode cX12_readStatement 86 = .ok (.aload_n 0, 1) := by decide +kernel
theorem dX12_readStatement_87 : decode cX12_readStatement 87 = .ok (.iconst 1, 1) := by decide +kernel
theorem dX12_readStatement_88 : decode cX12_readStatement 88 = .ok (.iconst 1, 1) := by decide +kernel
theorem dX12_readStatement_89 : decode cX12_readStatement 89 = .ok (.sipush 1000, 3) := by decide +kernel
theorem dX12_readStatement_92 : decode cX12_readStatement 92 = .ok (.invokevirtual 514, 3) := by decide +kernel
theorem dX12_readStatement_95 : decode cX12_readStatement 95 = .ok (.ireturn, 1) := by decide +kernel
theorem dX12_readStatement_96 : decode cX12_readStatement 96 = .ok (.aload_n 0, 1) := by decide +kernel
theorem dX12_readStatement_97 : decode cX12_readStatement 97 = .ok (.getfield 467, 3) := by decide +kernel
theorem dX12_readStatement_100 : decode cX12_readStatement 100 = .ok (.bipush 97, 2) := by decide +kernel
theorem dX12_readStatement_102 : decode cX12_readStatement 102 = .ok (.bipush 99, 2) := by decide +kernel
theorem dX12_readStatement_104 : decode cX12_readStatement 104 = .ok (.bipush 116, 2) := by decide +kernel
theorem dX12_readStatement_106 : decode cX12_readStatement 106 = .ok (.bipush 105, 2) := by decide +kernel
theorem dX12_readStatement_108 : decode cX12_readStatement 108 = .ok (.bipush 118, 2) := by decide +kernel
theorem dX12_readStatement_110 : decode cX12_readStatement 110 = .ok (.bipush 101, 2) := by decide +kernel
theorem dX12_readStatement_112 : decode cX12_readStatement 112 = .ok (.invokestatic 495, 3) := by decide +kernel
theorem dX12_readStatement_115 : decode cX12_readStatement 115 = .ok (.lcmp, 1) := by decide +kernel
theorem dX12_readStatement_116 : decode cX12_readStatement 116 = .ok (.ifCond .ne 13, 3) := by decide +kernel
theorem dX12_readStatement_119 : decode cX12_readStatement 119 = .ok (.aload_n 0, 1) := by decide +kernel
theorem dX12_readStatement_120 : decode cX12_readStatement 120 = .ok (.iconst 2, 1) := by decide +kernel
theorem dX12_readStatement_121 : decode cX12_readStatement 121 = .ok (.iconst 1, 1) := by decide +kernel
theorem dX12_readStatement_122 : decode cX12_readStatement 122 = .ok (.sipush 10000, 3) := by decide +kernel
theorem dX12_readStatement_125 : decode cX12_readStatement 125 = .ok (.invokevirtual 514, 3) := by decide +kernel
theorem dX12_readStatement_128 : decode cX12_readStatement 128 = .ok (.ireturn, 1) := by decide +kernel
theorem dX12_readStatement_129 : decode cX12_readStatement 129 = .ok (.aload_n 0, 1) := by decide +kernel
theorem dX12_readStatement_130 : decode cX12_readStatement 130 = .ok (.getfield 467, 3) := by decide +kernel
theorem dX12_readStatement_133 : decode cX12_readStatement 133 = .ok (.bipush 105, 2) := by decide +kernel
theorem dX12_readStatement_135 : decode cX12_readStatement 135 = .ok (.bipush 110, 2) := by decide +kernel
theorem dX12_readStatement_137 : decode cX12_readStatement 137 = .ok (.bipush 97, 2) := by decide +kernel
theorem dX12_readStatement_139 : decode cX12_readStatement 139 = .ok (.bipush 99, 2) := by decide +kernel
theorem dX12_readStatement_141 : decode cX12_readStatement 141 = .ok (.bipush 116, 2) := by decide +kernel
theorem dX12_readStatement_143 : decode cX12_readStatement 143 = .ok (.iconst 0, 1) := by decide +kernel
theorem dX12_readStatement_144 : decode cX12_readStatement 144 = .ok (.invokestatic 495, 3) := by decide +kernel
theorem dX12_readStatement_147 : decode cX12_readStatement 147 = .ok (.ldc2_w 501, 3) := by decide +kernel
theorem dX12_readStatement_150 : decode cX12_readStatement 150 = .ok (.lmul, 1) := by decide +kernel
theorem dX12_readStatement_151 : decode cX12_readStatement 151 = .ok (.bipush 105, 2) := by decide +kernel
theorem dX12_readStatement_153 : decode cX12_readStatement 153 = .ok (.bipush 118, 2) := by decide +kernel
theorem dX12_readStatement_155 : decode cX12_readStatement 155 = .ok (.bipush 101, 2) := by decide +kernel
theorem dX12_readStatement_157 : decode cX12_readStatement 157 = .ok (.iconst 0, 1) := by decide +kernel
theorem dX12_readStatement_158 : decode cX12_readStatement 158 = .ok (.iconst 0, 1) := by decide +kernel
theorem dX12_readStatement_159 : decode cX12_readStatement 159 = .ok (.iconst 0, 1) := by decide +kernel
theorem dX12_readStatement_160 : decode cX12_readStatement 160 = .ok (.invokestatic 495, 3) := by decide +kernel
theorem dX12_readStatement_163 : decode cX12_readStatement 163 = .ok (.ladd, 1) := by decide +kernel
theorem dX12_readStatement_164 : decode cX12_readStatement 164 = .ok (.lcmp, 1) := by decide +kernel
theorem dX12_readStatement_165 : decode cX12_readStatement 165 = .ok (.ifCond .ne 13, 3) := by decide +kernel
theorem dX12_readStatement_168 : decode cX12_readStatement 168 = .ok (.aload_n 0, 1) := by decide +kernel
theorem dX12_readStatement_169 : decode cX12_readStatement 169 = .ok (.iconst 3, 1) := by decide +kernel
theorem dX12_readStatement_170 : decode cX12_readStatement 170 = .ok (.iconst 1, 1) := by decide +kernel
theorem dX12_readStatement_171 : decode cX12_readStatement 171 = .ok (.sipush 10000, 3) := by decide +kernel
theorem dX12_readStatement_174 : decode cX12_readStatement 174 = .ok (.invokevirtual 514, 3) := by decide +kernel
theorem dX12_readStatement_177 : decode cX12_readStatement 177 = .ok (.ireturn, 1) := by decide +kernel
theorem dX12_readStatement_178 : decode cX12_readStatement 178 = .ok (.aload_n 0, 1) := by decide +kernel
theorem dX12_readStatement_179 : decode cX12_readStatement 179 = .ok (.getfield 467, 3) := by decide +kernel
theorem dX12_readStatement_182 : decode cX12_readStatement 182 = .ok (.bipush 108, 2) := by decide +kernel
theorem dX12_readStatement_184 : decode cX12_readStatement 184 = .ok (.bipush 105, 2) := by decide +kernel
theorem dX12_readStatement_186 : decode cX12_readStatement 186 = .ok (.bipush 102, 2) := by decide +kernel
theorem dX12_readStatement_188 : decode cX12_readStatement 188 = .ok (.bipush 101, 2) := by decide +kernel
theorem dX12_readStatement_190 : decode cX12_readStatement 190 = .ok (.bipush 116, 2) := by decide +kernel
theorem dX12_readStatement_192 : decode cX12_readStatement 192 = .ok (.iconst 0, 1) := by decide +kernel
theorem dX12_readStatement_193 : decode cX12_readStatement 193 = .ok (.invokestatic 495, 3) := by decide +kernel
theorem dX12_readStatement_196 : decode cX12_readStatement 196 = .ok (.ldc2_w 501, 3) := by decide +kernel
theorem dX12_readStatement_199 : decode cX12_readStatement 199 = .ok (.lmul, 1) := by decide +kernel
theorem dX12_readStatement_200 : decode cX12_readStatement 200 = .ok (.bipush 105, 2) := by decide +kernel
theorem dX12_readStatement_202 : decode cX12_readStatement 202 = .ok (.bipush 109, 2) := by decide +kernel
theorem dX12_readStatement_204 : decode cX12_readStatement 204 = .ok (.bipush 101, 2) := by decide +kernel
theorem dX12_readStatement_206 : decode cX12_readStatement 206 = .ok (.iconst 0, 1) := by decide +kernel
theorem dX12_readStatement_207 : decode cX12_readStatement 207 = .ok (.iconst 0, 1) := by decide +kernel
theorem dX12_readStatement_208 : decode cX12_readStatement 208 = .ok (.iconst 0, 1) := by decide +kernel
theorem dX12_readStatement_209 : decode cX12_readStatement 209 = .ok (.invokestatic 495, 3) := by decide +kernel
theorem dX12_readStatement_212 : decode cX12_readStatement 212 = .ok (.ladd, 1) := by decide +kernel
theorem dX12_readStatement_213 : decode cX12_readStatement 213 = .ok (.lcmp, 1) := by decide +kernel
theorem dX12_readStatement_214 : decode cX12_readStatement 214 = .ok (.ifCond .ne 14, 3) := by decide +kernel
theorem dX12_readStatement_217 : decode cX12_readStatement 217 = .ok (.aload_n 0, 1) := by decide +kernel
theorem dX12_readStatement_218 : decode cX12_readStatement 218 = .ok (.bipush 6, 2) := by decide +kernel
theorem dX12_readStatement_220 : decode cX12_readStatement 220 = .ok (.iconst 1, 1) := by decide +kernel
theorem dX12_readStatement_221 : decode cX12_readStatement 221 = .ok (.ldc_w 517, 3) := by decide +kernel
theorem dX12_readStatement_224 : decode cX12_readStatement 224 = .ok (.invokevirtual 514, 3) := by decide +kernel
theorem dX12_readStatement_227 : decode cX12_readStatement 227 = .ok (.ireturn, 1) := by decide +kernel
theorem dX12_readStatement_228 : decode cX12_readStatement 228 = .ok (.aload_n 0, 1) := by decide +kernel
theorem dX12_readStatement_229 : decode cX12_readStatement 229 = .ok (.getfield 467, 3) := by decide +kernel
theorem dX12_readStatement_232 : decode cX12_readStatement 232 = .ok (.bipush 108, 2) := by decide +kernel
theorem dX12_readStatement_234 : decode cX12_readStatement 234 = .ok (.bipush 101, 2) := by decide +kernel
theorem dX12_readStatement_236 : decode cX12_readStatement 236 = .ok (.bipush 110, 2) := by decide +kernel
theorem dX12_readStatement_238 : decode cX12_readStatement 238 = .ok (.bipush 103, 2) := by decide +kernel
theorem dX12_readStatement_240 : decode cX12_readStatement 240 = .ok (.bipush 116, 2) := by decide +kernel
theorem dX12_readStatement_242 : decode cX12_readStatement 242 = .ok (.bipush 104, 2) := by decide +kernel
theorem dX12_readStatement_244 : decode cX12_readStatement 244 = .ok (.invokestatic 495, 3) := by decide +kernel
theorem dX12_readStatement_247 : decode cX12_readStatement 247 = .ok (.lcmp, 1) := by decide +kernel
theorem dX12_readStatement_248 : decode cX12_readStatement 248 = .ok (.ifCond .ne 16, 3) := by decide +kernel
theorem dX12_readStatement_251 : decode cX12_readStatement 251 = .ok (.aload_n 0, 1) := by decide +kernel
theorem dX12_readStatement_252 : decode cX12_readStatement 252 = .ok (.bipush 7, 2) := by decide +kernel
theorem dX12_readStatement_254 : decode cX12_readStatement 254 = .ok (.sipush 256, 3) := by decide +kernel
theorem dX12_readStatement_257 : decode cX12_readStatement 257 = .ok (.sipush 600, 3) := by decide +kernel
theorem dX12_readStatement_260 : decode cX12_readStatement 260 = .ok (.invokevirtual 514, 3) := by decide +kernel
theorem dX12_readStatement_263 : decode cX12_readStatement 263 = .ok (.ireturn, 1) := by decide +kernel
theorem dX12_readStatement_264 : decode cX12_readStatement 264 = .ok (.aload_n 0, 1) := by decide +kernel
theorem dX12_readStatement_265 : decode cX12_readStatement 265 = .ok (.getfield 467, 3) := by decide +kernel
theorem dX12_readStatement_268 : decode cX12_readStatement 268 = .ok (.bipush 97, 2) := by decide +kernel
theorem dX12_readStatement_270 : decode cX12_readStatement 270 = .ok (.bipush 115, 2) := by decide +kernel
theorem dX12_readStatement_272 : decode cX12_readStatement 272 = .ok (.bipush 115, 2) := by decide +kernel
theorem dX12_readStatement_274 : decode cX12_readStatement 274 = .ok (.bipush 117, 2) := by decide +kernel
theorem dX12_readStatement_276 : decode cX12_readStatement 276 = .ok (.bipush 109, 2) := by decide +kernel
theorem dX12_readStatement_278 : decode cX12_readStatement 278 = .ok (.bipush 101, 2) := by decide +kernel
theorem dX12_readStatement_280 : decode cX12_readStatement 280 = .ok (.invokestatic 495, 3) := by decide +kernel
theorem dX12_readStatement_283 : decode cX12_readStatement 283 = .ok (.lcmp, 1) := by decide +kernel
theorem dX12_readStatement_284 : decode cX12_readStatement 284 = .ok (.ifCond .ne 14, 3) := by decide +kernel
theorem dX12_readStatement_287 : decode cX12_readStatement 287 = .ok (.aload_n 0, 1) := by decide +kernel
theorem dX12_readStatement_288 : decode cX12_readStatement 288 = .ok (.bipush 8, 2) := by decide +kernel
theorem dX12_readStatement_290 : decode cX12_readStatement 290 = .ok (.iconst 1, 1) := by decide +kernel
theorem dX12_readStatement_291 : decode cX12_readStatement 291 = .ok (.sipush 1024, 3) := by decide +kernel
theorem dX12_readStatement_294 : decode cX12_readStatement 294 = .ok (.invokevirtual 514, 3) := by decide +kernel
theorem dX12_readStatement_297 : decode cX12_readStatement 297 = .ok (.ireturn, 1) := by decide +kernel
theorem dX12_readStatement_298 : decode cX12_readStatement 298 = .ok (.aload_n 0, 1) := by decide +kernel
theorem dX12_readStatement_299 : decode cX12_readStatement 299 = .ok (.getfield 467, 3) := by decide +kernel
theorem dX12_readStatement_302 : decode cX12_readStatement 302 = .ok (.bipush 116, 2) := by decide +kernel
theorem dX12_readStatement_304 : decode cX12_readStatement 304 = .ok (.bipush 101, 2) := by decide +kernel
theorem dX12_readStatement_306 : decode cX12_readStatement 306 = .ok (.bipush 109, 2) := by decide +kernel
theorem dX12_readStatement_308 : decode cX12_readStatement 308 = .ok (.bipush 112, 2) := by decide +kernel
theorem dX12_readStatement_310 : decode cX12_readStatement 310 = .ok (.bipush 108, 2) := by decide +kernel
theorem dX12_readStatement_312 : decode cX12_readStatement 312 = .ok (.iconst 0, 1) := by decide +kernel
theorem dX12_readStatement_313 : decode cX12_readStatement 313 = .ok (.invokestatic 495, 3) := by decide +kernel
theorem dX12_readStatement_316 : decode cX12_readStatement 316 = .ok (.ldc2_w 501, 3) := by decide +kernel
theorem dX12_readStatement_319 : decode cX12_readStatement 319 = .ok (.lmul, 1) := by decide +kernel
theorem dX12_readStatement_320 : decode cX12_readStatement 320 = .ok (.bipush 97, 2) := by decide +kernel
theorem dX12_readStatement_322 : decode cX12_readStatement 322 = .ok (.bipush 116, 2) := by decide +kernel
theorem dX12_readStatement_324 : decode cX12_readStatement 324 = .ok (.bipush 101, 2) := by decide +kernel
theorem dX12_readStatement_326 : decode cX12_readStatement 326 = .ok (.iconst 0, 1) := by decide +kernel
theorem dX12_readStatement_327 : decode cX12_readStatement 327 = .ok (.iconst 0, 1) := by decide +kernel
theorem dX12_readStatement_328 : decode cX12_readStatement 328 = .ok (.iconst 0, 1) := by decide +kernel
theorem dX12_readStatement_329 : decode cX12_readStatement 329 = .ok (.invokestatic 495, 3) := by decide +kernel
theorem dX12_readStatement_332 : decode cX12_readStatement 332 = .ok (.ladd, 1) := by decide +kernel
theorem dX12_readStatement_333 : decode cX12_readStatement 333 = .ok (.lcmp, 1) := by decide +kernel
theorem dX12_readStatement_334 : decode cX12_readStatement 334 = .ok (.ifCond .ne 8, 3) := by decide +kernel
theorem dX12_readStatement_337 : decode cX12_readStatement 337 = .ok (.aload_n 0, 1) := by decide +kernel
theorem dX12_readStatement_338 : decode cX12_readStatement 338 = .ok (.invokevirtual 518, 3) := by decide +kernel
theorem dX12_readStatement_341 : decode cX12_readStatement 341 = .ok (.ireturn, 1) := by decide +kernel
theorem dX12_readStatement_342 : decode cX12_readStatement 342 = .ok (.aload_n 0, 1) := by decide +kernel
theorem dX12_readStatement_343 : decode cX12_readStatement 343 = .ok (.getfield 467, 3) := by decide +kernel
theorem dX12_readStatement_346 : decode cX12_readStatement 346 = .ok (.bipush 117, 2) := by decide +kernel
theorem dX12_readStatement_348 : decode cX12_readStatement 348 = .ok (.bipush 115, 2) := by decide +kernel
theorem dX12_readStatement_350 : decode cX12_readStatement 350 = .ok (.bipush 101, 2) := by decide +kernel
theorem dX12_readStatement_352 : decode cX12_readStatement 352 = .ok (.iconst 0, 1) := by decide +kernel
theorem dX12_readStatement_353 : decode cX12_readStatement 353 = .ok (.iconst 0, 1) := by decide +kernel
theorem dX12_readStatement_354 : decode cX12_readStatement 354 = .ok (.iconst 0, 1) := by decide +kernel
theorem dX12_readStatement_355 : decode cX12_readStatement 355 = .ok (.invokestatic 495, 3) := by decide +kernel
theorem dX12_readStatement_358 : decode cX12_readStatement 358 = .ok (.lcmp, 1) := by decide +kernel
theorem dX12_readStatement_359 : decode cX12_readStatement 359 = .ok (.ifCond .ne 8, 3) := by decide +kernel
theorem dX12_readStatement_362 : decode cX12_readStatement 362 = .ok (.aload_n 0, 1) := by decide +kernel
theorem dX12_readStatement_363 : decode cX12_readStatement 363 = .ok (.invokevirtual 521, 3) := by decide +kernel
theorem dX12_readStatement_366 : decode cX12_readStatement 366 = .ok (.ireturn, 1) := by decide +kernel
theorem dX12_readStatement_367 : decode cX12_readStatement 367 = .ok (.aload_n 0, 1) := by decide +kernel
theorem dX12_readStatement_368 : decode cX12_readStatement 368 = .ok (.getfield 467, 3) := by decide +kernel
theorem dX12_readStatement_371 : decode cX12_readStatement 371 = .ok (.bipush 100, 2) := by decide +kernel
theorem dX12_readStatement_373 : decode cX12_readStatement 373 = .ok (.bipush 114, 2) := by decide +kernel
theorem dX12_readStatement_375 : decode cX12_readStatement 375 = .ok (.bipush 111, 2) := by decide +kernel
theorem dX12_readStatement_377 : decode cX12_readStatement 377 = .ok (.bipush 112, 2) := by decide +kernel
theorem dX12_readStatement_379 : decode cX12_readStatement 379 = .ok (.iconst 0, 1) := by decide +kernel
theorem dX12_readStatement_380 : decode cX12_readStatement 380 = .ok (.iconst 0, 1) := by decide +kernel
theorem dX12_readStatement_381 : decode cX12_readStatement 381 = .ok (.invokestatic 495, 3) := by decide +kernel
theorem dX12_readStatement_384 : decode cX12_readStatement 384 = .ok (.lcmp, 1) := by decide +kernel
theorem dX12_readStatement_385 : decode cX12_readStatement 385 = .ok (.ifCond .ne 8, 3) := by decide +kernel
theorem dX12_readStatement_388 : decode cX12_readStatement 388 = .ok (.aload_n 0, 1) := by decide +kernel
theorem dX12_readStatement_389 : decode cX12_readStatement 389 = .ok (.invokevirtual 524, 3) := by decide +kernel
theorem dX12_readStatement_392 : decode cX12_readStatement 392 = .ok (.ireturn, 1) := by decide +kernel
theorem dX12_readStatement_393 : decode cX12_readStatement 393 = .ok (.aload_n 0, 1) := by decide +kernel
theorem dX12_readStatement_394 : decode cX12_readStatement 394 = .ok (.getfield 467, 3) := by decide +kernel
theorem dX12_readStatement_397 : decode cX12_readStatement 397 = .ok (.bipush 114, 2) := by decide +kernel
theorem dX12_readStatement_399 : decode cX12_readStatement 399 = .ok (.bipush 101, 2) := by decide +kernel
theorem dX12_readStatement_401 : decode cX12_readStatement 401 = .ok (.bipush 102, 2) := by decide +kernel
theorem dX12_readStatement_403 : decode cX12_readStatement 403 = .ok (.bipush 114, 2) := by decide +kernel
theorem dX12_readStatement_405 : decode cX12_readStatement 405 = .ok (.iconst 0, 1) := by decide +kernel
theorem dX12_readStatement_406 : decode cX12_readStatement 406 = .ok (.iconst 0, 1) := by decide +kernel
theorem dX12_readStatement_407 : decode cX12_readStatement 407 = .ok (.invokestatic 495, 3) := by decide +kernel
theorem dX12_readStatement_410 : decode cX12_readStatement 410 = .ok (.ldc2_w 501, 3) := by decide +kernel
theorem dX12_readStatement_413 : decode cX12_readStatement 413 = .ok (.lmul, 1) := by decide +kernel
theorem dX12_readStatement_414 : decode cX12_readStatement 414 = .ok (.bipush 101, 2) := by decide +kernel
theorem dX12_readStatement_416 : decode cX12_readStatement 416 = .ok (.bipush 115, 2) := by decide +kernel
theorem dX12_readStatement_418 : decode cX12_readStatement 418 = .ok (.bipush 104, 2) := by decide +kernel
theorem dX12_readStatement_420 : decode cX12_readStatement 420 = .ok (.iconst 0, 1) := by decide +kernel
theorem dX12_readStatement_421 : decode cX12_readStatement 421 = .ok (.iconst 0, 1) := by decide +kernel
theorem dX12_readStatement_422 : decode cX12_readStatement 422 = .ok (.iconst 0, 1) := by decide +kernel
theorem dX12_readStatement_423 : decode cX12_readStatement 423 = .ok (.invokestatic 495, 3) := by decide +kernel
theorem dX12_readStatement_426 : decode cX12_readStatement 426 = .ok (.ladd, 1) := by decide +kernel
theorem dX12_readStatement_427 : decode cX12_readStatement 427 = .ok (.lcmp, 1) := by decide +kernel
theorem dX12_readStatement_428 : decode cX12_readStatement 428 = .ok (.ifCond .eq 9, 3) := by decide +kernel
theorem dX12_readStatement_431 : decode cX12_readStatement 431 = .ok (.aload_n 0, 1) := by decide +kernel
theorem dX12_readStatement_432 : decode cX12_readStatement 432 = .ok (.iconst 1, 1) := by decide +kernel
theorem dX12_readStatement_433 : decode cX12_readStatement 433 = .ok (.invokevirtual 483, 3) := by decide +kernel
theorem dX12_readStatement_436 : decode cX12_readStatement 436 = .ok (.ireturn, 1) := by decide +kernel
theorem dX12_readStatement_437 : decode cX12_readStatement 437 = .ok (.aload_n 0, 1) := by decide +kernel
theorem dX12_readStatement_438 : decode cX12_readStatement 438 = .ok (.invokevirtual 489, 3) := by decide +kernel
theorem dX12_readStatement_441 : decode cX12_readStatement 441 = .ok (.aload_n 0, 1) := by decide +kernel
theorem dX12_readStatement_442 : decode cX12_readStatement 442 = .ok (.iconst 4, 1) := by decide +kernel
theorem dX12_readStatement_443 : decode cX12_readStatement 443 = .ok (.iconst 1, 1) := by decide +kernel
theorem dX12_readStatement_444 : decode cX12_readStatement 444 = .ok (.sipush 1000, 3) := by decide +kernel
theorem dX12_readStatement_447 : decode cX12_readStatement 447 = .ok (.invokevirtual 510, 3) := by decide +kernel
theorem dX12_readStatement_450 : decode cX12_readStatement 450 = .ok (.ifCond .eq 26, 3) := by decide +kernel
theorem dX12_readStatement_453 : decode cX12_readStatement 453 = .ok (.aload_n 0, 1) := by decide +kernel
theorem dX12_readStatement_454 : decode cX12_readStatement 454 = .ok (.iconst 5, 1) := by decide +kernel
theorem dX12_readStatement_455 : decode cX12_readStatement 455 = .ok (.iconst 1, 1) := by decide +kernel
theorem dX12_readStatement_456 : decode cX12_readStatement 456 = .ok (.ldc_w 517, 3) := by decide +kernel
theorem dX12_readStatement_459 : decode cX12_readStatement 459 = .ok (.invokevirtual 510, 3) := by decide +kernel
theorem dX12_readStatement_462 : decode cX12_readStatement 462 = .ok (.ifCond .eq 14, 3) := by decide +kernel
theorem dX12_readStatement_465 : decode cX12_readStatement 465 = .ok (.aload_n 0, 1) := by decide +kernel
theorem dX12_readStatement_466 : decode cX12_readStatement 466 = .ok (.invokevirtual 506, 3) := by decide +kernel
theorem dX12_readStatement_469 : decode cX12_readStatement 469 = .ok (.ifCond .eq 7, 3) := by decide +kernel
theorem dX12_readStatement_472 : decode cX12_readStatement 472 = .ok (.iconst 1, 1) := by decide +kernel
theorem dX12_readStatement_473 : decode cX12_readStatement 473 = .ok (.goto 4, 3) := by decide +kernel
theorem dX12_readStatement_476 : decode cX12_readStatement 476 = .ok (.iconst 0, 1) := by decide +kernel
theorem dX12_readStatement_477 : decode cX12_readStatement 477 = .ok (.ireturn, 1) := by decide +kernel
set_option maxHeartbeats 4000000 in
set_option maxRecDepth 100000 in
theorem r_readStatement (G : EnvG) (l : Launch) (Φ : Hm) (sz x : Nat) (nw : (Nat → Int32) → Prop) (cr : (Nat → Int64) → Prop) (tp : (Nat → Int32) → Prop) (tt : (Nat → Int64) → Prop) (sI : (Nat → Int32) → Prop) (sT : (Nat → Int32) → Prop) (pt : (Nat → Int32) → Prop) (ql : (Nat → Int32) → Prop) (fl : Nat) (pe : Nat) (le : Nat) (nx : Nat) (il : Nat) (qu : Nat) (kn : Int32) (ec : Int32) (nu : Int32) (va : Int64) (st : Nat) (ep : Int32) (ti : Int32) (ad : Int32) (ob : Int64) (ra : Int32) (rt : Nat) (ex : Int32) (sa : Int64) (us : Int64) (tk : Nat) (th : Int32) (me : Int32) (dr : Int32) (se : Int64) (sn : Int64) (fB : Nat → Int32) (p : Nat) (t : Nat) (c : Cf) (hx : G.2.2.2 ≤ x) (hI : Im G x ((NNc t c), nw, cr, tp, tt, sI, sT, pt, ql, fl, pe, le, nx, il, qu, kn, ec, nu, va, st, ep, ti, ad, ob, ra, rt, ex, sa, us, tk, th, me, dr, se, sn) Φ) (hc0 : Φ (x + 25) = some (ab_ G 700 fB)) (hT : TkR (bA fB il) p kn st nx va) (hp : p ≤ il) (hll : il ≤ 700) (hct : c 10 = nI t) (ht : t ≤ 4) (hnw : ∀ f9 : Nat → Int32, nw f9 → NN f9) : Ct G l yX12_readStatement wsX12_readStatement ({ frames := 6, cells := 0, slots := 0, locals := 134 }) 0 0 [.ref x] Φ sz (fun v Φ1 sz1 => (v = some (.int 0) ∨ v = some (.int 1)) ∧ sz1 = sz ∧ (∃ (nx1 : Nat) (kn1 : Int32) (ec1 : Int32) (nu1 : Int32) (va1 : Int64) (st1 : Nat) (ep1 : Int32) (t1 : Nat) (c1 : Cf), ((∃ (q9 : Nat), v = some (.int 1) ∧ stK (bA fB il) (tkG (bA fB il) p).1 st nx c = (0, q9, c1) ∧ ec = ec1 ∧ ep = ep1 ∧ c1 10 = nI t1 ∧ t1 ≤ 4 ∧ p < q9 ∧ q9 ≤ il ∧ TkR (bA fB il) q9 kn1 st1 nx1 va1) ∨ (∃ (er9 s9 : Nat) (c9 : Cf), v = some (.int 0) ∧ stK (bA fB il) (tkG (bA fB il) p).1 st nx c = (er9, s9, c9) ∧ (¬ er9 = 0 ∧ er9 ≤ 4) ∧ ec1 = nI er9 ∧ ep1 = nI s9)) ∧ Im G x ((NNc t1 c1), nw, cr, tp, tt, sI, sT, pt, ql, fl, pe, le, nx1, il, qu, kn1, ec1, nu1, va1, st1, ep1, ti, ad, ob, ra, rt, ex, sa, us, tk, th, me, dr, se, sn) Φ1) ∧ Fr x (fun j9 => j9 = 0 ∨ j9 = 1) Φ Φ1) := by
  refine Ct.of (cc := cX12_readStatement) (maxL := 1) (ret := (some .boolean)) (by decide) rfl (Nat.le_of_ble_eq_true rfl) ?_
  intro p9 e9 s9 m9 w9 t9 k9 B
  show Z p9 l e9 _ s9 m9 _ w9 t9 k9 _ G 1 0 [(0, .ref x)] [] Φ sz 0 0
  obtain ⟨b_1, b_2, b_3, b_4⟩ := TkR_b hT (by omega)
  obtain ⟨k_1, hT1, e_1, b_5, b_6, hw1, hn1⟩ := TkR_k hT hp
  refine z_aload_n B dX12_readStatement_0 rfl 0 rfl ?_
  obtain ⟨n_1, v_1, n_2, h_1, b_19, b_7, b_8, b_9, b_10, b_11, b_12, b_13, b_14, b_15, b_16, b_17, b_18⟩ := im0 hI
  replace b_7 : 1 ≤ rt := b_7
  replace b_8 : rt ≤ 1024 := b_8
  replace b_9 : fl ≤ 12 := b_9
  replace b_10 : pe ≤ 24 := b_10
  replace b_11 : le ≤ 700 := b_11
  replace b_12 : qu ≤ 12 := b_12
  replace b_13 : n_1 ≤ 8 := b_13
  replace b_14 : n_2 ≤ 24 := b_14
  replace b_15 : tk ≤ 24 := b_15
  replace b_16 : il ≤ 700 := b_16
  replace b_17 : nx ≤ 701 := b_17
  replace b_18 : st ≤ 701 := b_18
  have h_2 : Φ x = some (o_ 14 [.int th, .ref (x + 1), .ref (x + 2), .int ti, .int ra, .int (nI rt), .int ex, .int ad, .ref (x + 3), .ref (x + 4), .int me, .long se, .ref (x + 5), .int (nI fl), .int dr, .long ob, .long sa, .long sn, .long us, .ref (x + 6), .ref (x + 7), .int (nI pe), .ref (x + 8), .int (nI le), .ref (x + 9), .ref (x + 10), .int (nI qu), .ref (x + 11), .ref (x + 12), .ref (x + 13), .ref (x + 14), .ref (x + 15), .ref (x + 16), .int (nI n_1), .long v_1, .ref (x + 17), .ref (x + 18), .ref (x + 19), .ref (x + 20), .ref (x + 21), .ref (x + 22), .int (nI n_2), .ref (x + 23), .ref (x + 24), .int (nI tk), .ref (x + 25), .int (nI il), .int (nI nx), .int ec, .int ep, .int kn, .int (nI st), .int nu, .long va]) := h_1
  refine z_get (ref := "FlowExporterModel") (C := RX12) (T := TX12) (N := 54) (ci := 14) (v := .int kn) B hu_X12_readStatement_X12 rfl 50 (Nat.le_of_ble_eq_true rfl) hv_X12_readStatement_476 rfl h_2 rfl dX12_readStatement_1 ?_
  refine z_iconst (v := 1) B dX12_readStatement_4 rfl ?_
  refine z_icmp_eq (tgt := 14) B dX12_readStatement_5 rfl (fun c_1 => ?_) (fun c_1 => ?_)
  · have e_2 : k_1 = 2 := by have h9 : k_1 - 1 = 1 := kR_k (c := 1) (e_1.symm.trans c_1) (by omega) (by omega); omega
    have hT2 := e_2 ▸ hT1
    have hv1 := hw1 e_2
    refine z_aload_n B dX12_readStatement_14 rfl 0 rfl ?_
    refine z_get (ref := "FlowExporterModel") (C := RX12) (T := TX12) (N := 54) (ci := 14) (v := .long va) B hu_X12_readStatement_X12 rfl 53 (Nat.le_of_ble_eq_true rfl) hv_X12_readStatement_467 rfl h_2 rfl dX12_readStatement_15 ?_
    refine z_bipush (v := 115) B dX12_readStatement_18 rfl ?_
    refine z_bipush (v := 97) B dX12_readStatement_20 rfl ?_
    refine z_bipush (v := 109) B dX12_readStatement_22 rfl ?_
    refine z_bipush (v := 112) B dX12_readStatement_24 rfl ?_
    refine z_bipush (v := 108) B dX12_readStatement_26 rfl ?_
    refine z_iconst (v := 0) B dX12_readStatement_28 rfl ?_
    refine z_callS (As := [.int 115, .int 97, .int 109, .int 112, .int 108, .int 0]) (rest := [.long va]) B (r_pack_115_97_109_112_108_0 G l Φ sz x (NNc t c) nw cr tp tt sI sT pt ql fl pe le nx il qu kn ec nu va st ep ti ad ob ra rt ex sa us tk th me dr se sn  hx hI hnw) (va_cwS 6 B.1.2.2.2.2 gX12_readStatement_X12_pack rfl rfl rfl (by decide +kernel) ⟨Nat.le_of_ble_eq_true rfl, Nat.le_of_ble_eq_true rfl⟩) rfl rfl (Nat.le_of_ble_eq_true rfl) dX12_readStatement_29 ⟨Nat.le_of_ble_eq_true rfl, Nat.le_of_ble_eq_true rfl⟩ (fun r_1 Φ1 sz1 st1 hp1 hs1 => ?_)
    obtain ⟨rfl, hq1, hI1, hF1⟩ := hp1
    subst sz1
    replace hs1 : st1 = [.long 19969548, .long va] := hs1
    subst st1
    replace hI1 : Im G x ((NNc t c), nw, cr, tp, tt, sI, sT, pt, ql, fl, pe, le, nx, il, qu, kn, ec, nu, va, st, ep, ti, ad, ob, ra, rt, ex, sa, us, tk, th, me, dr, se, sn) Φ1 := hI1
    refine z_ldc2 (v := 32768) B (by decide +kernel) dX12_readStatement_32 ?_
    refine z_lmul B dX12_readStatement_35 ?_
    refine z_top (st1 := [.long 654362148864, .long va]) (congrArg (fun w9 : Int64 => ([.long w9, .long va] : List Value)) (show (19969548 * 32768 : Int64) = 654362148864 by decide +kernel)) ?_
    refine z_bipush (v := 105) B dX12_readStatement_36 rfl ?_
    refine z_bipush (v := 110) B dX12_readStatement_38 rfl ?_
    refine z_bipush (v := 103) B dX12_readStatement_40 rfl ?_
    refine z_iconst (v := 0) B dX12_readStatement_42 rfl ?_
    refine z_iconst (v := 0) B dX12_readStatement_43 rfl ?_
    refine z_iconst (v := 0) B dX12_readStatement_44 rfl ?_
    refine z_callS (As := [.int 105, .int 110, .int 103, .int 0, .int 0, .int 0]) (rest := [.long 654362148864, .long va]) B (r_pack_105_110_103_0_0_0 G l Φ1 sz x (NNc t c) nw cr tp tt sI sT pt ql fl pe le nx il qu kn ec nu va st ep ti ad ob ra rt ex sa us tk th me dr se sn  hx hI1 hnw) (va_cwS 6 B.1.2.2.2.2 gX12_readStatement_X12_pack rfl rfl rfl (by decide +kernel) ⟨Nat.le_of_ble_eq_true rfl, Nat.le_of_ble_eq_true rfl⟩) rfl rfl (Nat.le_of_ble_eq_true rfl) dX12_readStatement_45 ⟨Nat.le_of_ble_eq_true rfl, Nat.le_of_ble_eq_true rfl⟩ (fun r_2 Φ2 sz2 st2 hp2 hs2 => ?_)
    obtain ⟨rfl, hq2, hI2, hF2⟩ := hp2
    subst sz2
    replace hs2 : st2 = [.long 9671, .long 654362148864, .long va] := hs2
    subst st2
    replace hI2 : Im G x ((NNc t c), nw, cr, tp, tt, sI, sT, pt, ql, fl, pe, le, nx, il, qu, kn, ec, nu, va, st, ep, ti, ad, ob, ra, rt, ex, sa, us, tk, th, me, dr, se, sn) Φ2 := hI2
    refine z_ladd B dX12_readStatement_48 ?_
    refine z_top (st1 := [.long 654362158535, .long va]) (congrArg (fun w9 : Int64 => ([.long w9, .long va] : List Value)) (show (654362148864 + 9671 : Int64) = 654362158535 by decide +kernel)) ?_
    refine z_lcmp B dX12_readStatement_49 ?_
    refine z_if_ne (tgt := 63) B dX12_readStatement_50 rfl (fun c_2 => ?_) (fun c_2 => ?_)
    · refine z_aload_n B dX12_readStatement_63 rfl 0 rfl ?_
      have h_3 : Φ2 x = some (o_ 14 [.int th, .ref (x + 1), .ref (x + 2), .int ti, .int ra, .int (nI rt), .int ex, .int ad, .ref (x + 3), .ref (x + 4), .int me, .long se, .ref (x + 5), .int (nI fl), .int dr, .long ob, .long sa, .long sn, .long us, .ref (x + 6), .ref (x + 7), .int (nI pe), .ref (x + 8), .int (nI le), .ref (x + 9), .ref (x + 10), .int (nI qu), .ref (x + 11), .ref (x + 12), .ref (x + 13), .ref (x + 14), .ref (x + 15), .ref (x + 16), .int (nI n_1), .long v_1, .ref (x + 17), .ref (x + 18), .ref (x + 19), .ref (x + 20), .ref (x + 21), .ref (x + 22), .int (nI n_2), .ref (x + 23), .ref (x + 24), .int (nI tk), .ref (x + 25), .int (nI il), .int (nI nx), .int ec, .int ep, .int kn, .int (nI st), .int nu, .long va]) := ((hF2 x (fun j9 h8 h7 => (show False from h7).elim)).trans ((hF1 x (fun j9 h8 h7 => (show False from h7).elim)).trans h_2))
      refine z_get (ref := "FlowExporterModel") (C := RX12) (T := TX12) (N := 54) (ci := 14) (v := .long va) B hu_X12_readStatement_X12 rfl 53 (Nat.le_of_ble_eq_true rfl) hv_X12_readStatement_467 rfl h_3 rfl dX12_readStatement_64 ?_
      refine z_bipush (v := 98) B dX12_readStatement_67 rfl ?_
      refine z_bipush (v := 117) B dX12_readStatement_69 rfl ?_
      refine z_bipush (v := 100) B dX12_readStatement_71 rfl ?_
      refine z_bipush (v := 103) B dX12_readStatement_73 rfl ?_
      refine z_bipush (v := 101) B dX12_readStatement_75 rfl ?_
      refine z_bipush (v := 116) B dX12_readStatement_77 rfl ?_
      refine z_callS (As := [.int 98, .int 117, .int 100, .int 103, .int 101, .int 116]) (rest := [.long va]) B (r_pack_98_117_100_103_101_116 G l Φ2 sz x (NNc t c) nw cr tp tt sI sT pt ql fl pe le nx il qu kn ec nu va st ep ti ad ob ra rt ex sa us tk th me dr se sn  hx hI2 hnw) (va_cwS 6 B.1.2.2.2.2 gX12_readStatement_X12_pack rfl rfl rfl (by decide +kernel) ⟨Nat.le_of_ble_eq_true rfl, Nat.le_of_ble_eq_true rfl⟩) rfl rfl (Nat.le_of_ble_eq_true rfl) dX12_readStatement_79 ⟨Nat.le_of_ble_eq_true rfl, Nat.le_of_ble_eq_true rfl⟩ (fun r_3 Φ3 sz3 st3 hp3 hs3 => ?_)
      obtain ⟨rfl, hq3, hI3, hF3⟩ := hp3
      subst sz3
      replace hs3 : st3 = [.long 89267380, .long va] := hs3
      subst st3
      replace hI3 : Im G x ((NNc t c), nw, cr, tp, tt, sI, sT, pt, ql, fl, pe, le, nx, il, qu, kn, ec, nu, va, st, ep, ti, ad, ob, ra, rt, ex, sa, us, tk, th, me, dr, se, sn) Φ3 := hI3
      refine z_lcmp B dX12_readStatement_82 ?_
      refine z_if_ne (tgt := 96) B dX12_readStatement_83 rfl (fun c_3 => ?_) (fun c_3 => ?_)
      · refine z_aload_n B dX12_readStatement_96 rfl 0 rfl ?_
        have h_4 : Φ3 x = some (o_ 14 [.int th, .ref (x + 1), .ref (x + 2), .int ti, .int ra, .int (nI rt), .int ex, .int ad, .ref (x + 3), .ref (x + 4), .int me, .long se, .ref (x + 5), .int (nI fl), .int dr, .long ob, .long sa, .long sn, .long us, .ref (x + 6), .ref (x + 7), .int (nI pe), .ref (x + 8), .int (nI le), .ref (x + 9), .ref (x + 10), .int (nI qu), .ref (x + 11), .ref (x + 12), .ref (x + 13), .ref (x + 14), .ref (x + 15), .ref (x + 16), .int (nI n_1), .long v_1, .ref (x + 17), .ref (x + 18), .ref (x + 19), .ref (x + 20), .ref (x + 21), .ref (x + 22), .int (nI n_2), .ref (x + 23), .ref (x + 24), .int (nI tk), .ref (x + 25), .int (nI il), .int (nI nx), .int ec, .int ep, .int kn, .int (nI st), .int nu, .long va]) := ((hF3 x (fun j9 h8 h7 => (show False from h7).elim)).trans h_3)
        refine z_get (ref := "FlowExporterModel") (C := RX12) (T := TX12) (N := 54) (ci := 14) (v := .long va) B hu_X12_readStatement_X12 rfl 53 (Nat.le_of_ble_eq_true rfl) hv_X12_readStatement_467 rfl h_4 rfl dX12_readStatement_97 ?_
        refine z_bipush (v := 97) B dX12_readStatement_100 rfl ?_
        refine z_bipush (v := 99) B dX12_readStatement_102 rfl ?_
        refine z_bipush (v := 116) B dX12_readStatement_104 rfl ?_
        refine z_bipush (v := 105) B dX12_readStatement_106 rfl ?_
        refine z_bipush (v := 118) B dX12_readStatement_108 rfl ?_
        refine z_bipush (v := 101) B dX12_readStatement_110 rfl ?_
        refine z_callS (As := [.int 97, .int 99, .int 116, .int 105, .int 118, .int 101]) (rest := [.long va]) B (r_pack_97_99_116_105_118_101 G l Φ3 sz x (NNc t c) nw cr tp tt sI sT pt ql fl pe le nx il qu kn ec nu va st ep ti ad ob ra rt ex sa us tk th me dr se sn  hx hI3 hnw) (va_cwS 6 B.1.2.2.2.2 gX12_readStatement_X12_pack rfl rfl rfl (by decide +kernel) ⟨Nat.le_of_ble_eq_true rfl, Nat.le_of_ble_eq_true rfl⟩) rfl rfl (Nat.le_of_ble_eq_true rfl) dX12_readStatement_112 ⟨Nat.le_of_ble_eq_true rfl, Nat.le_of_ble_eq_true rfl⟩ (fun r_4 Φ4 sz4 st4 hp4 hs4 => ?_)
        obtain ⟨rfl, hq4, hI4, hF4⟩ := hp4
        subst sz4
        replace hs4 : st4 = [.long 37365445, .long va] := hs4
        subst st4
        replace hI4 : Im G x ((NNc t c), nw, cr, tp, tt, sI, sT, pt, ql, fl, pe, le, nx, il, qu, kn, ec, nu, va, st, ep, ti, ad, ob, ra, rt, ex, sa, us, tk, th, me, dr, se, sn) Φ4 := hI4
        refine z_lcmp B dX12_readStatement_115 ?_
        refine z_if_ne (tgt := 129) B dX12_readStatement_116 rfl (fun c_4 => ?_) (fun c_4 => ?_)
        · refine z_aload_n B dX12_readStatement_129 rfl 0 rfl ?_
          have h_5 : Φ4 x = some (o_ 14 [.int th, .ref (x + 1), .ref (x + 2), .int ti, .int ra, .int (nI rt), .int ex, .int ad, .ref (x + 3), .ref (x + 4), .int me, .long se, .ref (x + 5), .int (nI fl), .int dr, .long ob, .long sa, .long sn, .long us, .ref (x + 6), .ref (x + 7), .int (nI pe), .ref (x + 8), .int (nI le), .ref (x + 9), .ref (x + 10), .int (nI qu), .ref (x + 11), .ref (x + 12), .ref (x + 13), .ref (x + 14), .ref (x + 15), .ref (x + 16), .int (nI n_1), .long v_1, .ref (x + 17), .ref (x + 18), .ref (x + 19), .ref (x + 20), .ref (x + 21), .ref (x + 22), .int (nI n_2), .ref (x + 23), .ref (x + 24), .int (nI tk), .ref (x + 25), .int (nI il), .int (nI nx), .int ec, .int ep, .int kn, .int (nI st), .int nu, .long va]) := ((hF4 x (fun j9 h8 h7 => (show False from h7).elim)).trans h_4)
          refine z_get (ref := "FlowExporterModel") (C := RX12) (T := TX12) (N := 54) (ci := 14) (v := .long va) B hu_X12_readStatement_X12 rfl 53 (Nat.le_of_ble_eq_true rfl) hv_X12_readStatement_467 rfl h_5 rfl dX12_readStatement_130 ?_
          refine z_bipush (v := 105) B dX12_readStatement_133 rfl ?_
          refine z_bipush (v := 110) B dX12_readStatement_135 rfl ?_
          refine z_bipush (v := 97) B dX12_readStatement_137 rfl ?_
          refine z_bipush (v := 99) B dX12_readStatement_139 rfl ?_
          refine z_bipush (v := 116) B dX12_readStatement_141 rfl ?_
          refine z_iconst (v := 0) B dX12_readStatement_143 rfl ?_
          refine z_callS (As := [.int 105, .int 110, .int 97, .int 99, .int 116, .int 0]) (rest := [.long va]) B (r_pack_105_110_97_99_116_0 G l Φ4 sz x (NNc t c) nw cr tp tt sI sT pt ql fl pe le nx il qu kn ec nu va st ep ti ad ob ra rt ex sa us tk th me dr se sn  hx hI4 hnw) (va_cwS 6 B.1.2.2.2.2 gX12_readStatement_X12_pack rfl rfl rfl (by decide +kernel) ⟨Nat.le_of_ble_eq_true rfl, Nat.le_of_ble_eq_true rfl⟩) rfl rfl (Nat.le_of_ble_eq_true rfl) dX12_readStatement_144 ⟨Nat.le_of_ble_eq_true rfl, Nat.le_of_ble_eq_true rfl⟩ (fun r_5 Φ5 sz5 st5 hp5 hs5 => ?_)
          obtain ⟨rfl, hq5, hI5, hF5⟩ := hp5
          subst sz5
          replace hs5 : st5 = [.long 9897076, .long va] := hs5
          subst st5
          replace hI5 : Im G x ((NNc t c), nw, cr, tp, tt, sI, sT, pt, ql, fl, pe, le, nx, il, qu, kn, ec, nu, va, st, ep, ti, ad, ob, ra, rt, ex, sa, us, tk, th, me, dr, se, sn) Φ5 := hI5
          refine z_ldc2 (v := 32768) B (by decide +kernel) dX12_readStatement_147 ?_
          refine z_lmul B dX12_readStatement_150 ?_
          refine z_top (st1 := [.long 324307386368, .long va]) (congrArg (fun w9 : Int64 => ([.long w9, .long va] : List Value)) (show (9897076 * 32768 : Int64) = 324307386368 by decide +kernel)) ?_
          refine z_bipush (v := 105) B dX12_readStatement_151 rfl ?_
          refine z_bipush (v := 118) B dX12_readStatement_153 rfl ?_
          refine z_bipush (v := 101) B dX12_readStatement_155 rfl ?_
          refine z_iconst (v := 0) B dX12_readStatement_157 rfl ?_
          refine z_iconst (v := 0) B dX12_readStatement_158 rfl ?_
          refine z_iconst (v := 0) B dX12_readStatement_159 rfl ?_
          refine z_callS (As := [.int 105, .int 118, .int 101, .int 0, .int 0, .int 0]) (rest := [.long 324307386368, .long va]) B (r_pack_105_118_101_0_0_0 G l Φ5 sz x (NNc t c) nw cr tp tt sI sT pt ql fl pe le nx il qu kn ec nu va st ep ti ad ob ra rt ex sa us tk th me dr se sn  hx hI5 hnw) (va_cwS 6 B.1.2.2.2.2 gX12_readStatement_X12_pack rfl rfl rfl (by decide +kernel) ⟨Nat.le_of_ble_eq_true rfl, Nat.le_of_ble_eq_true rfl⟩) rfl rfl (Nat.le_of_ble_eq_true rfl) dX12_readStatement_160 ⟨Nat.le_of_ble_eq_true rfl, Nat.le_of_ble_eq_true rfl⟩ (fun r_6 Φ6 sz6 st6 hp6 hs6 => ?_)
          obtain ⟨rfl, hq6, hI6, hF6⟩ := hp6
          subst sz6
          replace hs6 : st6 = [.long 9925, .long 324307386368, .long va] := hs6
          subst st6
          replace hI6 : Im G x ((NNc t c), nw, cr, tp, tt, sI, sT, pt, ql, fl, pe, le, nx, il, qu, kn, ec, nu, va, st, ep, ti, ad, ob, ra, rt, ex, sa, us, tk, th, me, dr, se, sn) Φ6 := hI6
          refine z_ladd B dX12_readStatement_163 ?_
          refine z_top (st1 := [.long 324307396293, .long va]) (congrArg (fun w9 : Int64 => ([.long w9, .long va] : List Value)) (show (324307386368 + 9925 : Int64) = 324307396293 by decide +kernel)) ?_
          refine z_lcmp B dX12_readStatement_164 ?_
          refine z_if_ne (tgt := 178) B dX12_readStatement_165 rfl (fun c_5 => ?_) (fun c_5 => ?_)
          · refine z_aload_n B dX12_readStatement_178 rfl 0 rfl ?_
            have h_6 : Φ6 x = some (o_ 14 [.int th, .ref (x + 1), .ref (x + 2), .int ti, .int ra, .int (nI rt), .int ex, .int ad, .ref (x + 3), .ref (x + 4), .int me, .long se, .ref (x + 5), .int (nI fl), .int dr, .long ob, .long sa, .long sn, .long us, .ref (x + 6), .ref (x + 7), .int (nI pe), .ref (x + 8), .int (nI le), .ref (x + 9), .ref (x + 10), .int (nI qu), .ref (x + 11), .ref (x + 12), .ref (x + 13), .ref (x + 14), .ref (x + 15), .ref (x + 16), .int (nI n_1), .long v_1, .ref (x + 17), .ref (x + 18), .ref (x + 19), .ref (x + 20), .ref (x + 21), .ref (x + 22), .int (nI n_2), .ref (x + 23), .ref (x + 24), .int (nI tk), .ref (x + 25), .int (nI il), .int (nI nx), .int ec, .int ep, .int kn, .int (nI st), .int nu, .long va]) := ((hF6 x (fun j9 h8 h7 => (show False from h7).elim)).trans ((hF5 x (fun j9 h8 h7 => (show False from h7).elim)).trans h_5))
            refine z_get (ref := "FlowExporterModel") (C := RX12) (T := TX12) (N := 54) (ci := 14) (v := .long va) B hu_X12_readStatement_X12 rfl 53 (Nat.le_of_ble_eq_true rfl) hv_X12_readStatement_467 rfl h_6 rfl dX12_readStatement_179 ?_
            refine z_bipush (v := 108) B dX12_readStatement_182 rfl ?_
            refine z_bipush (v := 105) B dX12_readStatement_184 rfl ?_
            refine z_bipush (v := 102) B dX12_readStatement_186 rfl ?_
            refine z_bipush (v := 101) B dX12_readStatement_188 rfl ?_
            refine z_bipush (v := 116) B dX12_readStatement_190 rfl ?_
            refine z_iconst (v := 0) B dX12_readStatement_192 rfl ?_
            refine z_callS (As := [.int 108, .int 105, .int 102, .int 101, .int 116, .int 0]) (rest := [.long va]) B (r_pack_108_105_102_101_116_0 G l Φ6 sz x (NNc t c) nw cr tp tt sI sT pt ql fl pe le nx il qu kn ec nu va st ep ti ad ob ra rt ex sa us tk th me dr se sn  hx hI6 hnw) (va_cwS 6 B.1.2.2.2.2 gX12_readStatement_X12_pack rfl rfl rfl (by decide +kernel) ⟨Nat.le_of_ble_eq_true rfl, Nat.le_of_ble_eq_true rfl⟩) rfl rfl (Nat.le_of_ble_eq_true rfl) dX12_readStatement_193 ⟨Nat.le_of_ble_eq_true rfl, Nat.le_of_ble_eq_true rfl⟩ (fun r_7 Φ7 sz7 st7 hp7 hs7 => ?_)
            obtain ⟨rfl, hq7, hI7, hF7⟩ := hp7
            subst sz7
            replace hs7 : st7 = [.long 12884148, .long va] := hs7
            subst st7
            replace hI7 : Im G x ((NNc t c), nw, cr, tp, tt, sI, sT, pt, ql, fl, pe, le, nx, il, qu, kn, ec, nu, va, st, ep, ti, ad, ob, ra, rt, ex, sa, us, tk, th, me, dr, se, sn) Φ7 := hI7
            refine z_ldc2 (v := 32768) B (by decide +kernel) dX12_readStatement_196 ?_
            refine z_lmul B dX12_readStatement_199 ?_
            refine z_top (st1 := [.long 422187761664, .long va]) (congrArg (fun w9 : Int64 => ([.long w9, .long va] : List Value)) (show (12884148 * 32768 : Int64) = 422187761664 by decide +kernel)) ?_
            refine z_bipush (v := 105) B dX12_readStatement_200 rfl ?_
            refine z_bipush (v := 109) B dX12_readStatement_202 rfl ?_
            refine z_bipush (v := 101) B dX12_readStatement_204 rfl ?_
            refine z_iconst (v := 0) B dX12_readStatement_206 rfl ?_
            refine z_iconst (v := 0) B dX12_readStatement_207 rfl ?_
            refine z_iconst (v := 0) B dX12_readStatement_208 rfl ?_
            refine z_callS (As := [.int 105, .int 109, .int 101, .int 0, .int 0, .int 0]) (rest := [.long 422187761664, .long va]) B (r_pack_105_109_101_0_0_0 G l Φ7 sz x (NNc t c) nw cr tp tt sI sT pt ql fl pe le nx il qu kn ec nu va st ep ti ad ob ra rt ex sa us tk th me dr se sn  hx hI7 hnw) (va_cwS 6 B.1.2.2.2.2 gX12_readStatement_X12_pack rfl rfl rfl (by decide +kernel) ⟨Nat.le_of_ble_eq_true rfl, Nat.le_of_ble_eq_true rfl⟩) rfl rfl (Nat.le_of_ble_eq_true rfl) dX12_readStatement_209 ⟨Nat.le_of_ble_eq_true rfl, Nat.le_of_ble_eq_true rfl⟩ (fun r_8 Φ8 sz8 st8 hp8 hs8 => ?_)
            obtain ⟨rfl, hq8, hI8, hF8⟩ := hp8
            subst sz8
            replace hs8 : st8 = [.long 9637, .long 422187761664, .long va] := hs8
            subst st8
            replace hI8 : Im G x ((NNc t c), nw, cr, tp, tt, sI, sT, pt, ql, fl, pe, le, nx, il, qu, kn, ec, nu, va, st, ep, ti, ad, ob, ra, rt, ex, sa, us, tk, th, me, dr, se, sn) Φ8 := hI8
            refine z_ladd B dX12_readStatement_212 ?_
            refine z_top (st1 := [.long 422187771301, .long va]) (congrArg (fun w9 : Int64 => ([.long w9, .long va] : List Value)) (show (422187761664 + 9637 : Int64) = 422187771301 by decide +kernel)) ?_
            refine z_lcmp B dX12_readStatement_213 ?_
            refine z_if_ne (tgt := 228) B dX12_readStatement_214 rfl (fun c_6 => ?_) (fun c_6 => ?_)
            · refine z_aload_n B dX12_readStatement_228 rfl 0 rfl ?_
              have h_7 : Φ8 x = some (o_ 14 [.int th, .ref (x + 1), .ref (x + 2), .int ti, .int ra, .int (nI rt), .int ex, .int ad, .ref (x + 3), .ref (x + 4), .int me, .long se, .ref (x + 5), .int (nI fl), .int dr, .long ob, .long sa, .long sn, .long us, .ref (x + 6), .ref (x + 7), .int (nI pe), .ref (x + 8), .int (nI le), .ref (x + 9), .ref (x + 10), .int (nI qu), .ref (x + 11), .ref (x + 12), .ref (x + 13), .ref (x + 14), .ref (x + 15), .ref (x + 16), .int (nI n_1), .long v_1, .ref (x + 17), .ref (x + 18), .ref (x + 19), .ref (x + 20), .ref (x + 21), .ref (x + 22), .int (nI n_2), .ref (x + 23), .ref (x + 24), .int (nI tk), .ref (x + 25), .int (nI il), .int (nI nx), .int ec, .int ep, .int kn, .int (nI st), .int nu, .long va]) := ((hF8 x (fun j9 h8 h7 => (show False from h7).elim)).trans ((hF7 x (fun j9 h8 h7 => (show False from h7).elim)).trans h_6))
              refine z_get (ref := "FlowExporterModel") (C := RX12) (T := TX12) (N := 54) (ci := 14) (v := .long va) B hu_X12_readStatement_X12 rfl 53 (Nat.le_of_ble_eq_true rfl) hv_X12_readStatement_467 rfl h_7 rfl dX12_readStatement_229 ?_
              refine z_bipush (v := 108) B dX12_readStatement_232 rfl ?_
              refine z_bipush (v := 101) B dX12_readStatement_234 rfl ?_
              refine z_bipush (v := 110) B dX12_readStatement_236 rfl ?_
              refine z_bipush (v := 103) B dX12_readStatement_238 rfl ?_
              refine z_bipush (v := 116) B dX12_readStatement_240 rfl ?_
              refine z_bipush (v := 104) B dX12_readStatement_242 rfl ?_
              refine z_callS (As := [.int 108, .int 101, .int 110, .int 103, .int 116, .int 104]) (rest := [.long va]) B (r_pack_108_101_110_103_116_104 G l Φ8 sz x (NNc t c) nw cr tp tt sI sT pt ql fl pe le nx il qu kn ec nu va st ep ti ad ob ra rt ex sa us tk th me dr se sn  hx hI8 hnw) (va_cwS 6 B.1.2.2.2.2 gX12_readStatement_X12_pack rfl rfl rfl (by decide +kernel) ⟨Nat.le_of_ble_eq_true rfl, Nat.le_of_ble_eq_true rfl⟩) rfl rfl (Nat.le_of_ble_eq_true rfl) dX12_readStatement_244 ⟨Nat.le_of_ble_eq_true rfl, Nat.le_of_ble_eq_true rfl⟩ (fun r_9 Φ9 sz9 st9 hp9 hs9 => ?_)
              obtain ⟨rfl, hq9, hI9, hF9⟩ := hp9
              subst sz9
              replace hs9 : st9 = [.long 408362632, .long va] := hs9
              subst st9
              replace hI9 : Im G x ((NNc t c), nw, cr, tp, tt, sI, sT, pt, ql, fl, pe, le, nx, il, qu, kn, ec, nu, va, st, ep, ti, ad, ob, ra, rt, ex, sa, us, tk, th, me, dr, se, sn) Φ9 := hI9
              refine z_lcmp B dX12_readStatement_247 ?_
              refine z_if_ne (tgt := 264) B dX12_readStatement_248 rfl (fun c_7 => ?_) (fun c_7 => ?_)
              · refine z_aload_n B dX12_readStatement_264 rfl 0 rfl ?_
                have h_8 : Φ9 x = some (o_ 14 [.int th, .ref (x + 1), .ref (x + 2), .int ti, .int ra, .int (nI rt), .int ex, .int ad, .ref (x + 3), .ref (x + 4), .int me, .long se, .ref (x + 5), .int (nI fl), .int dr, .long ob, .long sa, .long sn, .long us, .ref (x + 6), .ref (x + 7), .int (nI pe), .ref (x + 8), .int (nI le), .ref (x + 9), .ref (x + 10), .int (nI qu), .ref (x + 11), .ref (x + 12), .ref (x + 13), .ref (x + 14), .ref (x + 15), .ref (x + 16), .int (nI n_1), .long v_1, .ref (x + 17), .ref (x + 18), .ref (x + 19), .ref (x + 20), .ref (x + 21), .ref (x + 22), .int (nI n_2), .ref (x + 23), .ref (x + 24), .int (nI tk), .ref (x + 25), .int (nI il), .int (nI nx), .int ec, .int ep, .int kn, .int (nI st), .int nu, .long va]) := ((hF9 x (fun j9 h8 h7 => (show False from h7).elim)).trans h_7)
                refine z_get (ref := "FlowExporterModel") (C := RX12) (T := TX12) (N := 54) (ci := 14) (v := .long va) B hu_X12_readStatement_X12 rfl 53 (Nat.le_of_ble_eq_true rfl) hv_X12_readStatement_467 rfl h_8 rfl dX12_readStatement_265 ?_
                refine z_bipush (v := 97) B dX12_readStatement_268 rfl ?_
                refine z_bipush (v := 115) B dX12_readStatement_270 rfl ?_
                refine z_bipush (v := 115) B dX12_readStatement_272 rfl ?_
                refine z_bipush (v := 117) B dX12_readStatement_274 rfl ?_
                refine z_bipush (v := 109) B dX12_readStatement_276 rfl ?_
                refine z_bipush (v := 101) B dX12_readStatement_278 rfl ?_
                refine z_callS (As := [.int 97, .int 115, .int 115, .int 117, .int 109, .int 101]) (rest := [.long va]) B (r_pack_97_115_115_117_109_101 G l Φ9 sz x (NNc t c) nw cr tp tt sI sT pt ql fl pe le nx il qu kn ec nu va st ep ti ad ob ra rt ex sa us tk th me dr se sn  hx hI9 hnw) (va_cwS 6 B.1.2.2.2.2 gX12_readStatement_X12_pack rfl rfl rfl (by decide +kernel) ⟨Nat.le_of_ble_eq_true rfl, Nat.le_of_ble_eq_true rfl⟩) rfl rfl (Nat.le_of_ble_eq_true rfl) dX12_readStatement_280 ⟨Nat.le_of_ble_eq_true rfl, Nat.le_of_ble_eq_true rfl⟩ (fun r_10 Φ10 sz10 st10 hp10 hs10 => ?_)
                obtain ⟨rfl, hq10, hI10, hF10⟩ := hp10
                subst sz10
                replace hs10 : st10 = [.long 54121893, .long va] := hs10
                subst st10
                replace hI10 : Im G x ((NNc t c), nw, cr, tp, tt, sI, sT, pt, ql, fl, pe, le, nx, il, qu, kn, ec, nu, va, st, ep, ti, ad, ob, ra, rt, ex, sa, us, tk, th, me, dr, se, sn) Φ10 := hI10
                refine z_lcmp B dX12_readStatement_283 ?_
                refine z_if_ne (tgt := 298) B dX12_readStatement_284 rfl (fun c_8 => ?_) (fun c_8 => ?_)
                · refine z_aload_n B dX12_readStatement_298 rfl 0 rfl ?_
                  have h_9 : Φ10 x = some (o_ 14 [.int th, .ref (x + 1), .ref (x + 2), .int ti, .int ra, .int (nI rt), .int ex, .int ad, .ref (x + 3), .ref (x + 4), .int me, .long se, .ref (x + 5), .int (nI fl), .int dr, .long ob, .long sa, .long sn, .long us, .ref (x + 6), .ref (x + 7), .int (nI pe), .ref (x + 8), .int (nI le), .ref (x + 9), .ref (x + 10), .int (nI qu), .ref (x + 11), .ref (x + 12), .ref (x + 13), .ref (x + 14), .ref (x + 15), .ref (x + 16), .int (nI n_1), .long v_1, .ref (x + 17), .ref (x + 18), .ref (x + 19), .ref (x + 20), .ref (x + 21), .ref (x + 22), .int (nI n_2), .ref (x + 23), .ref (x + 24), .int (nI tk), .ref (x + 25), .int (nI il), .int (nI nx), .int ec, .int ep, .int kn, .int (nI st), .int nu, .long va]) := ((hF10 x (fun j9 h8 h7 => (show False from h7).elim)).trans h_8)
                  refine z_get (ref := "FlowExporterModel") (C := RX12) (T := TX12) (N := 54) (ci := 14) (v := .long va) B hu_X12_readStatement_X12 rfl 53 (Nat.le_of_ble_eq_true rfl) hv_X12_readStatement_467 rfl h_9 rfl dX12_readStatement_299 ?_
                  refine z_bipush (v := 116) B dX12_readStatement_302 rfl ?_
                  refine z_bipush (v := 101) B dX12_readStatement_304 rfl ?_
                  refine z_bipush (v := 109) B dX12_readStatement_306 rfl ?_
                  refine z_bipush (v := 112) B dX12_readStatement_308 rfl ?_
                  refine z_bipush (v := 108) B dX12_readStatement_310 rfl ?_
                  refine z_iconst (v := 0) B dX12_readStatement_312 rfl ?_
                  refine z_callS (As := [.int 116, .int 101, .int 109, .int 112, .int 108, .int 0]) (rest := [.long va]) B (r_pack_116_101_109_112_108_0 G l Φ10 sz x (NNc t c) nw cr tp tt sI sT pt ql fl pe le nx il qu kn ec nu va st ep ti ad ob ra rt ex sa us tk th me dr se sn  hx hI10 hnw) (va_cwS 6 B.1.2.2.2.2 gX12_readStatement_X12_pack rfl rfl rfl (by decide +kernel) ⟨Nat.le_of_ble_eq_true rfl, Nat.le_of_ble_eq_true rfl⟩) rfl rfl (Nat.le_of_ble_eq_true rfl) dX12_readStatement_313 ⟨Nat.le_of_ble_eq_true rfl, Nat.le_of_ble_eq_true rfl⟩ (fun r_11 Φ11 sz11 st11 hp11 hs11 => ?_)
                  obtain ⟨rfl, hq11, hI11, hF11⟩ := hp11
                  subst sz11
                  replace hs11 : st11 = [.long 21149196, .long va] := hs11
                  subst st11
                  replace hI11 : Im G x ((NNc t c), nw, cr, tp, tt, sI, sT, pt, ql, fl, pe, le, nx, il, qu, kn, ec, nu, va, st, ep, ti, ad, ob, ra, rt, ex, sa, us, tk, th, me, dr, se, sn) Φ11 := hI11
                  refine z_ldc2 (v := 32768) B (by decide +kernel) dX12_readStatement_316 ?_
                  refine z_lmul B dX12_readStatement_319 ?_
                  refine z_top (st1 := [.long 693016854528, .long va]) (congrArg (fun w9 : Int64 => ([.long w9, .long va] : List Value)) (show (21149196 * 32768 : Int64) = 693016854528 by decide +kernel)) ?_
                  refine z_bipush (v := 97) B dX12_readStatement_320 rfl ?_
                  refine z_bipush (v := 116) B dX12_readStatement_322 rfl ?_
                  refine z_bipush (v := 101) B dX12_readStatement_324 rfl ?_
                  refine z_iconst (v := 0) B dX12_readStatement_326 rfl ?_
                  refine z_iconst (v := 0) B dX12_readStatement_327 rfl ?_
                  refine z_iconst (v := 0) B dX12_readStatement_328 rfl ?_
                  refine z_callS (As := [.int 97, .int 116, .int 101, .int 0, .int 0, .int 0]) (rest := [.long 693016854528, .long va]) B (r_pack_97_116_101_0_0_0 G l Φ11 sz x (NNc t c) nw cr tp tt sI sT pt ql fl pe le nx il qu kn ec nu va st ep ti ad ob ra rt ex sa us tk th me dr se sn  hx hI11 hnw) (va_cwS 6 B.1.2.2.2.2 gX12_readStatement_X12_pack rfl rfl rfl (by decide +kernel) ⟨Nat.le_of_ble_eq_true rfl, Nat.le_of_ble_eq_true rfl⟩) rfl rfl (Nat.le_of_ble_eq_true rfl) dX12_readStatement_329 ⟨Nat.le_of_ble_eq_true rfl, Nat.le_of_ble_eq_true rfl⟩ (fun r_12 Φ12 sz12 st12 hp12 hs12 => ?_)
                  obtain ⟨rfl, hq12, hI12, hF12⟩ := hp12
                  subst sz12
                  replace hs12 : st12 = [.long 1669, .long 693016854528, .long va] := hs12
                  subst st12
                  replace hI12 : Im G x ((NNc t c), nw, cr, tp, tt, sI, sT, pt, ql, fl, pe, le, nx, il, qu, kn, ec, nu, va, st, ep, ti, ad, ob, ra, rt, ex, sa, us, tk, th, me, dr, se, sn) Φ12 := hI12
                  refine z_ladd B dX12_readStatement_332 ?_
                  refine z_top (st1 := [.long 693016856197, .long va]) (congrArg (fun w9 : Int64 => ([.long w9, .long va] : List Value)) (show (693016854528 + 1669 : Int64) = 693016856197 by decide +kernel)) ?_
                  refine z_lcmp B dX12_readStatement_333 ?_
                  refine z_if_ne (tgt := 342) B dX12_readStatement_334 rfl (fun c_9 => ?_) (fun c_9 => ?_)
                  · refine z_aload_n B dX12_readStatement_342 rfl 0 rfl ?_
                    have h_10 : Φ12 x = some (o_ 14 [.int th, .ref (x + 1), .ref (x + 2), .int ti, .int ra, .int (nI rt), .int ex, .int ad, .ref (x + 3), .ref (x + 4), .int me, .long se, .ref (x + 5), .int (nI fl), .int dr, .long ob, .long sa, .long sn, .long us, .ref (x + 6), .ref (x + 7), .int (nI pe), .ref (x + 8), .int (nI le), .ref (x + 9), .ref (x + 10), .int (nI qu), .ref (x + 11), .ref (x + 12), .ref (x + 13), .ref (x + 14), .ref (x + 15), .ref (x + 16), .int (nI n_1), .long v_1, .ref (x + 17), .ref (x + 18), .ref (x + 19), .ref (x + 20), .ref (x + 21), .ref (x + 22), .int (nI n_2), .ref (x + 23), .ref (x + 24), .int (nI tk), .ref (x + 25), .int (nI il), .int (nI nx), .int ec, .int ep, .int kn, .int (nI st), .int nu, .long va]) := ((hF12 x (fun j9 h8 h7 => (show False from h7).elim)).trans ((hF11 x (fun j9 h8 h7 => (show False from h7).elim)).trans h_9))
                    refine z_get (ref := "FlowExporterModel") (C := RX12) (T := TX12) (N := 54) (ci := 14) (v := .long va) B hu_X12_readStatement_X12 rfl 53 (Nat.le_of_ble_eq_true rfl) hv_X12_readStatement_467 rfl h_10 rfl dX12_readStatement_343 ?_
                    refine z_bipush (v := 117) B dX12_readStatement_346 rfl ?_
                    refine z_bipush (v := 115) B dX12_readStatement_348 rfl ?_
                    refine z_bipush (v := 101) B dX12_readStatement_350 rfl ?_
                    refine z_iconst (v := 0) B dX12_readStatement_352 rfl ?_
                    refine z_iconst (v := 0) B dX12_readStatement_353 rfl ?_
                    refine z_iconst (v := 0) B dX12_readStatement_354 rfl ?_
                    refine z_callS (As := [.int 117, .int 115, .int 101, .int 0, .int 0, .int 0]) (rest := [.long va]) B (r_pack_117_115_101_0_0_0 G l Φ12 sz x (NNc t c) nw cr tp tt sI sT pt ql fl pe le nx il qu kn ec nu va st ep ti ad ob ra rt ex sa us tk th me dr se sn  hx hI12 hnw) (va_cwS 6 B.1.2.2.2.2 gX12_readStatement_X12_pack rfl rfl rfl (by decide +kernel) ⟨Nat.le_of_ble_eq_true rfl, Nat.le_of_ble_eq_true rfl⟩) rfl rfl (Nat.le_of_ble_eq_true rfl) dX12_readStatement_355 ⟨Nat.le_of_ble_eq_true rfl, Nat.le_of_ble_eq_true rfl⟩ (fun r_13 Φ13 sz13 st13 hp13 hs13 => ?_)
                    obtain ⟨rfl, hq13, hI13, hF13⟩ := hp13
                    subst sz13
                    replace hs13 : st13 = [.long 22117, .long va] := hs13
                    subst st13
                    replace hI13 : Im G x ((NNc t c), nw, cr, tp, tt, sI, sT, pt, ql, fl, pe, le, nx, il, qu, kn, ec, nu, va, st, ep, ti, ad, ob, ra, rt, ex, sa, us, tk, th, me, dr, se, sn) Φ13 := hI13
                    refine z_lcmp B dX12_readStatement_358 ?_
                    refine z_if_ne (tgt := 367) B dX12_readStatement_359 rfl (fun c_10 => ?_) (fun c_10 => ?_)
                    · refine z_aload_n B dX12_readStatement_367 rfl 0 rfl ?_
                      have h_11 : Φ13 x = some (o_ 14 [.int th, .ref (x + 1), .ref (x + 2), .int ti, .int ra, .int (nI rt), .int ex, .int ad, .ref (x + 3), .ref (x + 4), .int me, .long se, .ref (x + 5), .int (nI fl), .int dr, .long ob, .long sa, .long sn, .long us, .ref (x + 6), .ref (x + 7), .int (nI pe), .ref (x + 8), .int (nI le), .ref (x + 9), .ref (x + 10), .int (nI qu), .ref (x + 11), .ref (x + 12), .ref (x + 13), .ref (x + 14), .ref (x + 15), .ref (x + 16), .int (nI n_1), .long v_1, .ref (x + 17), .ref (x + 18), .ref (x + 19), .ref (x + 20), .ref (x + 21), .ref (x + 22), .int (nI n_2), .ref (x + 23), .ref (x + 24), .int (nI tk), .ref (x + 25), .int (nI il), .int (nI nx), .int ec, .int ep, .int kn, .int (nI st), .int nu, .long va]) := ((hF13 x (fun j9 h8 h7 => (show False from h7).elim)).trans h_10)
                      refine z_get (ref := "FlowExporterModel") (C := RX12) (T := TX12) (N := 54) (ci := 14) (v := .long va) B hu_X12_readStatement_X12 rfl 53 (Nat.le_of_ble_eq_true rfl) hv_X12_readStatement_467 rfl h_11 rfl dX12_readStatement_368 ?_
                      refine z_bipush (v := 100) B dX12_readStatement_371 rfl ?_
                      refine z_bipush (v := 114) B dX12_readStatement_373 rfl ?_
                      refine z_bipush (v := 111) B dX12_readStatement_375 rfl ?_
                      refine z_bipush (v := 112) B dX12_readStatement_377 rfl ?_
                      refine z_iconst (v := 0) B dX12_readStatement_379 rfl ?_
                      refine z_iconst (v := 0) B dX12_readStatement_380 rfl ?_
                      refine z_callS (As := [.int 100, .int 114, .int 111, .int 112, .int 0, .int 0]) (rest := [.long va]) B (r_pack_100_114_111_112_0_0 G l Φ13 sz x (NNc t c) nw cr tp tt sI sT pt ql fl pe le nx il qu kn ec nu va st ep ti ad ob ra rt ex sa us tk th me dr se sn  hx hI13 hnw) (va_cwS 6 B.1.2.2.2.2 gX12_readStatement_X12_pack rfl rfl rfl (by decide +kernel) ⟨Nat.le_of_ble_eq_true rfl, Nat.le_of_ble_eq_true rfl⟩) rfl rfl (Nat.le_of_ble_eq_true rfl) dX12_readStatement_381 ⟨Nat.le_of_ble_eq_true rfl, Nat.le_of_ble_eq_true rfl⟩ (fun r_14 Φ14 sz14 st14 hp14 hs14 => ?_)
                      obtain ⟨rfl, hq14, hI14, hF14⟩ := hp14
                      subst sz14
                      replace hs14 : st14 = [.long 150000, .long va] := hs14
                      subst st14
                      replace hI14 : Im G x ((NNc t c), nw, cr, tp, tt, sI, sT, pt, ql, fl, pe, le, nx, il, qu, kn, ec, nu, va, st, ep, ti, ad, ob, ra, rt, ex, sa, us, tk, th, me, dr, se, sn) Φ14 := hI14
                      refine z_lcmp B dX12_readStatement_384 ?_
                      refine z_if_ne (tgt := 393) B dX12_readStatement_385 rfl (fun c_11 => ?_) (fun c_11 => ?_)
                      · refine z_aload_n B dX12_readStatement_393 rfl 0 rfl ?_
                        have h_12 : Φ14 x = some (o_ 14 [.int th, .ref (x + 1), .ref (x + 2), .int ti, .int ra, .int (nI rt), .int ex, .int ad, .ref (x + 3), .ref (x + 4), .int me, .long se, .ref (x + 5), .int (nI fl), .int dr, .long ob, .long sa, .long sn, .long us, .ref (x + 6), .ref (x + 7), .int (nI pe), .ref (x + 8), .int (nI le), .ref (x + 9), .ref (x + 10), .int (nI qu), .ref (x + 11), .ref (x + 12), .ref (x + 13), .ref (x + 14), .ref (x + 15), .ref (x + 16), .int (nI n_1), .long v_1, .ref (x + 17), .ref (x + 18), .ref (x + 19), .ref (x + 20), .ref (x + 21), .ref (x + 22), .int (nI n_2), .ref (x + 23), .ref (x + 24), .int (nI tk), .ref (x + 25), .int (nI il), .int (nI nx), .int ec, .int ep, .int kn, .int (nI st), .int nu, .long va]) := ((hF14 x (fun j9 h8 h7 => (show False from h7).elim)).trans h_11)
                        refine z_get (ref := "FlowExporterModel") (C := RX12) (T := TX12) (N := 54) (ci := 14) (v := .long va) B hu_X12_readStatement_X12 rfl 53 (Nat.le_of_ble_eq_true rfl) hv_X12_readStatement_467 rfl h_12 rfl dX12_readStatement_394 ?_
                        refine z_bipush (v := 114) B dX12_readStatement_397 rfl ?_
                        refine z_bipush (v := 101) B dX12_readStatement_399 rfl ?_
                        refine z_bipush (v := 102) B dX12_readStatement_401 rfl ?_
                        refine z_bipush (v := 114) B dX12_readStatement_403 rfl ?_
                        refine z_iconst (v := 0) B dX12_readStatement_405 rfl ?_
                        refine z_iconst (v := 0) B dX12_readStatement_406 rfl ?_
                        refine z_callS (As := [.int 114, .int 101, .int 102, .int 114, .int 0, .int 0]) (rest := [.long va]) B (r_pack_114_101_102_114_0_0 G l Φ14 sz x (NNc t c) nw cr tp tt sI sT pt ql fl pe le nx il qu kn ec nu va st ep ti ad ob ra rt ex sa us tk th me dr se sn  hx hI14 hnw) (va_cwS 6 B.1.2.2.2.2 gX12_readStatement_X12_pack rfl rfl rfl (by decide +kernel) ⟨Nat.le_of_ble_eq_true rfl, Nat.le_of_ble_eq_true rfl⟩) rfl rfl (Nat.le_of_ble_eq_true rfl) dX12_readStatement_407 ⟨Nat.le_of_ble_eq_true rfl, Nat.le_of_ble_eq_true rfl⟩ (fun r_15 Φ15 sz15 st15 hp15 hs15 => ?_)
                        obtain ⟨rfl, hq15, hI15, hF15⟩ := hp15
                        subst sz15
                        replace hs15 : st15 = [.long 595154, .long va] := hs15
                        subst st15
                        replace hI15 : Im G x ((NNc t c), nw, cr, tp, tt, sI, sT, pt, ql, fl, pe, le, nx, il, qu, kn, ec, nu, va, st, ep, ti, ad, ob, ra, rt, ex, sa, us, tk, th, me, dr, se, sn) Φ15 := hI15
                        refine z_ldc2 (v := 32768) B (by decide +kernel) dX12_readStatement_410 ?_
                        refine z_lmul B dX12_readStatement_413 ?_
                        refine z_top (st1 := [.long 19502006272, .long va]) (congrArg (fun w9 : Int64 => ([.long w9, .long va] : List Value)) (show (595154 * 32768 : Int64) = 19502006272 by decide +kernel)) ?_
                        refine z_bipush (v := 101) B dX12_readStatement_414 rfl ?_
                        refine z_bipush (v := 115) B dX12_readStatement_416 rfl ?_
                        refine z_bipush (v := 104) B dX12_readStatement_418 rfl ?_
                        refine z_iconst (v := 0) B dX12_readStatement_420 rfl ?_
                        refine z_iconst (v := 0) B dX12_readStatement_421 rfl ?_
                        refine z_iconst (v := 0) B dX12_readStatement_422 rfl ?_
                        refine z_callS (As := [.int 101, .int 115, .int 104, .int 0, .int 0, .int 0]) (rest := [.long 19502006272, .long va]) B (r_pack_101_115_104_0_0_0 G l Φ15 sz x (NNc t c) nw cr tp tt sI sT pt ql fl pe le nx il qu kn ec nu va st ep ti ad ob ra rt ex sa us tk th me dr se sn  hx hI15 hnw) (va_cwS 6 B.1.2.2.2.2 gX12_readStatement_X12_pack rfl rfl rfl (by decide +kernel) ⟨Nat.le_of_ble_eq_true rfl, Nat.le_of_ble_eq_true rfl⟩) rfl rfl (Nat.le_of_ble_eq_true rfl) dX12_readStatement_423 ⟨Nat.le_of_ble_eq_true rfl, Nat.le_of_ble_eq_true rfl⟩ (fun r_16 Φ16 sz16 st16 hp16 hs16 => ?_)
                        obtain ⟨rfl, hq16, hI16, hF16⟩ := hp16
                        subst sz16
                        replace hs16 : st16 = [.long 5736, .long 19502006272, .long va] := hs16
                        subst st16
                        replace hI16 : Im G x ((NNc t c), nw, cr, tp, tt, sI, sT, pt, ql, fl, pe, le, nx, il, qu, kn, ec, nu, va, st, ep, ti, ad, ob, ra, rt, ex, sa, us, tk, th, me, dr, se, sn) Φ16 := hI16
                        refine z_ladd B dX12_readStatement_426 ?_
                        refine z_top (st1 := [.long 19502012008, .long va]) (congrArg (fun w9 : Int64 => ([.long w9, .long va] : List Value)) (show (19502006272 + 5736 : Int64) = 19502012008 by decide +kernel)) ?_
                        refine z_lcmp B dX12_readStatement_427 ?_
                        refine z_if_eq (tgt := 437) B dX12_readStatement_428 rfl (fun c_12 => ?_) (fun c_12 => ?_)
                        · refine z_aload_n B dX12_readStatement_437 rfl 0 rfl ?_
                          have h_13 : Φ16 (x + 25) = some (ab_ G 700 fB) := ((hF16 (x + 25) (fun j9 h8 h7 => (show False from h7).elim)).trans ((hF15 (x + 25) (fun j9 h8 h7 => (show False from h7).elim)).trans ((hF14 (x + 25) (fun j9 h8 h7 => (show False from h7).elim)).trans ((hF13 (x + 25) (fun j9 h8 h7 => (show False from h7).elim)).trans ((hF12 (x + 25) (fun j9 h8 h7 => (show False from h7).elim)).trans ((hF11 (x + 25) (fun j9 h8 h7 => (show False from h7).elim)).trans ((hF10 (x + 25) (fun j9 h8 h7 => (show False from h7).elim)).trans ((hF9 (x + 25) (fun j9 h8 h7 => (show False from h7).elim)).trans ((hF8 (x + 25) (fun j9 h8 h7 => (show False from h7).elim)).trans ((hF7 (x + 25) (fun j9 h8 h7 => (show False from h7).elim)).trans ((hF6 (x + 25) (fun j9 h8 h7 => (show False from h7).elim)).trans ((hF5 (x + 25) (fun j9 h8 h7 => (show False from h7).elim)).trans ((hF4 (x + 25) (fun j9 h8 h7 => (show False from h7).elim)).trans ((hF3 (x + 25) (fun j9 h8 h7 => (show False from h7).elim)).trans ((hF2 (x + 25) (fun j9 h8 h7 => (show False from h7).elim)).trans ((hF1 (x + 25) (fun j9 h8 h7 => (show False from h7).elim)).trans hc0))))))))))))))))
                          have h_14 : Φ16 x = some (o_ 14 [.int th, .ref (x + 1), .ref (x + 2), .int ti, .int ra, .int (nI rt), .int ex, .int ad, .ref (x + 3), .ref (x + 4), .int me, .long se, .ref (x + 5), .int (nI fl), .int dr, .long ob, .long sa, .long sn, .long us, .ref (x + 6), .ref (x + 7), .int (nI pe), .ref (x + 8), .int (nI le), .ref (x + 9), .ref (x + 10), .int (nI qu), .ref (x + 11), .ref (x + 12), .ref (x + 13), .ref (x + 14), .ref (x + 15), .ref (x + 16), .int (nI n_1), .long v_1, .ref (x + 17), .ref (x + 18), .ref (x + 19), .ref (x + 20), .ref (x + 21), .ref (x + 22), .int (nI n_2), .ref (x + 23), .ref (x + 24), .int (nI tk), .ref (x + 25), .int (nI il), .int (nI nx), .int ec, .int ep, .int kn, .int (nI st), .int nu, .long va]) := ((hF16 x (fun j9 h8 h7 => (show False from h7).elim)).trans ((hF15 x (fun j9 h8 h7 => (show False from h7).elim)).trans h_12))
                          refine z_callV (As := []) (rest := []) B (r_advanceToken G l Φ16 sz x (NNc t c) nw cr tp tt sI sT pt ql fl pe le nx il qu kn ec nu va st ep ti ad ob ra rt ex sa us tk th me dr se sn fB hx hI16 h_13 (show nx ≤ il by omega) (show il ≤ 700 by omega) hnw) (cwV 0 B.1.2.2.2.2 gX12_readStatement_X12_advanceToken rfl rfl rfl (by decide +kernel) ⟨Nat.le_of_ble_eq_true rfl, Nat.le_of_ble_eq_true rfl⟩) h_14 rfl rfl rfl rfl (Nat.le_of_ble_eq_true rfl) dX12_readStatement_438 ⟨Nat.le_of_ble_eq_true rfl, Nat.le_of_ble_eq_true rfl⟩ (fun r_17 Φ17 sz17 st17 hp17 hs17 => ?_)
                          obtain ⟨rfl, hq17, ⟨n_3, v_2, v_3, n_4, b_20, hI17⟩, hF17⟩ := hp17
                          subst sz17
                          replace hs17 : st17 = [] := hs17
                          subst st17
                          replace hI17 : Im G x ((NNc t c), nw, cr, tp, tt, sI, sT, pt, ql, fl, pe, le, n_3, il, qu, v_2, ec, nu, v_3, n_4, ep, ti, ad, ob, ra, rt, ex, sa, us, tk, th, me, dr, se, sn) Φ17 := hI17
                          replace b_20 : TkR (bA fB il) nx v_2 n_4 n_3 v_3 := b_20
                          obtain ⟨b_21, b_22, b_23, b_24⟩ := TkR_b b_20 (by omega)
                          refine z_aload_n B dX12_readStatement_441 rfl 0 rfl ?_
                          refine z_iconst (v := 4) B dX12_readStatement_442 rfl ?_
                          refine z_iconst (v := 1) B dX12_readStatement_443 rfl ?_
                          refine z_sipush (v := 1000) B dX12_readStatement_444 rfl ?_
                          obtain ⟨n_5, v_4, n_6, h_15, b_37, b_25, b_26, b_27, b_28, b_29, b_30, b_31, b_32, b_33, b_34, b_35, b_36⟩ := im0 hI17
                          replace b_25 : 1 ≤ rt := b_25
                          replace b_26 : rt ≤ 1024 := b_26
                          replace b_27 : fl ≤ 12 := b_27
                          replace b_28 : pe ≤ 24 := b_28
                          replace b_29 : le ≤ 700 := b_29
                          replace b_30 : qu ≤ 12 := b_30
                          replace b_31 : n_5 ≤ 8 := b_31
                          replace b_32 : n_6 ≤ 24 := b_32
                          replace b_33 : tk ≤ 24 := b_33
                          replace b_34 : il ≤ 700 := b_34
                          replace b_35 : n_3 ≤ 701 := b_35
                          replace b_36 : n_4 ≤ 701 := b_36
                          have h_16 : Φ17 x = some (o_ 14 [.int th, .ref (x + 1), .ref (x + 2), .int ti, .int ra, .int (nI rt), .int ex, .int ad, .ref (x + 3), .ref (x + 4), .int me, .long se, .ref (x + 5), .int (nI fl), .int dr, .long ob, .long sa, .long sn, .long us, .ref (x + 6), .ref (x + 7), .int (nI pe), .ref (x + 8), .int (nI le), .ref (x + 9), .ref (x + 10), .int (nI qu), .ref (x + 11), .ref (x + 12), .ref (x + 13), .ref (x + 14), .ref (x + 15), .ref (x + 16), .int (nI n_5), .long v_4, .ref (x + 17), .ref (x + 18), .ref (x + 19), .ref (x + 20), .ref (x + 21), .ref (x + 22), .int (nI n_6), .ref (x + 23), .ref (x + 24), .int (nI tk), .ref (x + 25), .int (nI il), .int (nI n_3), .int ec, .int ep, .int v_2, .int (nI n_4), .int nu, .long v_3]) := h_15
                          have h_17 : Φ17 (x + 25) = some (ab_ G 700 fB) := ((hF17 (x + 25) fq_1182).trans h_13)
                          refine z_callV (As := [.int 4, .int 1, .int 1000]) (rest := []) B (r_readInto G l Φ17 sz x nw cr tp tt sI sT pt ql fl pe le n_3 il qu v_2 ec nu v_3 n_4 ep ti ad ob ra rt ex sa us tk th me dr se sn fB nx t c 4 1 1000 hx hI17 h_17 b_20 (show nx ≤ il by omega) (show il ≤ 700 by omega) (show 1 < 2 ^ 31 by omega) (show 4 < 307 by omega) (show ¬ 4 = 10 by omega) (fun n h1 h2 f h => NN.up h (by decide) (fun e9 => absurd e9 (by decide)) (fun e9 => absurd e9 (by decide)) (fun e9 => absurd e9 (by decide)) (fun e9 => absurd e9 (by decide))) hnw) (cwV 3 B.1.2.2.2.2 gX12_readStatement_X12_readInto rfl rfl rfl (by decide +kernel) ⟨Nat.le_of_ble_eq_true rfl, Nat.le_of_ble_eq_true rfl⟩) h_16 rfl rfl rfl rfl (Nat.le_of_ble_eq_true rfl) dX12_readStatement_447 ⟨Nat.le_of_ble_eq_true rfl, Nat.le_of_ble_eq_true rfl⟩ (fun r_18 Φ18 sz18 st18 hp18 hs18 => ?_)
                          obtain ⟨-, hq18, ⟨n_7, v_5, v_6, v_7, v_8, n_8, v_9, n_9, n_10, b_38, hI18⟩, hF18⟩ := hp18
                          subst sz18
                          replace hI18 : Im G x (NNc n_9 n_10, nw, cr, tp, tt, sI, sT, pt, ql, fl, pe, le, n_7, il, qu, v_5, v_6, v_7, v_8, n_8, v_9, ti, ad, ob, ra, rt, ex, sa, us, tk, th, me, dr, se, sn) Φ18 := hI18
                          replace b_38 : (∃ w9 : Nat, r_18 = some (.int 1) ∧ numAt (bA fB il) nx (1 : Int) (1000 : Int32).toInt = (0, n_3, w9) ∧ v_7 = nI w9 ∧ t = n_9 ∧ n_10 = upd c 4 (nI w9) ∧ w9 < 1000000 ∧ ((1 : Nat) : Int) ≤ w9 ∧ (w9 : Int) ≤ (1000 : Int32).toInt ∧ ec = v_6 ∧ ep = v_9 ∧ TkR (bA fB il) n_3 v_5 n_8 n_7 v_8) ∨ (∃ er9 : Nat, r_18 = some (.int 0) ∧ numAt (bA fB il) nx (1 : Int) (1000 : Int32).toInt = (er9, n_4, 0) ∧ (¬ er9 = 0 ∧ er9 ≤ 4) ∧ v_6 = nI er9 ∧ v_9 = nI n_4) := b_38
                          rcases b_38 with ⟨w_1, rfl, hN1, rfl, rfl, rfl, b_39, b_40, b_41, rfl, rfl, hT3⟩ | ⟨er_1, rfl, hN2, he1, rfl, rfl⟩
                          · replace hT3 : TkR (bA fB il) n_3 v_5 n_8 n_7 v_8 := hT3
                            obtain ⟨b_42, b_43, b_44, b_45⟩ := TkR_b hT3 (by omega)
                            replace hs18 : st18 = [.int 1] := hs18
                            subst st18
                            replace hN1 : numAt (bA fB il) nx (1 : Int) (1000 : Int32).toInt = (0, n_3, w_1) := hN1
                            replace b_40 : ((1 : Nat) : Int) ≤ w_1 := b_40
                            replace b_41 : (w_1 : Int) ≤ (1000 : Int32).toInt := b_41
                            have b_46 : (1000 : Int32).toInt = 1000 := by decide
                            refine z_if_eq (tgt := 476) B dX12_readStatement_450 rfl (fun h9 => absurd h9 (by decide)) (fun c_13 => ?_)
                            refine z_aload_n B dX12_readStatement_453 rfl 0 rfl ?_
                            refine z_iconst (v := 5) B dX12_readStatement_454 rfl ?_
                            refine z_iconst (v := 1) B dX12_readStatement_455 rfl ?_
                            refine z_ldcw (v := 100000) B (by decide +kernel) dX12_readStatement_456 ?_
                            obtain ⟨n_11, v_10, n_12, h_18, b_59, b_47, b_48, b_49, b_50, b_51, b_52, b_53, b_54, b_55, b_56, b_57, b_58⟩ := im0 hI18
                            replace b_47 : 1 ≤ rt := b_47
                            replace b_48 : rt ≤ 1024 := b_48
                            replace b_49 : fl ≤ 12 := b_49
                            replace b_50 : pe ≤ 24 := b_50
                            replace b_51 : le ≤ 700 := b_51
                            replace b_52 : qu ≤ 12 := b_52
                            replace b_53 : n_11 ≤ 8 := b_53
                            replace b_54 : n_12 ≤ 24 := b_54
                            replace b_55 : tk ≤ 24 := b_55
                            replace b_56 : il ≤ 700 := b_56
                            replace b_57 : n_7 ≤ 701 := b_57
                            replace b_58 : n_8 ≤ 701 := b_58
                            have h_19 : Φ18 x = some (o_ 14 [.int th, .ref (x + 1), .ref (x + 2), .int ti, .int ra, .int (nI rt), .int ex, .int ad, .ref (x + 3), .ref (x + 4), .int me, .long se, .ref (x + 5), .int (nI fl), .int dr, .long ob, .long sa, .long sn, .long us, .ref (x + 6), .ref (x + 7), .int (nI pe), .ref (x + 8), .int (nI le), .ref (x + 9), .ref (x + 10), .int (nI qu), .ref (x + 11), .ref (x + 12), .ref (x + 13), .ref (x + 14), .ref (x + 15), .ref (x + 16), .int (nI n_11), .long v_10, .ref (x + 17), .ref (x + 18), .ref (x + 19), .ref (x + 20), .ref (x + 21), .ref (x + 22), .int (nI n_12), .ref (x + 23), .ref (x + 24), .int (nI tk), .ref (x + 25), .int (nI il), .int (nI n_7), .int ec, .int ep, .int v_5, .int (nI n_8), .int (nI w_1), .long v_8]) := h_18
                            have h_20 : Φ18 (x + 25) = some (ab_ G 700 fB) := ((hF18 (x + 25) fq_1203).trans h_17)
                            refine z_callV (As := [.int 5, .int 1, .int 100000]) (rest := []) B (r_readInto G l Φ18 sz x nw cr tp tt sI sT pt ql fl pe le n_7 il qu v_5 ec (nI w_1) v_8 n_8 ep ti ad ob ra rt ex sa us tk th me dr se sn fB n_3 t (upd c 4 (nI w_1)) 5 1 100000 hx hI18 h_20 hT3 (show n_3 ≤ il by omega) (show il ≤ 700 by omega) (show 1 < 2 ^ 31 by omega) (show 5 < 307 by omega) (show ¬ 5 = 10 by omega) (fun n h1 h2 f h => NN.up h (by decide) (fun e9 => absurd e9 (by decide)) (fun e9 => absurd e9 (by decide)) (fun e9 => absurd e9 (by decide)) (fun e9 => absurd e9 (by decide))) hnw) (cwV 3 B.1.2.2.2.2 gX12_readStatement_X12_readInto rfl rfl rfl (by decide +kernel) ⟨Nat.le_of_ble_eq_true rfl, Nat.le_of_ble_eq_true rfl⟩) h_19 rfl rfl rfl rfl (Nat.le_of_ble_eq_true rfl) dX12_readStatement_459 ⟨Nat.le_of_ble_eq_true rfl, Nat.le_of_ble_eq_true rfl⟩ (fun r_19 Φ19 sz19 st19 hp19 hs19 => ?_)
                            obtain ⟨-, hq19, ⟨n_13, v_11, v_12, v_13, v_14, n_14, v_15, n_15, n_16, b_60, hI19⟩, hF19⟩ := hp19
                            subst sz19
                            replace hI19 : Im G x (NNc n_15 n_16, nw, cr, tp, tt, sI, sT, pt, ql, fl, pe, le, n_13, il, qu, v_11, v_12, v_13, v_14, n_14, v_15, ti, ad, ob, ra, rt, ex, sa, us, tk, th, me, dr, se, sn) Φ19 := hI19
                            replace b_60 : (∃ w9 : Nat, r_19 = some (.int 1) ∧ numAt (bA fB il) n_3 (1 : Int) (100000 : Int32).toInt = (0, n_7, w9) ∧ v_13 = nI w9 ∧ t = n_15 ∧ n_16 = upd (upd c 4 (nI w_1)) 5 (nI w9) ∧ w9 < 1000000 ∧ ((1 : Nat) : Int) ≤ w9 ∧ (w9 : Int) ≤ (100000 : Int32).toInt ∧ ec = v_12 ∧ ep = v_15 ∧ TkR (bA fB il) n_7 v_11 n_14 n_13 v_14) ∨ (∃ er9 : Nat, r_19 = some (.int 0) ∧ numAt (bA fB il) n_3 (1 : Int) (100000 : Int32).toInt = (er9, n_8, 0) ∧ (¬ er9 = 0 ∧ er9 ≤ 4) ∧ v_12 = nI er9 ∧ v_15 = nI n_8) := b_60
                            rcases b_60 with ⟨w_2, rfl, hN3, rfl, rfl, rfl, b_61, b_62, b_63, rfl, rfl, hT4⟩ | ⟨er_2, rfl, hN4, he2, rfl, rfl⟩
                            · replace hT4 : TkR (bA fB il) n_7 v_11 n_14 n_13 v_14 := hT4
                              obtain ⟨b_64, b_65, b_66, b_67⟩ := TkR_b hT4 (by omega)
                              replace hs19 : st19 = [.int 1] := hs19
                              subst st19
                              replace hN3 : numAt (bA fB il) n_3 (1 : Int) (100000 : Int32).toInt = (0, n_7, w_2) := hN3
                              replace b_62 : ((1 : Nat) : Int) ≤ w_2 := b_62
                              replace b_63 : (w_2 : Int) ≤ (100000 : Int32).toInt := b_63
                              have b_68 : (100000 : Int32).toInt = 100000 := by decide
                              refine z_if_eq (tgt := 476) B dX12_readStatement_462 rfl (fun h9 => absurd h9 (by decide)) (fun c_14 => ?_)
                              refine z_aload_n B dX12_readStatement_465 rfl 0 rfl ?_
                              obtain ⟨n_17, v_16, n_18, h_21, b_81, b_69, b_70, b_71, b_72, b_73, b_74, b_75, b_76, b_77, b_78, b_79, b_80⟩ := im0 hI19
                              replace b_69 : 1 ≤ rt := b_69
                              replace b_70 : rt ≤ 1024 := b_70
                              replace b_71 : fl ≤ 12 := b_71
                              replace b_72 : pe ≤ 24 := b_72
                              replace b_73 : le ≤ 700 := b_73
                              replace b_74 : qu ≤ 12 := b_74
                              replace b_75 : n_17 ≤ 8 := b_75
                              replace b_76 : n_18 ≤ 24 := b_76
                              replace b_77 : tk ≤ 24 := b_77
                              replace b_78 : il ≤ 700 := b_78
                              replace b_79 : n_13 ≤ 701 := b_79
                              replace b_80 : n_14 ≤ 701 := b_80
                              have h_22 : Φ19 x = some (o_ 14 [.int th, .ref (x + 1), .ref (x + 2), .int ti, .int ra, .int (nI rt), .int ex, .int ad, .ref (x + 3), .ref (x + 4), .int me, .long se, .ref (x + 5), .int (nI fl), .int dr, .long ob, .long sa, .long sn, .long us, .ref (x + 6), .ref (x + 7), .int (nI pe), .ref (x + 8), .int (nI le), .ref (x + 9), .ref (x + 10), .int (nI qu), .ref (x + 11), .ref (x + 12), .ref (x + 13), .ref (x + 14), .ref (x + 15), .ref (x + 16), .int (nI n_17), .long v_16, .ref (x + 17), .ref (x + 18), .ref (x + 19), .ref (x + 20), .ref (x + 21), .ref (x + 22), .int (nI n_18), .ref (x + 23), .ref (x + 24), .int (nI tk), .ref (x + 25), .int (nI il), .int (nI n_13), .int ec, .int ep, .int v_11, .int (nI n_14), .int (nI w_2), .long v_14]) := h_21
                              have h_23 : Φ19 (x + 25) = some (ab_ G 700 fB) := ((hF19 (x + 25) fq_1203).trans h_20)
                              refine z_callV (As := []) (rest := []) B (r_readEnd G l Φ19 sz x (NNc t (upd (upd c 4 (nI w_1)) 5 (nI w_2))) nw cr tp tt sI sT pt ql fl pe le n_13 il qu v_11 ec (nI w_2) v_14 n_14 ep ti ad ob ra rt ex sa us tk th me dr se sn fB n_7 hx hI19 h_23 hT4 (show n_7 ≤ il by omega) (show il ≤ 700 by omega) hnw) (cwV 0 B.1.2.2.2.2 gX12_readStatement_X12_readEnd rfl rfl rfl (by decide +kernel) ⟨Nat.le_of_ble_eq_true rfl, Nat.le_of_ble_eq_true rfl⟩) h_22 rfl rfl rfl rfl (Nat.le_of_ble_eq_true rfl) dX12_readStatement_466 ⟨Nat.le_of_ble_eq_true rfl, Nat.le_of_ble_eq_true rfl⟩ (fun r_20 Φ20 sz20 st20 hp20 hs20 => ?_)
                              obtain ⟨-, hq20, ⟨n_19, v_17, v_18, v_19, v_20, n_20, v_21, b_82, hI20⟩, hF20⟩ := hp20
                              subst sz20
                              replace hI20 : Im G x ((NNc t (upd (upd c 4 (nI w_1)) 5 (nI w_2))), nw, cr, tp, tt, sI, sT, pt, ql, fl, pe, le, n_19, il, qu, v_17, v_18, v_19, v_20, n_20, v_21, ti, ad, ob, ra, rt, ex, sa, us, tk, th, me, dr, se, sn) Φ20 := hI20
                              replace b_82 : (r_20 = some (.int 1) ∧ semi (bA fB il) n_7 = (0, n_13) ∧ ec = v_18 ∧ ep = v_21 ∧ (nI w_2) = v_19 ∧ TkR (bA fB il) n_13 v_17 n_20 n_19 v_20) ∨ (r_20 = some (.int 0) ∧ semi (bA fB il) n_7 = (1, n_14) ∧ v_18 = 1 ∧ v_21 = nI n_14) := b_82
                              rcases b_82 with ⟨rfl, hN5, rfl, rfl, rfl, hT5⟩ | ⟨rfl, hN6, rfl, rfl⟩
                              · replace hT5 : TkR (bA fB il) n_13 v_17 n_20 n_19 v_20 := hT5
                                obtain ⟨b_83, b_84, b_85, b_86⟩ := TkR_b hT5 (by omega)
                                replace hs20 : st20 = [.int 1] := hs20
                                subst st20
                                replace hN5 : semi (bA fB il) n_7 = (0, n_13) := hN5
                                have b_87 := semi_lt hT4 (by omega) hN5
                                refine z_if_eq (tgt := 476) B dX12_readStatement_469 rfl (fun h9 => absurd h9 (by decide)) (fun c_15 => ?_)
                                refine z_iconst (v := 1) B dX12_readStatement_472 rfl ?_
                                refine z_goto (tgt := 477) B dX12_readStatement_473 rfl ?_
                                have hN7 := hN1
                                rw [show (1 : Int) = loS 4 from by decide, show (1000 : Int32).toInt = hiS 4 from by decide] at hN7
                                have hN8 := hN3
                                rw [show (1 : Int) = loS 5 from by decide, show (100000 : Int32).toInt = hiS 5 from by decide] at hN8
                                exact z_ret_z B dX12_readStatement_477 (by decide) ⟨(Or.inr rfl), rfl, ⟨n_19, v_17, ec, nI w_2, v_20, n_20, ep, t, upd (upd c 4 (nI w_1)) 5 (nI w_2), (Or.inl ⟨n_13, rfl, (congrArg (fun q9 => stK (bA fB il) q9 st nx c) (congrArg Prod.fst (tk_eq hT2))).trans ((stK_r (st_hit (i := 4) hT2 hp hv1 (by decide) (by decide) ((lcmp_eq c_12).trans (by decide +kernel)))).trans ((congrArg (endA (bA fB il)) (refA_0 (setA_0 hN7) (setA_0 hN8))).trans (endA_0 hN5))), rfl, rfl, (upd_ne (by decide)).trans ((upd_ne (by decide)).trans hct), by omega, by omega, by omega, hT5⟩), hI20⟩, (fun b9 h9 => ((hF20 b9 (fun j9 h8 h7 => h9 j9 h8 (fq_1202 j9 h7))).trans ((hF19 b9 h9).trans ((hF18 b9 h9).trans ((hF17 b9 (fun j9 h8 h7 => h9 j9 h8 (fq_1202 j9 h7))).trans ((hF16 b9 (fun j9 h8 h7 => (show False from h7).elim)).trans ((hF15 b9 (fun j9 h8 h7 => (show False from h7).elim)).trans ((hF14 b9 (fun j9 h8 h7 => (show False from h7).elim)).trans ((hF13 b9 (fun j9 h8 h7 => (show False from h7).elim)).trans ((hF12 b9 (fun j9 h8 h7 => (show False from h7).elim)).trans ((hF11 b9 (fun j9 h8 h7 => (show False from h7).elim)).trans ((hF10 b9 (fun j9 h8 h7 => (show False from h7).elim)).trans ((hF9 b9 (fun j9 h8 h7 => (show False from h7).elim)).trans ((hF8 b9 (fun j9 h8 h7 => (show False from h7).elim)).trans ((hF7 b9 (fun j9 h8 h7 => (show False from h7).elim)).trans ((hF6 b9 (fun j9 h8 h7 => (show False from h7).elim)).trans ((hF5 b9 (fun j9 h8 h7 => (show False from h7).elim)).trans ((hF4 b9 (fun j9 h8 h7 => (show False from h7).elim)).trans ((hF3 b9 (fun j9 h8 h7 => (show False from h7).elim)).trans ((hF2 b9 (fun j9 h8 h7 => (show False from h7).elim)).trans ((hF1 b9 (fun j9 h8 h7 => (show False from h7).elim)).trans rfl)))))))))))))))))))))⟩
                              · replace hs20 : st20 = [.int 0] := hs20
                                subst st20
                                replace hN6 : semi (bA fB il) n_7 = (1, n_14) := hN6
                                refine z_if_eq (tgt := 476) B dX12_readStatement_469 rfl (fun c_16 => ?_) (fun h9 => absurd (by decide) h9)
                                refine z_iconst (v := 0) B dX12_readStatement_476 rfl ?_
                                have hN9 := hN1
                                rw [show (1 : Int) = loS 4 from by decide, show (1000 : Int32).toInt = hiS 4 from by decide] at hN9
                                have hN10 := hN3
                                rw [show (1 : Int) = loS 5 from by decide, show (100000 : Int32).toInt = hiS 5 from by decide] at hN10
                                exact z_ret_z B dX12_readStatement_477 (by decide) ⟨(Or.inl rfl), rfl, ⟨n_19, v_17, 1, v_19, v_20, n_20, nI n_14, t, upd (upd c 4 (nI w_1)) 5 (nI w_2), (Or.inr ⟨1, n_14, _, rfl, (congrArg (fun q9 => stK (bA fB il) q9 st nx c) (congrArg Prod.fst (tk_eq hT2))).trans ((stK_r (st_hit (i := 4) hT2 hp hv1 (by decide) (by decide) ((lcmp_eq c_12).trans (by decide +kernel)))).trans ((congrArg (endA (bA fB il)) (refA_0 (setA_0 hN9) (setA_0 hN10))).trans (endA_0 hN6))), ⟨by omega, by omega⟩, rfl, rfl⟩), hI20⟩, (fun b9 h9 => ((hF20 b9 (fun j9 h8 h7 => h9 j9 h8 (fq_1202 j9 h7))).trans ((hF19 b9 h9).trans ((hF18 b9 h9).trans ((hF17 b9 (fun j9 h8 h7 => h9 j9 h8 (fq_1202 j9 h7))).trans ((hF16 b9 (fun j9 h8 h7 => (show False from h7).elim)).trans ((hF15 b9 (fun j9 h8 h7 => (show False from h7).elim)).trans ((hF14 b9 (fun j9 h8 h7 => (show False from h7).elim)).trans ((hF13 b9 (fun j9 h8 h7 => (show False from h7).elim)).trans ((hF12 b9 (fun j9 h8 h7 => (show False from h7).elim)).trans ((hF11 b9 (fun j9 h8 h7 => (show False from h7).elim)).trans ((hF10 b9 (fun j9 h8 h7 => (show False from h7).elim)).trans ((hF9 b9 (fun j9 h8 h7 => (show False from h7).elim)).trans ((hF8 b9 (fun j9 h8 h7 => (show False from h7).elim)).trans ((hF7 b9 (fun j9 h8 h7 => (show False from h7).elim)).trans ((hF6 b9 (fun j9 h8 h7 => (show False from h7).elim)).trans ((hF5 b9 (fun j9 h8 h7 => (show False from h7).elim)).trans ((hF4 b9 (fun j9 h8 h7 => (show False from h7).elim)).trans ((hF3 b9 (fun j9 h8 h7 => (show False from h7).elim)).trans ((hF2 b9 (fun j9 h8 h7 => (show False from h7).elim)).trans ((hF1 b9 (fun j9 h8 h7 => (show False from h7).elim)).trans rfl)))))))))))))))))))))⟩
                            · replace hs19 : st19 = [.int 0] := hs19
                              subst st19
                              replace hN4 : numAt (bA fB il) n_3 (1 : Int) (100000 : Int32).toInt = (er_2, n_8, 0) := hN4
                              replace he2 : ¬ er_2 = 0 ∧ er_2 ≤ 4 := he2
                              refine z_if_eq (tgt := 476) B dX12_readStatement_462 rfl (fun c_17 => ?_) (fun h9 => absurd (by decide) h9)
                              refine z_iconst (v := 0) B dX12_readStatement_476 rfl ?_
                              have hN11 := hN1
                              rw [show (1 : Int) = loS 4 from by decide, show (1000 : Int32).toInt = hiS 4 from by decide] at hN11
                              have hN12 := hN4
                              rw [show (1 : Int) = loS 5 from by decide, show (100000 : Int32).toInt = hiS 5 from by decide] at hN12
                              exact z_ret_z B dX12_readStatement_477 (by decide) ⟨(Or.inl rfl), rfl, ⟨n_13, v_11, nI er_2, v_13, v_14, n_14, nI n_8, n_15, n_16, (Or.inr ⟨er_2, n_8, _, rfl, (congrArg (fun q9 => stK (bA fB il) q9 st nx c) (congrArg Prod.fst (tk_eq hT2))).trans ((stK_r (st_hit (i := 4) hT2 hp hv1 (by decide) (by decide) ((lcmp_eq c_12).trans (by decide +kernel)))).trans ((congrArg (endA (bA fB il)) (refA_0 (setA_0 hN11) (setA_e hN12 he2.1))).trans (endA_e he2.1))), ⟨by omega, by omega⟩, rfl, rfl⟩), hI19⟩, (fun b9 h9 => ((hF19 b9 h9).trans ((hF18 b9 h9).trans ((hF17 b9 (fun j9 h8 h7 => h9 j9 h8 (fq_1202 j9 h7))).trans ((hF16 b9 (fun j9 h8 h7 => (show False from h7).elim)).trans ((hF15 b9 (fun j9 h8 h7 => (show False from h7).elim)).trans ((hF14 b9 (fun j9 h8 h7 => (show False from h7).elim)).trans ((hF13 b9 (fun j9 h8 h7 => (show False from h7).elim)).trans ((hF12 b9 (fun j9 h8 h7 => (show False from h7).elim)).trans ((hF11 b9 (fun j9 h8 h7 => (show False from h7).elim)).trans ((hF10 b9 (fun j9 h8 h7 => (show False from h7).elim)).trans ((hF9 b9 (fun j9 h8 h7 => (show False from h7).elim)).trans ((hF8 b9 (fun j9 h8 h7 => (show False from h7).elim)).trans ((hF7 b9 (fun j9 h8 h7 => (show False from h7).elim)).trans ((hF6 b9 (fun j9 h8 h7 => (show False from h7).elim)).trans ((hF5 b9 (fun j9 h8 h7 => (show False from h7).elim)).trans ((hF4 b9 (fun j9 h8 h7 => (show False from h7).elim)).trans ((hF3 b9 (fun j9 h8 h7 => (show False from h7).elim)).trans ((hF2 b9 (fun j9 h8 h7 => (show False from h7).elim)).trans ((hF1 b9 (fun j9 h8 h7 => (show False from h7).elim)).trans rfl))))))))))))))))))))⟩
                          · replace hs18 : st18 = [.int 0] := hs18
                            subst st18
                            replace hN2 : numAt (bA fB il) nx (1 : Int) (1000 : Int32).toInt = (er_1, n_4, 0) := hN2
                            replace he1 : ¬ er_1 = 0 ∧ er_1 ≤ 4 := he1
                            refine z_if_eq (tgt := 476) B dX12_readStatement_450 rfl (fun c_18 => ?_) (fun h9 => absurd (by decide) h9)
                            refine z_iconst (v := 0) B dX12_readStatement_476 rfl ?_
                            have hN13 := hN2
                            rw [show (1 : Int) = loS 4 from by decide, show (1000 : Int32).toInt = hiS 4 from by decide] at hN13
                            exact z_ret_z B dX12_readStatement_477 (by decide) ⟨(Or.inl rfl), rfl, ⟨n_7, v_5, nI er_1, v_7, v_8, n_8, nI n_4, n_9, n_10, (Or.inr ⟨er_1, n_4, _, rfl, (congrArg (fun q9 => stK (bA fB il) q9 st nx c) (congrArg Prod.fst (tk_eq hT2))).trans ((stK_r (st_hit (i := 4) hT2 hp hv1 (by decide) (by decide) ((lcmp_eq c_12).trans (by decide +kernel)))).trans ((congrArg (endA (bA fB il)) (refA_1 (setA_e hN13 he1.1) he1.1)).trans (endA_e he1.1))), ⟨by omega, by omega⟩, rfl, rfl⟩), hI18⟩, (fun b9 h9 => ((hF18 b9 h9).trans ((hF17 b9 (fun j9 h8 h7 => h9 j9 h8 (fq_1202 j9 h7))).trans ((hF16 b9 (fun j9 h8 h7 => (show False from h7).elim)).trans ((hF15 b9 (fun j9 h8 h7 => (show False from h7).elim)).trans ((hF14 b9 (fun j9 h8 h7 => (show False from h7).elim)).trans ((hF13 b9 (fun j9 h8 h7 => (show False from h7).elim)).trans ((hF12 b9 (fun j9 h8 h7 => (show False from h7).elim)).trans ((hF11 b9 (fun j9 h8 h7 => (show False from h7).elim)).trans ((hF10 b9 (fun j9 h8 h7 => (show False from h7).elim)).trans ((hF9 b9 (fun j9 h8 h7 => (show False from h7).elim)).trans ((hF8 b9 (fun j9 h8 h7 => (show False from h7).elim)).trans ((hF7 b9 (fun j9 h8 h7 => (show False from h7).elim)).trans ((hF6 b9 (fun j9 h8 h7 => (show False from h7).elim)).trans ((hF5 b9 (fun j9 h8 h7 => (show False from h7).elim)).trans ((hF4 b9 (fun j9 h8 h7 => (show False from h7).elim)).trans ((hF3 b9 (fun j9 h8 h7 => (show False from h7).elim)).trans ((hF2 b9 (fun j9 h8 h7 => (show False from h7).elim)).trans ((hF1 b9 (fun j9 h8 h7 => (show False from h7).elim)).trans rfl)))))))))))))))))))⟩
                        · refine z_aload_n B dX12_readStatement_431 rfl 0 rfl ?_
                          refine z_iconst (v := 1) B dX12_readStatement_432 rfl ?_
                          have h_24 : Φ16 x = some (o_ 14 [.int th, .ref (x + 1), .ref (x + 2), .int ti, .int ra, .int (nI rt), .int ex, .int ad, .ref (x + 3), .ref (x + 4), .int me, .long se, .ref (x + 5), .int (nI fl), .int dr, .long ob, .long sa, .long sn, .long us, .ref (x + 6), .ref (x + 7), .int (nI pe), .ref (x + 8), .int (nI le), .ref (x + 9), .ref (x + 10), .int (nI qu), .ref (x + 11), .ref (x + 12), .ref (x + 13), .ref (x + 14), .ref (x + 15), .ref (x + 16), .int (nI n_1), .long v_1, .ref (x + 17), .ref (x + 18), .ref (x + 19), .ref (x + 20), .ref (x + 21), .ref (x + 22), .int (nI n_2), .ref (x + 23), .ref (x + 24), .int (nI tk), .ref (x + 25), .int (nI il), .int (nI nx), .int ec, .int ep, .int kn, .int (nI st), .int nu, .long va]) := ((hF16 x (fun j9 h8 h7 => (show False from h7).elim)).trans ((hF15 x (fun j9 h8 h7 => (show False from h7).elim)).trans h_12))
                          refine z_callV (As := [.int 1]) (rest := []) B (r_fail G l Φ16 sz x (NNc t c) nw cr tp tt sI sT pt ql fl pe le nx il qu kn ec nu va st ep ti ad ob ra rt ex sa us tk th me dr se sn 1 hx hI16 hnw) (cwV 1 B.1.2.2.2.2 gX12_readStatement_X12_fail rfl rfl rfl (by decide +kernel) ⟨Nat.le_of_ble_eq_true rfl, Nat.le_of_ble_eq_true rfl⟩) h_24 rfl rfl rfl rfl (Nat.le_of_ble_eq_true rfl) dX12_readStatement_433 ⟨Nat.le_of_ble_eq_true rfl, Nat.le_of_ble_eq_true rfl⟩ (fun r_21 Φ21 sz21 st21 hp21 hs21 => ?_)
                          obtain ⟨rfl, hq21, hI21, hF21⟩ := hp21
                          subst sz21
                          replace hs21 : st21 = [.int 0] := hs21
                          subst st21
                          replace hI21 : Im G x ((NNc t c), nw, cr, tp, tt, sI, sT, pt, ql, fl, pe, le, nx, il, qu, kn, 1, nu, va, st, nI st, ti, ad, ob, ra, rt, ex, sa, us, tk, th, me, dr, se, sn) Φ21 := hI21
                          have hm9 : ∀ i, i < 12 → ¬ i = 5 → ¬ va = Int64.ofNat (pkL (stW.getD i [])) := by
                            intro i hi h5 e
                            rcases (show i = 0 ∨ i = 1 ∨ i = 2 ∨ i = 3 ∨ i = 4 ∨ i = 6 ∨ i = 7 ∨ i = 8 ∨ i = 9 ∨ i = 10 ∨ i = 11 by omega) with rfl | rfl | rfl | rfl | rfl | rfl | rfl | rfl | rfl | rfl | rfl
                            · exact c_2 ((lg_cmp_eq _ _).mpr (e.trans (by decide +kernel)))
                            · exact c_3 ((lg_cmp_eq _ _).mpr (e.trans (by decide +kernel)))
                            · exact c_4 ((lg_cmp_eq _ _).mpr (e.trans (by decide +kernel)))
                            · exact c_5 ((lg_cmp_eq _ _).mpr (e.trans (by decide +kernel)))
                            · exact c_12 ((lg_cmp_eq _ _).mpr (e.trans (by decide +kernel)))
                            · exact c_6 ((lg_cmp_eq _ _).mpr (e.trans (by decide +kernel)))
                            · exact c_7 ((lg_cmp_eq _ _).mpr (e.trans (by decide +kernel)))
                            · exact c_8 ((lg_cmp_eq _ _).mpr (e.trans (by decide +kernel)))
                            · exact c_9 ((lg_cmp_eq _ _).mpr (e.trans (by decide +kernel)))
                            · exact c_10 ((lg_cmp_eq _ _).mpr (e.trans (by decide +kernel)))
                            · exact c_11 ((lg_cmp_eq _ _).mpr (e.trans (by decide +kernel)))
                          exact z_ret_z B dX12_readStatement_436 (by decide) ⟨(Or.inl rfl), rfl, ⟨nx, kn, 1, nu, va, st, nI st, t, c, (Or.inr ⟨1, st, c, rfl, (congrArg (fun q9 => stK (bA fB il) q9 st nx c) (congrArg Prod.fst (tk_eq hT2))).trans (stK_1 (st_mis hT2 hp hv1 hm9)), ⟨by omega, by omega⟩, rfl, rfl⟩), hI21⟩, (fun b9 h9 => ((hF21 b9 (fun j9 h8 h7 => h9 j9 h8 (fq_1202 j9 h7))).trans ((hF16 b9 (fun j9 h8 h7 => (show False from h7).elim)).trans ((hF15 b9 (fun j9 h8 h7 => (show False from h7).elim)).trans ((hF14 b9 (fun j9 h8 h7 => (show False from h7).elim)).trans ((hF13 b9 (fun j9 h8 h7 => (show False from h7).elim)).trans ((hF12 b9 (fun j9 h8 h7 => (show False from h7).elim)).trans ((hF11 b9 (fun j9 h8 h7 => (show False from h7).elim)).trans ((hF10 b9 (fun j9 h8 h7 => (show False from h7).elim)).trans ((hF9 b9 (fun j9 h8 h7 => (show False from h7).elim)).trans ((hF8 b9 (fun j9 h8 h7 => (show False from h7).elim)).trans ((hF7 b9 (fun j9 h8 h7 => (show False from h7).elim)).trans ((hF6 b9 (fun j9 h8 h7 => (show False from h7).elim)).trans ((hF5 b9 (fun j9 h8 h7 => (show False from h7).elim)).trans ((hF4 b9 (fun j9 h8 h7 => (show False from h7).elim)).trans ((hF3 b9 (fun j9 h8 h7 => (show False from h7).elim)).trans ((hF2 b9 (fun j9 h8 h7 => (show False from h7).elim)).trans ((hF1 b9 (fun j9 h8 h7 => (show False from h7).elim)).trans rfl))))))))))))))))))⟩
                      · refine z_aload_n B dX12_readStatement_388 rfl 0 rfl ?_
                        have h_25 : Φ14 (x + 25) = some (ab_ G 700 fB) := ((hF14 (x + 25) (fun j9 h8 h7 => (show False from h7).elim)).trans ((hF13 (x + 25) (fun j9 h8 h7 => (show False from h7).elim)).trans ((hF12 (x + 25) (fun j9 h8 h7 => (show False from h7).elim)).trans ((hF11 (x + 25) (fun j9 h8 h7 => (show False from h7).elim)).trans ((hF10 (x + 25) (fun j9 h8 h7 => (show False from h7).elim)).trans ((hF9 (x + 25) (fun j9 h8 h7 => (show False from h7).elim)).trans ((hF8 (x + 25) (fun j9 h8 h7 => (show False from h7).elim)).trans ((hF7 (x + 25) (fun j9 h8 h7 => (show False from h7).elim)).trans ((hF6 (x + 25) (fun j9 h8 h7 => (show False from h7).elim)).trans ((hF5 (x + 25) (fun j9 h8 h7 => (show False from h7).elim)).trans ((hF4 (x + 25) (fun j9 h8 h7 => (show False from h7).elim)).trans ((hF3 (x + 25) (fun j9 h8 h7 => (show False from h7).elim)).trans ((hF2 (x + 25) (fun j9 h8 h7 => (show False from h7).elim)).trans ((hF1 (x + 25) (fun j9 h8 h7 => (show False from h7).elim)).trans hc0))))))))))))))
                        have h_26 : Φ14 x = some (o_ 14 [.int th, .ref (x + 1), .ref (x + 2), .int ti, .int ra, .int (nI rt), .int ex, .int ad, .ref (x + 3), .ref (x + 4), .int me, .long se, .ref (x + 5), .int (nI fl), .int dr, .long ob, .long sa, .long sn, .long us, .ref (x + 6), .ref (x + 7), .int (nI pe), .ref (x + 8), .int (nI le), .ref (x + 9), .ref (x + 10), .int (nI qu), .ref (x + 11), .ref (x + 12), .ref (x + 13), .ref (x + 14), .ref (x + 15), .ref (x + 16), .int (nI n_1), .long v_1, .ref (x + 17), .ref (x + 18), .ref (x + 19), .ref (x + 20), .ref (x + 21), .ref (x + 22), .int (nI n_2), .ref (x + 23), .ref (x + 24), .int (nI tk), .ref (x + 25), .int (nI il), .int (nI nx), .int ec, .int ep, .int kn, .int (nI st), .int nu, .long va]) := ((hF14 x (fun j9 h8 h7 => (show False from h7).elim)).trans h_11)
                        refine z_callV (As := []) (rest := []) B (r_readDrop G l Φ14 sz x nw cr tp tt sI sT pt ql fl pe le nx il qu kn ec nu va st ep ti ad ob ra rt ex sa us tk th me dr se sn fB p t c hx hI14 h_25 hT (show p ≤ il by omega) (show il ≤ 700 by omega) hct (show t ≤ 4 by omega) hnw) (cwV 0 B.1.2.2.2.2 gX12_readStatement_X12_readDrop rfl rfl rfl (by decide +kernel) ⟨Nat.le_of_ble_eq_true rfl, Nat.le_of_ble_eq_true rfl⟩) h_26 rfl rfl rfl rfl (Nat.le_of_ble_eq_true rfl) dX12_readStatement_389 ⟨Nat.le_of_ble_eq_true rfl, Nat.le_of_ble_eq_true rfl⟩ (fun r_22 Φ22 sz22 st22 hp22 hs22 => ?_)
                        obtain ⟨-, hq22, ⟨n_21, v_22, v_23, v_24, v_25, n_22, v_26, n_23, n_24, b_88, hI22⟩, hF22⟩ := hp22
                        subst sz22
                        replace hI22 : Im G x (NNc n_23 n_24, nw, cr, tp, tt, sI, sT, pt, ql, fl, pe, le, n_21, il, qu, v_22, v_23, v_24, v_25, n_22, v_26, ti, ad, ob, ra, rt, ex, sa, us, tk, th, me, dr, se, sn) Φ22 := hI22
                        replace b_88 : (∃ (q9 : Nat), r_22 = some (.int 1) ∧ endA (bA fB il) (drpA (bA fB il) nx c) = (0, q9, n_24) ∧ ec = v_23 ∧ ep = v_26 ∧ n_24 10 = nI n_23 ∧ n_23 ≤ 4 ∧ p < q9 ∧ q9 ≤ il ∧ TkR (bA fB il) q9 v_22 n_22 n_21 v_25) ∨ (∃ (er9 s9 : Nat) (c9 : Cf), r_22 = some (.int 0) ∧ endA (bA fB il) (drpA (bA fB il) nx c) = (er9, s9, c9) ∧ (¬ er9 = 0 ∧ er9 ≤ 4) ∧ v_23 = nI er9 ∧ v_26 = nI s9) := b_88
                        rcases b_88 with ⟨q_1, rfl, hN14, rfl, rfl, e_3, b_89, b_90, b_91, hT6⟩ | ⟨er_3, s_1, c_20, rfl, hN15, he3, rfl, rfl⟩
                        · replace hT6 : TkR (bA fB il) q_1 v_22 n_22 n_21 v_25 := hT6
                          obtain ⟨b_92, b_93, b_94, b_95⟩ := TkR_b hT6 (by omega)
                          replace hs22 : st22 = [.int 1] := hs22
                          subst st22
                          replace hN14 : endA (bA fB il) (drpA (bA fB il) nx c) = (0, q_1, n_24) := hN14
                          replace b_90 : p < q_1 := b_90
                          replace b_91 : q_1 ≤ il := b_91
                          exact z_ret_z B dX12_readStatement_392 (by decide) ⟨(Or.inr rfl), rfl, ⟨n_21, v_22, ec, v_24, v_25, n_22, ep, n_23, n_24, (Or.inl ⟨q_1, rfl, (congrArg (fun q9 => stK (bA fB il) q9 st nx c) (congrArg Prod.fst (tk_eq hT2))).trans ((stK_d (st_hit (i := 11) hT2 hp hv1 (by decide) (by decide) ((lcmp_eq c_11).trans (by decide +kernel)))).trans hN14), rfl, rfl, e_3, by omega, by omega, by omega, hT6⟩), hI22⟩, (fun b9 h9 => ((hF22 b9 h9).trans ((hF14 b9 (fun j9 h8 h7 => (show False from h7).elim)).trans ((hF13 b9 (fun j9 h8 h7 => (show False from h7).elim)).trans ((hF12 b9 (fun j9 h8 h7 => (show False from h7).elim)).trans ((hF11 b9 (fun j9 h8 h7 => (show False from h7).elim)).trans ((hF10 b9 (fun j9 h8 h7 => (show False from h7).elim)).trans ((hF9 b9 (fun j9 h8 h7 => (show False from h7).elim)).trans ((hF8 b9 (fun j9 h8 h7 => (show False from h7).elim)).trans ((hF7 b9 (fun j9 h8 h7 => (show False from h7).elim)).trans ((hF6 b9 (fun j9 h8 h7 => (show False from h7).elim)).trans ((hF5 b9 (fun j9 h8 h7 => (show False from h7).elim)).trans ((hF4 b9 (fun j9 h8 h7 => (show False from h7).elim)).trans ((hF3 b9 (fun j9 h8 h7 => (show False from h7).elim)).trans ((hF2 b9 (fun j9 h8 h7 => (show False from h7).elim)).trans ((hF1 b9 (fun j9 h8 h7 => (show False from h7).elim)).trans rfl))))))))))))))))⟩
                        · replace hs22 : st22 = [.int 0] := hs22
                          subst st22
                          replace hN15 : endA (bA fB il) (drpA (bA fB il) nx c) = (er_3, s_1, c_20) := hN15
                          replace he3 : ¬ er_3 = 0 ∧ er_3 ≤ 4 := he3
                          exact z_ret_z B dX12_readStatement_392 (by decide) ⟨(Or.inl rfl), rfl, ⟨n_21, v_22, nI er_3, v_24, v_25, n_22, nI s_1, n_23, n_24, (Or.inr ⟨er_3, s_1, c_20, rfl, (congrArg (fun q9 => stK (bA fB il) q9 st nx c) (congrArg Prod.fst (tk_eq hT2))).trans ((stK_d (st_hit (i := 11) hT2 hp hv1 (by decide) (by decide) ((lcmp_eq c_11).trans (by decide +kernel)))).trans hN15), ⟨by omega, by omega⟩, rfl, rfl⟩), hI22⟩, (fun b9 h9 => ((hF22 b9 h9).trans ((hF14 b9 (fun j9 h8 h7 => (show False from h7).elim)).trans ((hF13 b9 (fun j9 h8 h7 => (show False from h7).elim)).trans ((hF12 b9 (fun j9 h8 h7 => (show False from h7).elim)).trans ((hF11 b9 (fun j9 h8 h7 => (show False from h7).elim)).trans ((hF10 b9 (fun j9 h8 h7 => (show False from h7).elim)).trans ((hF9 b9 (fun j9 h8 h7 => (show False from h7).elim)).trans ((hF8 b9 (fun j9 h8 h7 => (show False from h7).elim)).trans ((hF7 b9 (fun j9 h8 h7 => (show False from h7).elim)).trans ((hF6 b9 (fun j9 h8 h7 => (show False from h7).elim)).trans ((hF5 b9 (fun j9 h8 h7 => (show False from h7).elim)).trans ((hF4 b9 (fun j9 h8 h7 => (show False from h7).elim)).trans ((hF3 b9 (fun j9 h8 h7 => (show False from h7).elim)).trans ((hF2 b9 (fun j9 h8 h7 => (show False from h7).elim)).trans ((hF1 b9 (fun j9 h8 h7 => (show False from h7).elim)).trans rfl))))))))))))))))⟩
                    · refine z_aload_n B dX12_readStatement_362 rfl 0 rfl ?_
                      have h_27 : Φ13 (x + 25) = some (ab_ G 700 fB) := ((hF13 (x + 25) (fun j9 h8 h7 => (show False from h7).elim)).trans ((hF12 (x + 25) (fun j9 h8 h7 => (show False from h7).elim)).trans ((hF11 (x + 25) (fun j9 h8 h7 => (show False from h7).elim)).trans ((hF10 (x + 25) (fun j9 h8 h7 => (show False from h7).elim)).trans ((hF9 (x + 25) (fun j9 h8 h7 => (show False from h7).elim)).trans ((hF8 (x + 25) (fun j9 h8 h7 => (show False from h7).elim)).trans ((hF7 (x + 25) (fun j9 h8 h7 => (show False from h7).elim)).trans ((hF6 (x + 25) (fun j9 h8 h7 => (show False from h7).elim)).trans ((hF5 (x + 25) (fun j9 h8 h7 => (show False from h7).elim)).trans ((hF4 (x + 25) (fun j9 h8 h7 => (show False from h7).elim)).trans ((hF3 (x + 25) (fun j9 h8 h7 => (show False from h7).elim)).trans ((hF2 (x + 25) (fun j9 h8 h7 => (show False from h7).elim)).trans ((hF1 (x + 25) (fun j9 h8 h7 => (show False from h7).elim)).trans hc0)))))))))))))
                      have h_28 : Φ13 x = some (o_ 14 [.int th, .ref (x + 1), .ref (x + 2), .int ti, .int ra, .int (nI rt), .int ex, .int ad, .ref (x + 3), .ref (x + 4), .int me, .long se, .ref (x + 5), .int (nI fl), .int dr, .long ob, .long sa, .long sn, .long us, .ref (x + 6), .ref (x + 7), .int (nI pe), .ref (x + 8), .int (nI le), .ref (x + 9), .ref (x + 10), .int (nI qu), .ref (x + 11), .ref (x + 12), .ref (x + 13), .ref (x + 14), .ref (x + 15), .ref (x + 16), .int (nI n_1), .long v_1, .ref (x + 17), .ref (x + 18), .ref (x + 19), .ref (x + 20), .ref (x + 21), .ref (x + 22), .int (nI n_2), .ref (x + 23), .ref (x + 24), .int (nI tk), .ref (x + 25), .int (nI il), .int (nI nx), .int ec, .int ep, .int kn, .int (nI st), .int nu, .long va]) := ((hF13 x (fun j9 h8 h7 => (show False from h7).elim)).trans h_10)
                      refine z_callV (As := []) (rest := []) B (r_readUse G l Φ13 sz x nw cr tp tt sI sT pt ql fl pe le nx il qu kn ec nu va st ep ti ad ob ra rt ex sa us tk th me dr se sn fB p t c hx hI13 h_27 hT (show p ≤ il by omega) (show il ≤ 700 by omega) hct (show t ≤ 4 by omega) hnw) (cwV 0 B.1.2.2.2.2 gX12_readStatement_X12_readUse rfl rfl rfl (by decide +kernel) ⟨Nat.le_of_ble_eq_true rfl, Nat.le_of_ble_eq_true rfl⟩) h_28 rfl rfl rfl rfl (Nat.le_of_ble_eq_true rfl) dX12_readStatement_363 ⟨Nat.le_of_ble_eq_true rfl, Nat.le_of_ble_eq_true rfl⟩ (fun r_23 Φ23 sz23 st23 hp23 hs23 => ?_)
                      obtain ⟨-, hq23, ⟨n_25, v_27, v_28, v_29, v_30, n_26, v_31, n_27, n_28, b_96, hI23⟩, hF23⟩ := hp23
                      subst sz23
                      replace hI23 : Im G x (NNc n_27 n_28, nw, cr, tp, tt, sI, sT, pt, ql, fl, pe, le, n_25, il, qu, v_27, v_28, v_29, v_30, n_26, v_31, ti, ad, ob, ra, rt, ex, sa, us, tk, th, me, dr, se, sn) Φ23 := hI23
                      replace b_96 : (∃ (q9 : Nat), r_23 = some (.int 1) ∧ endA (bA fB il) (useA (bA fB il) nx c) = (0, q9, n_28) ∧ ec = v_28 ∧ ep = v_31 ∧ n_28 10 = nI n_27 ∧ n_27 ≤ 4 ∧ p < q9 ∧ q9 ≤ il ∧ TkR (bA fB il) q9 v_27 n_26 n_25 v_30) ∨ (∃ (er9 s9 : Nat) (c9 : Cf), r_23 = some (.int 0) ∧ endA (bA fB il) (useA (bA fB il) nx c) = (er9, s9, c9) ∧ (¬ er9 = 0 ∧ er9 ≤ 4) ∧ v_28 = nI er9 ∧ v_31 = nI s9) := b_96
                      rcases b_96 with ⟨q_2, rfl, hN16, rfl, rfl, e_4, b_97, b_98, b_99, hT7⟩ | ⟨er_4, s_2, c_22, rfl, hN17, he4, rfl, rfl⟩
                      · replace hT7 : TkR (bA fB il) q_2 v_27 n_26 n_25 v_30 := hT7
                        obtain ⟨b_100, b_101, b_102, b_103⟩ := TkR_b hT7 (by omega)
                        replace hs23 : st23 = [.int 1] := hs23
                        subst st23
                        replace hN16 : endA (bA fB il) (useA (bA fB il) nx c) = (0, q_2, n_28) := hN16
                        replace b_98 : p < q_2 := b_98
                        replace b_99 : q_2 ≤ il := b_99
                        exact z_ret_z B dX12_readStatement_366 (by decide) ⟨(Or.inr rfl), rfl, ⟨n_25, v_27, ec, v_29, v_30, n_26, ep, n_27, n_28, (Or.inl ⟨q_2, rfl, (congrArg (fun q9 => stK (bA fB il) q9 st nx c) (congrArg Prod.fst (tk_eq hT2))).trans ((stK_u (st_hit (i := 10) hT2 hp hv1 (by decide) (by decide) ((lcmp_eq c_10).trans (by decide +kernel)))).trans hN16), rfl, rfl, e_4, by omega, by omega, by omega, hT7⟩), hI23⟩, (fun b9 h9 => ((hF23 b9 h9).trans ((hF13 b9 (fun j9 h8 h7 => (show False from h7).elim)).trans ((hF12 b9 (fun j9 h8 h7 => (show False from h7).elim)).trans ((hF11 b9 (fun j9 h8 h7 => (show False from h7).elim)).trans ((hF10 b9 (fun j9 h8 h7 => (show False from h7).elim)).trans ((hF9 b9 (fun j9 h8 h7 => (show False from h7).elim)).trans ((hF8 b9 (fun j9 h8 h7 => (show False from h7).elim)).trans ((hF7 b9 (fun j9 h8 h7 => (show False from h7).elim)).trans ((hF6 b9 (fun j9 h8 h7 => (show False from h7).elim)).trans ((hF5 b9 (fun j9 h8 h7 => (show False from h7).elim)).trans ((hF4 b9 (fun j9 h8 h7 => (show False from h7).elim)).trans ((hF3 b9 (fun j9 h8 h7 => (show False from h7).elim)).trans ((hF2 b9 (fun j9 h8 h7 => (show False from h7).elim)).trans ((hF1 b9 (fun j9 h8 h7 => (show False from h7).elim)).trans rfl)))))))))))))))⟩
                      · replace hs23 : st23 = [.int 0] := hs23
                        subst st23
                        replace hN17 : endA (bA fB il) (useA (bA fB il) nx c) = (er_4, s_2, c_22) := hN17
                        replace he4 : ¬ er_4 = 0 ∧ er_4 ≤ 4 := he4
                        exact z_ret_z B dX12_readStatement_366 (by decide) ⟨(Or.inl rfl), rfl, ⟨n_25, v_27, nI er_4, v_29, v_30, n_26, nI s_2, n_27, n_28, (Or.inr ⟨er_4, s_2, c_22, rfl, (congrArg (fun q9 => stK (bA fB il) q9 st nx c) (congrArg Prod.fst (tk_eq hT2))).trans ((stK_u (st_hit (i := 10) hT2 hp hv1 (by decide) (by decide) ((lcmp_eq c_10).trans (by decide +kernel)))).trans hN17), ⟨by omega, by omega⟩, rfl, rfl⟩), hI23⟩, (fun b9 h9 => ((hF23 b9 h9).trans ((hF13 b9 (fun j9 h8 h7 => (show False from h7).elim)).trans ((hF12 b9 (fun j9 h8 h7 => (show False from h7).elim)).trans ((hF11 b9 (fun j9 h8 h7 => (show False from h7).elim)).trans ((hF10 b9 (fun j9 h8 h7 => (show False from h7).elim)).trans ((hF9 b9 (fun j9 h8 h7 => (show False from h7).elim)).trans ((hF8 b9 (fun j9 h8 h7 => (show False from h7).elim)).trans ((hF7 b9 (fun j9 h8 h7 => (show False from h7).elim)).trans ((hF6 b9 (fun j9 h8 h7 => (show False from h7).elim)).trans ((hF5 b9 (fun j9 h8 h7 => (show False from h7).elim)).trans ((hF4 b9 (fun j9 h8 h7 => (show False from h7).elim)).trans ((hF3 b9 (fun j9 h8 h7 => (show False from h7).elim)).trans ((hF2 b9 (fun j9 h8 h7 => (show False from h7).elim)).trans ((hF1 b9 (fun j9 h8 h7 => (show False from h7).elim)).trans rfl)))))))))))))))⟩
                  · refine z_aload_n B dX12_readStatement_337 rfl 0 rfl ?_
                    have h_29 : Φ12 (x + 25) = some (ab_ G 700 fB) := ((hF12 (x + 25) (fun j9 h8 h7 => (show False from h7).elim)).trans ((hF11 (x + 25) (fun j9 h8 h7 => (show False from h7).elim)).trans ((hF10 (x + 25) (fun j9 h8 h7 => (show False from h7).elim)).trans ((hF9 (x + 25) (fun j9 h8 h7 => (show False from h7).elim)).trans ((hF8 (x + 25) (fun j9 h8 h7 => (show False from h7).elim)).trans ((hF7 (x + 25) (fun j9 h8 h7 => (show False from h7).elim)).trans ((hF6 (x + 25) (fun j9 h8 h7 => (show False from h7).elim)).trans ((hF5 (x + 25) (fun j9 h8 h7 => (show False from h7).elim)).trans ((hF4 (x + 25) (fun j9 h8 h7 => (show False from h7).elim)).trans ((hF3 (x + 25) (fun j9 h8 h7 => (show False from h7).elim)).trans ((hF2 (x + 25) (fun j9 h8 h7 => (show False from h7).elim)).trans ((hF1 (x + 25) (fun j9 h8 h7 => (show False from h7).elim)).trans hc0))))))))))))
                    have h_30 : Φ12 x = some (o_ 14 [.int th, .ref (x + 1), .ref (x + 2), .int ti, .int ra, .int (nI rt), .int ex, .int ad, .ref (x + 3), .ref (x + 4), .int me, .long se, .ref (x + 5), .int (nI fl), .int dr, .long ob, .long sa, .long sn, .long us, .ref (x + 6), .ref (x + 7), .int (nI pe), .ref (x + 8), .int (nI le), .ref (x + 9), .ref (x + 10), .int (nI qu), .ref (x + 11), .ref (x + 12), .ref (x + 13), .ref (x + 14), .ref (x + 15), .ref (x + 16), .int (nI n_1), .long v_1, .ref (x + 17), .ref (x + 18), .ref (x + 19), .ref (x + 20), .ref (x + 21), .ref (x + 22), .int (nI n_2), .ref (x + 23), .ref (x + 24), .int (nI tk), .ref (x + 25), .int (nI il), .int (nI nx), .int ec, .int ep, .int kn, .int (nI st), .int nu, .long va]) := ((hF12 x (fun j9 h8 h7 => (show False from h7).elim)).trans ((hF11 x (fun j9 h8 h7 => (show False from h7).elim)).trans h_9))
                    refine z_callV (As := []) (rest := []) B (r_readTemplate G l Φ12 sz x nw cr tp tt sI sT pt ql fl pe le nx il qu kn ec nu va st ep ti ad ob ra rt ex sa us tk th me dr se sn fB p t c hx hI12 h_29 hT (show p ≤ il by omega) (show il ≤ 700 by omega) hct (show t ≤ 4 by omega) hnw) (cwV 0 B.1.2.2.2.2 gX12_readStatement_X12_readTemplate rfl rfl rfl (by decide +kernel) ⟨Nat.le_of_ble_eq_true rfl, Nat.le_of_ble_eq_true rfl⟩) h_30 rfl rfl rfl rfl (Nat.le_of_ble_eq_true rfl) dX12_readStatement_338 ⟨Nat.le_of_ble_eq_true rfl, Nat.le_of_ble_eq_true rfl⟩ (fun r_24 Φ24 sz24 st24 hp24 hs24 => ?_)
                    obtain ⟨-, hq24, ⟨n_29, v_32, v_33, v_34, v_35, n_30, v_36, n_31, n_32, b_104, hI24⟩, hF24⟩ := hp24
                    subst sz24
                    replace hI24 : Im G x (NNc n_31 n_32, nw, cr, tp, tt, sI, sT, pt, ql, fl, pe, le, n_29, il, qu, v_32, v_33, v_34, v_35, n_30, v_36, ti, ad, ob, ra, rt, ex, sa, us, tk, th, me, dr, se, sn) Φ24 := hI24
                    replace b_104 : (∃ (q9 : Nat), r_24 = some (.int 1) ∧ (if c 10 = 4 then (4, st, c) else tplA (bA fB il) 10 nx c 0 0) = (0, q9, n_32) ∧ ec = v_33 ∧ ep = v_36 ∧ n_32 10 = nI n_31 ∧ n_31 ≤ 4 ∧ p < q9 ∧ q9 ≤ il ∧ TkR (bA fB il) q9 v_32 n_30 n_29 v_35) ∨ (∃ (er9 s9 : Nat) (c9 : Cf), r_24 = some (.int 0) ∧ (if c 10 = 4 then (4, st, c) else tplA (bA fB il) 10 nx c 0 0) = (er9, s9, c9) ∧ (¬ er9 = 0 ∧ er9 ≤ 4) ∧ v_33 = nI er9 ∧ v_36 = nI s9) := b_104
                    rcases b_104 with ⟨q_3, rfl, hN18, rfl, rfl, e_5, b_105, b_106, b_107, hT8⟩ | ⟨er_5, s_3, c_24, rfl, hN19, he5, rfl, rfl⟩
                    · replace hT8 : TkR (bA fB il) q_3 v_32 n_30 n_29 v_35 := hT8
                      obtain ⟨b_108, b_109, b_110, b_111⟩ := TkR_b hT8 (by omega)
                      replace hs24 : st24 = [.int 1] := hs24
                      subst st24
                      replace hN18 : (if c 10 = 4 then (4, st, c) else tplA (bA fB il) 10 nx c 0 0) = (0, q_3, n_32) := hN18
                      replace b_106 : p < q_3 := b_106
                      replace b_107 : q_3 ≤ il := b_107
                      exact z_ret_z B dX12_readStatement_341 (by decide) ⟨(Or.inr rfl), rfl, ⟨n_29, v_32, ec, v_34, v_35, n_30, ep, n_31, n_32, (Or.inl ⟨q_3, rfl, (congrArg (fun q9 => stK (bA fB il) q9 st nx c) (congrArg Prod.fst (tk_eq hT2))).trans (stK_t (st_hit (i := 9) hT2 hp hv1 (by decide) (by decide) ((lcmp_eq c_9).trans (by decide +kernel))) hN18), rfl, rfl, e_5, by omega, by omega, by omega, hT8⟩), hI24⟩, (fun b9 h9 => ((hF24 b9 h9).trans ((hF12 b9 (fun j9 h8 h7 => (show False from h7).elim)).trans ((hF11 b9 (fun j9 h8 h7 => (show False from h7).elim)).trans ((hF10 b9 (fun j9 h8 h7 => (show False from h7).elim)).trans ((hF9 b9 (fun j9 h8 h7 => (show False from h7).elim)).trans ((hF8 b9 (fun j9 h8 h7 => (show False from h7).elim)).trans ((hF7 b9 (fun j9 h8 h7 => (show False from h7).elim)).trans ((hF6 b9 (fun j9 h8 h7 => (show False from h7).elim)).trans ((hF5 b9 (fun j9 h8 h7 => (show False from h7).elim)).trans ((hF4 b9 (fun j9 h8 h7 => (show False from h7).elim)).trans ((hF3 b9 (fun j9 h8 h7 => (show False from h7).elim)).trans ((hF2 b9 (fun j9 h8 h7 => (show False from h7).elim)).trans ((hF1 b9 (fun j9 h8 h7 => (show False from h7).elim)).trans rfl))))))))))))))⟩
                    · replace hs24 : st24 = [.int 0] := hs24
                      subst st24
                      replace hN19 : (if c 10 = 4 then (4, st, c) else tplA (bA fB il) 10 nx c 0 0) = (er_5, s_3, c_24) := hN19
                      replace he5 : ¬ er_5 = 0 ∧ er_5 ≤ 4 := he5
                      exact z_ret_z B dX12_readStatement_341 (by decide) ⟨(Or.inl rfl), rfl, ⟨n_29, v_32, nI er_5, v_34, v_35, n_30, nI s_3, n_31, n_32, (Or.inr ⟨er_5, s_3, c_24, rfl, (congrArg (fun q9 => stK (bA fB il) q9 st nx c) (congrArg Prod.fst (tk_eq hT2))).trans (stK_t (st_hit (i := 9) hT2 hp hv1 (by decide) (by decide) ((lcmp_eq c_9).trans (by decide +kernel))) hN19), ⟨by omega, by omega⟩, rfl, rfl⟩), hI24⟩, (fun b9 h9 => ((hF24 b9 h9).trans ((hF12 b9 (fun j9 h8 h7 => (show False from h7).elim)).trans ((hF11 b9 (fun j9 h8 h7 => (show False from h7).elim)).trans ((hF10 b9 (fun j9 h8 h7 => (show False from h7).elim)).trans ((hF9 b9 (fun j9 h8 h7 => (show False from h7).elim)).trans ((hF8 b9 (fun j9 h8 h7 => (show False from h7).elim)).trans ((hF7 b9 (fun j9 h8 h7 => (show False from h7).elim)).trans ((hF6 b9 (fun j9 h8 h7 => (show False from h7).elim)).trans ((hF5 b9 (fun j9 h8 h7 => (show False from h7).elim)).trans ((hF4 b9 (fun j9 h8 h7 => (show False from h7).elim)).trans ((hF3 b9 (fun j9 h8 h7 => (show False from h7).elim)).trans ((hF2 b9 (fun j9 h8 h7 => (show False from h7).elim)).trans ((hF1 b9 (fun j9 h8 h7 => (show False from h7).elim)).trans rfl))))))))))))))⟩
                · refine z_aload_n B dX12_readStatement_287 rfl 0 rfl ?_
                  refine z_bipush (v := 8) B dX12_readStatement_288 rfl ?_
                  refine z_iconst (v := 1) B dX12_readStatement_290 rfl ?_
                  refine z_sipush (v := 1024) B dX12_readStatement_291 rfl ?_
                  have h_31 : Φ10 (x + 25) = some (ab_ G 700 fB) := ((hF10 (x + 25) (fun j9 h8 h7 => (show False from h7).elim)).trans ((hF9 (x + 25) (fun j9 h8 h7 => (show False from h7).elim)).trans ((hF8 (x + 25) (fun j9 h8 h7 => (show False from h7).elim)).trans ((hF7 (x + 25) (fun j9 h8 h7 => (show False from h7).elim)).trans ((hF6 (x + 25) (fun j9 h8 h7 => (show False from h7).elim)).trans ((hF5 (x + 25) (fun j9 h8 h7 => (show False from h7).elim)).trans ((hF4 (x + 25) (fun j9 h8 h7 => (show False from h7).elim)).trans ((hF3 (x + 25) (fun j9 h8 h7 => (show False from h7).elim)).trans ((hF2 (x + 25) (fun j9 h8 h7 => (show False from h7).elim)).trans ((hF1 (x + 25) (fun j9 h8 h7 => (show False from h7).elim)).trans hc0))))))))))
                  have h_32 : Φ10 x = some (o_ 14 [.int th, .ref (x + 1), .ref (x + 2), .int ti, .int ra, .int (nI rt), .int ex, .int ad, .ref (x + 3), .ref (x + 4), .int me, .long se, .ref (x + 5), .int (nI fl), .int dr, .long ob, .long sa, .long sn, .long us, .ref (x + 6), .ref (x + 7), .int (nI pe), .ref (x + 8), .int (nI le), .ref (x + 9), .ref (x + 10), .int (nI qu), .ref (x + 11), .ref (x + 12), .ref (x + 13), .ref (x + 14), .ref (x + 15), .ref (x + 16), .int (nI n_1), .long v_1, .ref (x + 17), .ref (x + 18), .ref (x + 19), .ref (x + 20), .ref (x + 21), .ref (x + 22), .int (nI n_2), .ref (x + 23), .ref (x + 24), .int (nI tk), .ref (x + 25), .int (nI il), .int (nI nx), .int ec, .int ep, .int kn, .int (nI st), .int nu, .long va]) := ((hF10 x (fun j9 h8 h7 => (show False from h7).elim)).trans h_8)
                  refine z_callV (As := [.int 8, .int 1, .int 1024]) (rest := []) B (r_readSetting G l Φ10 sz x nw cr tp tt sI sT pt ql fl pe le nx il qu kn ec nu va st ep ti ad ob ra rt ex sa us tk th me dr se sn fB p t c 8 1 1024 hx hI10 h_31 hT (show p ≤ il by omega) (show il ≤ 700 by omega) hct (show t ≤ 4 by omega) (show 1 < 2 ^ 31 by omega) (show 8 < 9 by omega) (fun n h1 h2 f h => NN.up h (by decide) (fun e9 => absurd e9 (by decide)) (fun e9 => absurd e9 (by decide)) (fun _ => ⟨n, by have h9 : (1024 : Int32).toInt = 1024 := (by decide); omega, rfl⟩) (fun e9 => absurd e9 (by decide))) (by decide) (by decide) hnw) (cwV 3 B.1.2.2.2.2 gX12_readStatement_X12_readSetting rfl rfl rfl (by decide +kernel) ⟨Nat.le_of_ble_eq_true rfl, Nat.le_of_ble_eq_true rfl⟩) h_32 rfl rfl rfl rfl (Nat.le_of_ble_eq_true rfl) dX12_readStatement_294 ⟨Nat.le_of_ble_eq_true rfl, Nat.le_of_ble_eq_true rfl⟩ (fun r_25 Φ25 sz25 st25 hp25 hs25 => ?_)
                  obtain ⟨-, hq25, ⟨n_33, v_37, v_38, v_39, v_40, n_34, v_41, n_35, n_36, b_112, hI25⟩, hF25⟩ := hp25
                  subst sz25
                  replace hI25 : Im G x (NNc n_35 n_36, nw, cr, tp, tt, sI, sT, pt, ql, fl, pe, le, n_33, il, qu, v_37, v_38, v_39, v_40, n_34, v_41, ti, ad, ob, ra, rt, ex, sa, us, tk, th, me, dr, se, sn) Φ25 := hI25
                  replace b_112 : (∃ (q9 : Nat), r_25 = some (.int 1) ∧ endA (bA fB il) (setA (bA fB il) nx 8 c) = (0, q9, n_36) ∧ ec = v_38 ∧ ep = v_41 ∧ n_36 10 = nI n_35 ∧ n_35 ≤ 4 ∧ p < q9 ∧ q9 ≤ il ∧ TkR (bA fB il) q9 v_37 n_34 n_33 v_40) ∨ (∃ (er9 s9 : Nat) (c9 : Cf), r_25 = some (.int 0) ∧ endA (bA fB il) (setA (bA fB il) nx 8 c) = (er9, s9, c9) ∧ (¬ er9 = 0 ∧ er9 ≤ 4) ∧ v_38 = nI er9 ∧ v_41 = nI s9) := b_112
                  rcases b_112 with ⟨q_4, rfl, hN20, rfl, rfl, e_6, b_113, b_114, b_115, hT9⟩ | ⟨er_6, s_4, c_26, rfl, hN21, he6, rfl, rfl⟩
                  · replace hT9 : TkR (bA fB il) q_4 v_37 n_34 n_33 v_40 := hT9
                    obtain ⟨b_116, b_117, b_118, b_119⟩ := TkR_b hT9 (by omega)
                    replace hs25 : st25 = [.int 1] := hs25
                    subst st25
                    replace hN20 : endA (bA fB il) (setA (bA fB il) nx 8 c) = (0, q_4, n_36) := hN20
                    replace b_114 : p < q_4 := b_114
                    replace b_115 : q_4 ≤ il := b_115
                    exact z_ret_z B dX12_readStatement_297 (by decide) ⟨(Or.inr rfl), rfl, ⟨n_33, v_37, ec, v_39, v_40, n_34, ep, n_35, n_36, (Or.inl ⟨q_4, rfl, (congrArg (fun q9 => stK (bA fB il) q9 st nx c) (congrArg Prod.fst (tk_eq hT2))).trans ((stK_s (w := 8) (st_hit (i := 8) hT2 hp hv1 (by decide) (by decide) ((lcmp_eq c_8).trans (by decide +kernel))) (by decide) (by decide)).trans hN20), rfl, rfl, e_6, by omega, by omega, by omega, hT9⟩), hI25⟩, (fun b9 h9 => ((hF25 b9 h9).trans ((hF10 b9 (fun j9 h8 h7 => (show False from h7).elim)).trans ((hF9 b9 (fun j9 h8 h7 => (show False from h7).elim)).trans ((hF8 b9 (fun j9 h8 h7 => (show False from h7).elim)).trans ((hF7 b9 (fun j9 h8 h7 => (show False from h7).elim)).trans ((hF6 b9 (fun j9 h8 h7 => (show False from h7).elim)).trans ((hF5 b9 (fun j9 h8 h7 => (show False from h7).elim)).trans ((hF4 b9 (fun j9 h8 h7 => (show False from h7).elim)).trans ((hF3 b9 (fun j9 h8 h7 => (show False from h7).elim)).trans ((hF2 b9 (fun j9 h8 h7 => (show False from h7).elim)).trans ((hF1 b9 (fun j9 h8 h7 => (show False from h7).elim)).trans rfl))))))))))))⟩
                  · replace hs25 : st25 = [.int 0] := hs25
                    subst st25
                    replace hN21 : endA (bA fB il) (setA (bA fB il) nx 8 c) = (er_6, s_4, c_26) := hN21
                    replace he6 : ¬ er_6 = 0 ∧ er_6 ≤ 4 := he6
                    exact z_ret_z B dX12_readStatement_297 (by decide) ⟨(Or.inl rfl), rfl, ⟨n_33, v_37, nI er_6, v_39, v_40, n_34, nI s_4, n_35, n_36, (Or.inr ⟨er_6, s_4, c_26, rfl, (congrArg (fun q9 => stK (bA fB il) q9 st nx c) (congrArg Prod.fst (tk_eq hT2))).trans ((stK_s (w := 8) (st_hit (i := 8) hT2 hp hv1 (by decide) (by decide) ((lcmp_eq c_8).trans (by decide +kernel))) (by decide) (by decide)).trans hN21), ⟨by omega, by omega⟩, rfl, rfl⟩), hI25⟩, (fun b9 h9 => ((hF25 b9 h9).trans ((hF10 b9 (fun j9 h8 h7 => (show False from h7).elim)).trans ((hF9 b9 (fun j9 h8 h7 => (show False from h7).elim)).trans ((hF8 b9 (fun j9 h8 h7 => (show False from h7).elim)).trans ((hF7 b9 (fun j9 h8 h7 => (show False from h7).elim)).trans ((hF6 b9 (fun j9 h8 h7 => (show False from h7).elim)).trans ((hF5 b9 (fun j9 h8 h7 => (show False from h7).elim)).trans ((hF4 b9 (fun j9 h8 h7 => (show False from h7).elim)).trans ((hF3 b9 (fun j9 h8 h7 => (show False from h7).elim)).trans ((hF2 b9 (fun j9 h8 h7 => (show False from h7).elim)).trans ((hF1 b9 (fun j9 h8 h7 => (show False from h7).elim)).trans rfl))))))))))))⟩
              · refine z_aload_n B dX12_readStatement_251 rfl 0 rfl ?_
                refine z_bipush (v := 7) B dX12_readStatement_252 rfl ?_
                refine z_sipush (v := 256) B dX12_readStatement_254 rfl ?_
                refine z_sipush (v := 600) B dX12_readStatement_257 rfl ?_
                have h_33 : Φ9 (x + 25) = some (ab_ G 700 fB) := ((hF9 (x + 25) (fun j9 h8 h7 => (show False from h7).elim)).trans ((hF8 (x + 25) (fun j9 h8 h7 => (show False from h7).elim)).trans ((hF7 (x + 25) (fun j9 h8 h7 => (show False from h7).elim)).trans ((hF6 (x + 25) (fun j9 h8 h7 => (show False from h7).elim)).trans ((hF5 (x + 25) (fun j9 h8 h7 => (show False from h7).elim)).trans ((hF4 (x + 25) (fun j9 h8 h7 => (show False from h7).elim)).trans ((hF3 (x + 25) (fun j9 h8 h7 => (show False from h7).elim)).trans ((hF2 (x + 25) (fun j9 h8 h7 => (show False from h7).elim)).trans ((hF1 (x + 25) (fun j9 h8 h7 => (show False from h7).elim)).trans hc0)))))))))
                have h_34 : Φ9 x = some (o_ 14 [.int th, .ref (x + 1), .ref (x + 2), .int ti, .int ra, .int (nI rt), .int ex, .int ad, .ref (x + 3), .ref (x + 4), .int me, .long se, .ref (x + 5), .int (nI fl), .int dr, .long ob, .long sa, .long sn, .long us, .ref (x + 6), .ref (x + 7), .int (nI pe), .ref (x + 8), .int (nI le), .ref (x + 9), .ref (x + 10), .int (nI qu), .ref (x + 11), .ref (x + 12), .ref (x + 13), .ref (x + 14), .ref (x + 15), .ref (x + 16), .int (nI n_1), .long v_1, .ref (x + 17), .ref (x + 18), .ref (x + 19), .ref (x + 20), .ref (x + 21), .ref (x + 22), .int (nI n_2), .ref (x + 23), .ref (x + 24), .int (nI tk), .ref (x + 25), .int (nI il), .int (nI nx), .int ec, .int ep, .int kn, .int (nI st), .int nu, .long va]) := ((hF9 x (fun j9 h8 h7 => (show False from h7).elim)).trans h_7)
                refine z_callV (As := [.int 7, .int 256, .int 600]) (rest := []) B (r_readSetting G l Φ9 sz x nw cr tp tt sI sT pt ql fl pe le nx il qu kn ec nu va st ep ti ad ob ra rt ex sa us tk th me dr se sn fB p t c 7 256 600 hx hI9 h_33 hT (show p ≤ il by omega) (show il ≤ 700 by omega) hct (show t ≤ 4 by omega) (show 256 < 2 ^ 31 by omega) (show 7 < 9 by omega) (fun n h1 h2 f h => NN.up h (by decide) (fun e9 => absurd e9 (by decide)) (fun _ => ⟨n, h1, by have h9 : (600 : Int32).toInt = 600 := (by decide); omega, rfl⟩) (fun e9 => absurd e9 (by decide)) (fun e9 => absurd e9 (by decide))) (by decide) (by decide) hnw) (cwV 3 B.1.2.2.2.2 gX12_readStatement_X12_readSetting rfl rfl rfl (by decide +kernel) ⟨Nat.le_of_ble_eq_true rfl, Nat.le_of_ble_eq_true rfl⟩) h_34 rfl rfl rfl rfl (Nat.le_of_ble_eq_true rfl) dX12_readStatement_260 ⟨Nat.le_of_ble_eq_true rfl, Nat.le_of_ble_eq_true rfl⟩ (fun r_26 Φ26 sz26 st26 hp26 hs26 => ?_)
                obtain ⟨-, hq26, ⟨n_37, v_42, v_43, v_44, v_45, n_38, v_46, n_39, n_40, b_120, hI26⟩, hF26⟩ := hp26
                subst sz26
                replace hI26 : Im G x (NNc n_39 n_40, nw, cr, tp, tt, sI, sT, pt, ql, fl, pe, le, n_37, il, qu, v_42, v_43, v_44, v_45, n_38, v_46, ti, ad, ob, ra, rt, ex, sa, us, tk, th, me, dr, se, sn) Φ26 := hI26
                replace b_120 : (∃ (q9 : Nat), r_26 = some (.int 1) ∧ endA (bA fB il) (setA (bA fB il) nx 7 c) = (0, q9, n_40) ∧ ec = v_43 ∧ ep = v_46 ∧ n_40 10 = nI n_39 ∧ n_39 ≤ 4 ∧ p < q9 ∧ q9 ≤ il ∧ TkR (bA fB il) q9 v_42 n_38 n_37 v_45) ∨ (∃ (er9 s9 : Nat) (c9 : Cf), r_26 = some (.int 0) ∧ endA (bA fB il) (setA (bA fB il) nx 7 c) = (er9, s9, c9) ∧ (¬ er9 = 0 ∧ er9 ≤ 4) ∧ v_43 = nI er9 ∧ v_46 = nI s9) := b_120
                rcases b_120 with ⟨q_5, rfl, hN22, rfl, rfl, e_7, b_121, b_122, b_123, hT10⟩ | ⟨er_7, s_5, c_28, rfl, hN23, he7, rfl, rfl⟩
                · replace hT10 : TkR (bA fB il) q_5 v_42 n_38 n_37 v_45 := hT10
                  obtain ⟨b_124, b_125, b_126, b_127⟩ := TkR_b hT10 (by omega)
                  replace hs26 : st26 = [.int 1] := hs26
                  subst st26
                  replace hN22 : endA (bA fB il) (setA (bA fB il) nx 7 c) = (0, q_5, n_40) := hN22
                  replace b_122 : p < q_5 := b_122
                  replace b_123 : q_5 ≤ il := b_123
                  exact z_ret_z B dX12_readStatement_263 (by decide) ⟨(Or.inr rfl), rfl, ⟨n_37, v_42, ec, v_44, v_45, n_38, ep, n_39, n_40, (Or.inl ⟨q_5, rfl, (congrArg (fun q9 => stK (bA fB il) q9 st nx c) (congrArg Prod.fst (tk_eq hT2))).trans ((stK_s (w := 7) (st_hit (i := 7) hT2 hp hv1 (by decide) (by decide) ((lcmp_eq c_7).trans (by decide +kernel))) (by decide) (by decide)).trans hN22), rfl, rfl, e_7, by omega, by omega, by omega, hT10⟩), hI26⟩, (fun b9 h9 => ((hF26 b9 h9).trans ((hF9 b9 (fun j9 h8 h7 => (show False from h7).elim)).trans ((hF8 b9 (fun j9 h8 h7 => (show False from h7).elim)).trans ((hF7 b9 (fun j9 h8 h7 => (show False from h7).elim)).trans ((hF6 b9 (fun j9 h8 h7 => (show False from h7).elim)).trans ((hF5 b9 (fun j9 h8 h7 => (show False from h7).elim)).trans ((hF4 b9 (fun j9 h8 h7 => (show False from h7).elim)).trans ((hF3 b9 (fun j9 h8 h7 => (show False from h7).elim)).trans ((hF2 b9 (fun j9 h8 h7 => (show False from h7).elim)).trans ((hF1 b9 (fun j9 h8 h7 => (show False from h7).elim)).trans rfl)))))))))))⟩
                · replace hs26 : st26 = [.int 0] := hs26
                  subst st26
                  replace hN23 : endA (bA fB il) (setA (bA fB il) nx 7 c) = (er_7, s_5, c_28) := hN23
                  replace he7 : ¬ er_7 = 0 ∧ er_7 ≤ 4 := he7
                  exact z_ret_z B dX12_readStatement_263 (by decide) ⟨(Or.inl rfl), rfl, ⟨n_37, v_42, nI er_7, v_44, v_45, n_38, nI s_5, n_39, n_40, (Or.inr ⟨er_7, s_5, c_28, rfl, (congrArg (fun q9 => stK (bA fB il) q9 st nx c) (congrArg Prod.fst (tk_eq hT2))).trans ((stK_s (w := 7) (st_hit (i := 7) hT2 hp hv1 (by decide) (by decide) ((lcmp_eq c_7).trans (by decide +kernel))) (by decide) (by decide)).trans hN23), ⟨by omega, by omega⟩, rfl, rfl⟩), hI26⟩, (fun b9 h9 => ((hF26 b9 h9).trans ((hF9 b9 (fun j9 h8 h7 => (show False from h7).elim)).trans ((hF8 b9 (fun j9 h8 h7 => (show False from h7).elim)).trans ((hF7 b9 (fun j9 h8 h7 => (show False from h7).elim)).trans ((hF6 b9 (fun j9 h8 h7 => (show False from h7).elim)).trans ((hF5 b9 (fun j9 h8 h7 => (show False from h7).elim)).trans ((hF4 b9 (fun j9 h8 h7 => (show False from h7).elim)).trans ((hF3 b9 (fun j9 h8 h7 => (show False from h7).elim)).trans ((hF2 b9 (fun j9 h8 h7 => (show False from h7).elim)).trans ((hF1 b9 (fun j9 h8 h7 => (show False from h7).elim)).trans rfl)))))))))))⟩
            · refine z_aload_n B dX12_readStatement_217 rfl 0 rfl ?_
              refine z_bipush (v := 6) B dX12_readStatement_218 rfl ?_
              refine z_iconst (v := 1) B dX12_readStatement_220 rfl ?_
              refine z_ldcw (v := 100000) B (by decide +kernel) dX12_readStatement_221 ?_
              have h_35 : Φ8 (x + 25) = some (ab_ G 700 fB) := ((hF8 (x + 25) (fun j9 h8 h7 => (show False from h7).elim)).trans ((hF7 (x + 25) (fun j9 h8 h7 => (show False from h7).elim)).trans ((hF6 (x + 25) (fun j9 h8 h7 => (show False from h7).elim)).trans ((hF5 (x + 25) (fun j9 h8 h7 => (show False from h7).elim)).trans ((hF4 (x + 25) (fun j9 h8 h7 => (show False from h7).elim)).trans ((hF3 (x + 25) (fun j9 h8 h7 => (show False from h7).elim)).trans ((hF2 (x + 25) (fun j9 h8 h7 => (show False from h7).elim)).trans ((hF1 (x + 25) (fun j9 h8 h7 => (show False from h7).elim)).trans hc0))))))))
              have h_36 : Φ8 x = some (o_ 14 [.int th, .ref (x + 1), .ref (x + 2), .int ti, .int ra, .int (nI rt), .int ex, .int ad, .ref (x + 3), .ref (x + 4), .int me, .long se, .ref (x + 5), .int (nI fl), .int dr, .long ob, .long sa, .long sn, .long us, .ref (x + 6), .ref (x + 7), .int (nI pe), .ref (x + 8), .int (nI le), .ref (x + 9), .ref (x + 10), .int (nI qu), .ref (x + 11), .ref (x + 12), .ref (x + 13), .ref (x + 14), .ref (x + 15), .ref (x + 16), .int (nI n_1), .long v_1, .ref (x + 17), .ref (x + 18), .ref (x + 19), .ref (x + 20), .ref (x + 21), .ref (x + 22), .int (nI n_2), .ref (x + 23), .ref (x + 24), .int (nI tk), .ref (x + 25), .int (nI il), .int (nI nx), .int ec, .int ep, .int kn, .int (nI st), .int nu, .long va]) := ((hF8 x (fun j9 h8 h7 => (show False from h7).elim)).trans ((hF7 x (fun j9 h8 h7 => (show False from h7).elim)).trans h_6))
              refine z_callV (As := [.int 6, .int 1, .int 100000]) (rest := []) B (r_readSetting G l Φ8 sz x nw cr tp tt sI sT pt ql fl pe le nx il qu kn ec nu va st ep ti ad ob ra rt ex sa us tk th me dr se sn fB p t c 6 1 100000 hx hI8 h_35 hT (show p ≤ il by omega) (show il ≤ 700 by omega) hct (show t ≤ 4 by omega) (show 1 < 2 ^ 31 by omega) (show 6 < 9 by omega) (fun n h1 h2 f h => NN.up h (by decide) (fun e9 => absurd e9 (by decide)) (fun e9 => absurd e9 (by decide)) (fun e9 => absurd e9 (by decide)) (fun e9 => absurd e9 (by decide))) (by decide) (by decide) hnw) (cwV 3 B.1.2.2.2.2 gX12_readStatement_X12_readSetting rfl rfl rfl (by decide +kernel) ⟨Nat.le_of_ble_eq_true rfl, Nat.le_of_ble_eq_true rfl⟩) h_36 rfl rfl rfl rfl (Nat.le_of_ble_eq_true rfl) dX12_readStatement_224 ⟨Nat.le_of_ble_eq_true rfl, Nat.le_of_ble_eq_true rfl⟩ (fun r_27 Φ27 sz27 st27 hp27 hs27 => ?_)
              obtain ⟨-, hq27, ⟨n_41, v_47, v_48, v_49, v_50, n_42, v_51, n_43, n_44, b_128, hI27⟩, hF27⟩ := hp27
              subst sz27
              replace hI27 : Im G x (NNc n_43 n_44, nw, cr, tp, tt, sI, sT, pt, ql, fl, pe, le, n_41, il, qu, v_47, v_48, v_49, v_50, n_42, v_51, ti, ad, ob, ra, rt, ex, sa, us, tk, th, me, dr, se, sn) Φ27 := hI27
              replace b_128 : (∃ (q9 : Nat), r_27 = some (.int 1) ∧ endA (bA fB il) (setA (bA fB il) nx 6 c) = (0, q9, n_44) ∧ ec = v_48 ∧ ep = v_51 ∧ n_44 10 = nI n_43 ∧ n_43 ≤ 4 ∧ p < q9 ∧ q9 ≤ il ∧ TkR (bA fB il) q9 v_47 n_42 n_41 v_50) ∨ (∃ (er9 s9 : Nat) (c9 : Cf), r_27 = some (.int 0) ∧ endA (bA fB il) (setA (bA fB il) nx 6 c) = (er9, s9, c9) ∧ (¬ er9 = 0 ∧ er9 ≤ 4) ∧ v_48 = nI er9 ∧ v_51 = nI s9) := b_128
              rcases b_128 with ⟨q_6, rfl, hN24, rfl, rfl, e_8, b_129, b_130, b_131, hT11⟩ | ⟨er_8, s_6, c_30, rfl, hN25, he8, rfl, rfl⟩
              · replace hT11 : TkR (bA fB il) q_6 v_47 n_42 n_41 v_50 := hT11
                obtain ⟨b_132, b_133, b_134, b_135⟩ := TkR_b hT11 (by omega)
                replace hs27 : st27 = [.int 1] := hs27
                subst st27
                replace hN24 : endA (bA fB il) (setA (bA fB il) nx 6 c) = (0, q_6, n_44) := hN24
                replace b_130 : p < q_6 := b_130
                replace b_131 : q_6 ≤ il := b_131
                exact z_ret_z B dX12_readStatement_227 (by decide) ⟨(Or.inr rfl), rfl, ⟨n_41, v_47, ec, v_49, v_50, n_42, ep, n_43, n_44, (Or.inl ⟨q_6, rfl, (congrArg (fun q9 => stK (bA fB il) q9 st nx c) (congrArg Prod.fst (tk_eq hT2))).trans ((stK_s (w := 6) (st_hit (i := 6) hT2 hp hv1 (by decide) (by decide) ((lcmp_eq c_6).trans (by decide +kernel))) (by decide) (by decide)).trans hN24), rfl, rfl, e_8, by omega, by omega, by omega, hT11⟩), hI27⟩, (fun b9 h9 => ((hF27 b9 h9).trans ((hF8 b9 (fun j9 h8 h7 => (show False from h7).elim)).trans ((hF7 b9 (fun j9 h8 h7 => (show False from h7).elim)).trans ((hF6 b9 (fun j9 h8 h7 => (show False from h7).elim)).trans ((hF5 b9 (fun j9 h8 h7 => (show False from h7).elim)).trans ((hF4 b9 (fun j9 h8 h7 => (show False from h7).elim)).trans ((hF3 b9 (fun j9 h8 h7 => (show False from h7).elim)).trans ((hF2 b9 (fun j9 h8 h7 => (show False from h7).elim)).trans ((hF1 b9 (fun j9 h8 h7 => (show False from h7).elim)).trans rfl))))))))))⟩
              · replace hs27 : st27 = [.int 0] := hs27
                subst st27
                replace hN25 : endA (bA fB il) (setA (bA fB il) nx 6 c) = (er_8, s_6, c_30) := hN25
                replace he8 : ¬ er_8 = 0 ∧ er_8 ≤ 4 := he8
                exact z_ret_z B dX12_readStatement_227 (by decide) ⟨(Or.inl rfl), rfl, ⟨n_41, v_47, nI er_8, v_49, v_50, n_42, nI s_6, n_43, n_44, (Or.inr ⟨er_8, s_6, c_30, rfl, (congrArg (fun q9 => stK (bA fB il) q9 st nx c) (congrArg Prod.fst (tk_eq hT2))).trans ((stK_s (w := 6) (st_hit (i := 6) hT2 hp hv1 (by decide) (by decide) ((lcmp_eq c_6).trans (by decide +kernel))) (by decide) (by decide)).trans hN25), ⟨by omega, by omega⟩, rfl, rfl⟩), hI27⟩, (fun b9 h9 => ((hF27 b9 h9).trans ((hF8 b9 (fun j9 h8 h7 => (show False from h7).elim)).trans ((hF7 b9 (fun j9 h8 h7 => (show False from h7).elim)).trans ((hF6 b9 (fun j9 h8 h7 => (show False from h7).elim)).trans ((hF5 b9 (fun j9 h8 h7 => (show False from h7).elim)).trans ((hF4 b9 (fun j9 h8 h7 => (show False from h7).elim)).trans ((hF3 b9 (fun j9 h8 h7 => (show False from h7).elim)).trans ((hF2 b9 (fun j9 h8 h7 => (show False from h7).elim)).trans ((hF1 b9 (fun j9 h8 h7 => (show False from h7).elim)).trans rfl))))))))))⟩
          · refine z_aload_n B dX12_readStatement_168 rfl 0 rfl ?_
            refine z_iconst (v := 3) B dX12_readStatement_169 rfl ?_
            refine z_iconst (v := 1) B dX12_readStatement_170 rfl ?_
            refine z_sipush (v := 10000) B dX12_readStatement_171 rfl ?_
            have h_37 : Φ6 (x + 25) = some (ab_ G 700 fB) := ((hF6 (x + 25) (fun j9 h8 h7 => (show False from h7).elim)).trans ((hF5 (x + 25) (fun j9 h8 h7 => (show False from h7).elim)).trans ((hF4 (x + 25) (fun j9 h8 h7 => (show False from h7).elim)).trans ((hF3 (x + 25) (fun j9 h8 h7 => (show False from h7).elim)).trans ((hF2 (x + 25) (fun j9 h8 h7 => (show False from h7).elim)).trans ((hF1 (x + 25) (fun j9 h8 h7 => (show False from h7).elim)).trans hc0))))))
            have h_38 : Φ6 x = some (o_ 14 [.int th, .ref (x + 1), .ref (x + 2), .int ti, .int ra, .int (nI rt), .int ex, .int ad, .ref (x + 3), .ref (x + 4), .int me, .long se, .ref (x + 5), .int (nI fl), .int dr, .long ob, .long sa, .long sn, .long us, .ref (x + 6), .ref (x + 7), .int (nI pe), .ref (x + 8), .int (nI le), .ref (x + 9), .ref (x + 10), .int (nI qu), .ref (x + 11), .ref (x + 12), .ref (x + 13), .ref (x + 14), .ref (x + 15), .ref (x + 16), .int (nI n_1), .long v_1, .ref (x + 17), .ref (x + 18), .ref (x + 19), .ref (x + 20), .ref (x + 21), .ref (x + 22), .int (nI n_2), .ref (x + 23), .ref (x + 24), .int (nI tk), .ref (x + 25), .int (nI il), .int (nI nx), .int ec, .int ep, .int kn, .int (nI st), .int nu, .long va]) := ((hF6 x (fun j9 h8 h7 => (show False from h7).elim)).trans ((hF5 x (fun j9 h8 h7 => (show False from h7).elim)).trans h_5))
            refine z_callV (As := [.int 3, .int 1, .int 10000]) (rest := []) B (r_readSetting G l Φ6 sz x nw cr tp tt sI sT pt ql fl pe le nx il qu kn ec nu va st ep ti ad ob ra rt ex sa us tk th me dr se sn fB p t c 3 1 10000 hx hI6 h_37 hT (show p ≤ il by omega) (show il ≤ 700 by omega) hct (show t ≤ 4 by omega) (show 1 < 2 ^ 31 by omega) (show 3 < 9 by omega) (fun n h1 h2 f h => NN.up h (by decide) (fun e9 => absurd e9 (by decide)) (fun e9 => absurd e9 (by decide)) (fun e9 => absurd e9 (by decide)) (fun e9 => absurd e9 (by decide))) (by decide) (by decide) hnw) (cwV 3 B.1.2.2.2.2 gX12_readStatement_X12_readSetting rfl rfl rfl (by decide +kernel) ⟨Nat.le_of_ble_eq_true rfl, Nat.le_of_ble_eq_true rfl⟩) h_38 rfl rfl rfl rfl (Nat.le_of_ble_eq_true rfl) dX12_readStatement_174 ⟨Nat.le_of_ble_eq_true rfl, Nat.le_of_ble_eq_true rfl⟩ (fun r_28 Φ28 sz28 st28 hp28 hs28 => ?_)
            obtain ⟨-, hq28, ⟨n_45, v_52, v_53, v_54, v_55, n_46, v_56, n_47, n_48, b_136, hI28⟩, hF28⟩ := hp28
            subst sz28
            replace hI28 : Im G x (NNc n_47 n_48, nw, cr, tp, tt, sI, sT, pt, ql, fl, pe, le, n_45, il, qu, v_52, v_53, v_54, v_55, n_46, v_56, ti, ad, ob, ra, rt, ex, sa, us, tk, th, me, dr, se, sn) Φ28 := hI28
            replace b_136 : (∃ (q9 : Nat), r_28 = some (.int 1) ∧ endA (bA fB il) (setA (bA fB il) nx 3 c) = (0, q9, n_48) ∧ ec = v_53 ∧ ep = v_56 ∧ n_48 10 = nI n_47 ∧ n_47 ≤ 4 ∧ p < q9 ∧ q9 ≤ il ∧ TkR (bA fB il) q9 v_52 n_46 n_45 v_55) ∨ (∃ (er9 s9 : Nat) (c9 : Cf), r_28 = some (.int 0) ∧ endA (bA fB il) (setA (bA fB il) nx 3 c) = (er9, s9, c9) ∧ (¬ er9 = 0 ∧ er9 ≤ 4) ∧ v_53 = nI er9 ∧ v_56 = nI s9) := b_136
            rcases b_136 with ⟨q_7, rfl, hN26, rfl, rfl, e_9, b_137, b_138, b_139, hT12⟩ | ⟨er_9, s_7, c_32, rfl, hN27, he9, rfl, rfl⟩
            · replace hT12 : TkR (bA fB il) q_7 v_52 n_46 n_45 v_55 := hT12
              obtain ⟨b_140, b_141, b_142, b_143⟩ := TkR_b hT12 (by omega)
              replace hs28 : st28 = [.int 1] := hs28
              subst st28
              replace hN26 : endA (bA fB il) (setA (bA fB il) nx 3 c) = (0, q_7, n_48) := hN26
              replace b_138 : p < q_7 := b_138
              replace b_139 : q_7 ≤ il := b_139
              exact z_ret_z B dX12_readStatement_177 (by decide) ⟨(Or.inr rfl), rfl, ⟨n_45, v_52, ec, v_54, v_55, n_46, ep, n_47, n_48, (Or.inl ⟨q_7, rfl, (congrArg (fun q9 => stK (bA fB il) q9 st nx c) (congrArg Prod.fst (tk_eq hT2))).trans ((stK_s (w := 3) (st_hit (i := 3) hT2 hp hv1 (by decide) (by decide) ((lcmp_eq c_5).trans (by decide +kernel))) (by decide) (by decide)).trans hN26), rfl, rfl, e_9, by omega, by omega, by omega, hT12⟩), hI28⟩, (fun b9 h9 => ((hF28 b9 h9).trans ((hF6 b9 (fun j9 h8 h7 => (show False from h7).elim)).trans ((hF5 b9 (fun j9 h8 h7 => (show False from h7).elim)).trans ((hF4 b9 (fun j9 h8 h7 => (show False from h7).elim)).trans ((hF3 b9 (fun j9 h8 h7 => (show False from h7).elim)).trans ((hF2 b9 (fun j9 h8 h7 => (show False from h7).elim)).trans ((hF1 b9 (fun j9 h8 h7 => (show False from h7).elim)).trans rfl))))))))⟩
            · replace hs28 : st28 = [.int 0] := hs28
              subst st28
              replace hN27 : endA (bA fB il) (setA (bA fB il) nx 3 c) = (er_9, s_7, c_32) := hN27
              replace he9 : ¬ er_9 = 0 ∧ er_9 ≤ 4 := he9
              exact z_ret_z B dX12_readStatement_177 (by decide) ⟨(Or.inl rfl), rfl, ⟨n_45, v_52, nI er_9, v_54, v_55, n_46, nI s_7, n_47, n_48, (Or.inr ⟨er_9, s_7, c_32, rfl, (congrArg (fun q9 => stK (bA fB il) q9 st nx c) (congrArg Prod.fst (tk_eq hT2))).trans ((stK_s (w := 3) (st_hit (i := 3) hT2 hp hv1 (by decide) (by decide) ((lcmp_eq c_5).trans (by decide +kernel))) (by decide) (by decide)).trans hN27), ⟨by omega, by omega⟩, rfl, rfl⟩), hI28⟩, (fun b9 h9 => ((hF28 b9 h9).trans ((hF6 b9 (fun j9 h8 h7 => (show False from h7).elim)).trans ((hF5 b9 (fun j9 h8 h7 => (show False from h7).elim)).trans ((hF4 b9 (fun j9 h8 h7 => (show False from h7).elim)).trans ((hF3 b9 (fun j9 h8 h7 => (show False from h7).elim)).trans ((hF2 b9 (fun j9 h8 h7 => (show False from h7).elim)).trans ((hF1 b9 (fun j9 h8 h7 => (show False from h7).elim)).trans rfl))))))))⟩
        · refine z_aload_n B dX12_readStatement_119 rfl 0 rfl ?_
          refine z_iconst (v := 2) B dX12_readStatement_120 rfl ?_
          refine z_iconst (v := 1) B dX12_readStatement_121 rfl ?_
          refine z_sipush (v := 10000) B dX12_readStatement_122 rfl ?_
          have h_39 : Φ4 (x + 25) = some (ab_ G 700 fB) := ((hF4 (x + 25) (fun j9 h8 h7 => (show False from h7).elim)).trans ((hF3 (x + 25) (fun j9 h8 h7 => (show False from h7).elim)).trans ((hF2 (x + 25) (fun j9 h8 h7 => (show False from h7).elim)).trans ((hF1 (x + 25) (fun j9 h8 h7 => (show False from h7).elim)).trans hc0))))
          have h_40 : Φ4 x = some (o_ 14 [.int th, .ref (x + 1), .ref (x + 2), .int ti, .int ra, .int (nI rt), .int ex, .int ad, .ref (x + 3), .ref (x + 4), .int me, .long se, .ref (x + 5), .int (nI fl), .int dr, .long ob, .long sa, .long sn, .long us, .ref (x + 6), .ref (x + 7), .int (nI pe), .ref (x + 8), .int (nI le), .ref (x + 9), .ref (x + 10), .int (nI qu), .ref (x + 11), .ref (x + 12), .ref (x + 13), .ref (x + 14), .ref (x + 15), .ref (x + 16), .int (nI n_1), .long v_1, .ref (x + 17), .ref (x + 18), .ref (x + 19), .ref (x + 20), .ref (x + 21), .ref (x + 22), .int (nI n_2), .ref (x + 23), .ref (x + 24), .int (nI tk), .ref (x + 25), .int (nI il), .int (nI nx), .int ec, .int ep, .int kn, .int (nI st), .int nu, .long va]) := ((hF4 x (fun j9 h8 h7 => (show False from h7).elim)).trans h_4)
          refine z_callV (As := [.int 2, .int 1, .int 10000]) (rest := []) B (r_readSetting G l Φ4 sz x nw cr tp tt sI sT pt ql fl pe le nx il qu kn ec nu va st ep ti ad ob ra rt ex sa us tk th me dr se sn fB p t c 2 1 10000 hx hI4 h_39 hT (show p ≤ il by omega) (show il ≤ 700 by omega) hct (show t ≤ 4 by omega) (show 1 < 2 ^ 31 by omega) (show 2 < 9 by omega) (fun n h1 h2 f h => NN.up h (by decide) (fun e9 => absurd e9 (by decide)) (fun e9 => absurd e9 (by decide)) (fun e9 => absurd e9 (by decide)) (fun e9 => absurd e9 (by decide))) (by decide) (by decide) hnw) (cwV 3 B.1.2.2.2.2 gX12_readStatement_X12_readSetting rfl rfl rfl (by decide +kernel) ⟨Nat.le_of_ble_eq_true rfl, Nat.le_of_ble_eq_true rfl⟩) h_40 rfl rfl rfl rfl (Nat.le_of_ble_eq_true rfl) dX12_readStatement_125 ⟨Nat.le_of_ble_eq_true rfl, Nat.le_of_ble_eq_true rfl⟩ (fun r_29 Φ29 sz29 st29 hp29 hs29 => ?_)
          obtain ⟨-, hq29, ⟨n_49, v_57, v_58, v_59, v_60, n_50, v_61, n_51, n_52, b_144, hI29⟩, hF29⟩ := hp29
          subst sz29
          replace hI29 : Im G x (NNc n_51 n_52, nw, cr, tp, tt, sI, sT, pt, ql, fl, pe, le, n_49, il, qu, v_57, v_58, v_59, v_60, n_50, v_61, ti, ad, ob, ra, rt, ex, sa, us, tk, th, me, dr, se, sn) Φ29 := hI29
          replace b_144 : (∃ (q9 : Nat), r_29 = some (.int 1) ∧ endA (bA fB il) (setA (bA fB il) nx 2 c) = (0, q9, n_52) ∧ ec = v_58 ∧ ep = v_61 ∧ n_52 10 = nI n_51 ∧ n_51 ≤ 4 ∧ p < q9 ∧ q9 ≤ il ∧ TkR (bA fB il) q9 v_57 n_50 n_49 v_60) ∨ (∃ (er9 s9 : Nat) (c9 : Cf), r_29 = some (.int 0) ∧ endA (bA fB il) (setA (bA fB il) nx 2 c) = (er9, s9, c9) ∧ (¬ er9 = 0 ∧ er9 ≤ 4) ∧ v_58 = nI er9 ∧ v_61 = nI s9) := b_144
          rcases b_144 with ⟨q_8, rfl, hN28, rfl, rfl, e_10, b_145, b_146, b_147, hT13⟩ | ⟨er_10, s_8, c_34, rfl, hN29, he10, rfl, rfl⟩
          · replace hT13 : TkR (bA fB il) q_8 v_57 n_50 n_49 v_60 := hT13
            obtain ⟨b_148, b_149, b_150, b_151⟩ := TkR_b hT13 (by omega)
            replace hs29 : st29 = [.int 1] := hs29
            subst st29
            replace hN28 : endA (bA fB il) (setA (bA fB il) nx 2 c) = (0, q_8, n_52) := hN28
            replace b_146 : p < q_8 := b_146
            replace b_147 : q_8 ≤ il := b_147
            exact z_ret_z B dX12_readStatement_128 (by decide) ⟨(Or.inr rfl), rfl, ⟨n_49, v_57, ec, v_59, v_60, n_50, ep, n_51, n_52, (Or.inl ⟨q_8, rfl, (congrArg (fun q9 => stK (bA fB il) q9 st nx c) (congrArg Prod.fst (tk_eq hT2))).trans ((stK_s (w := 2) (st_hit (i := 2) hT2 hp hv1 (by decide) (by decide) ((lcmp_eq c_4).trans (by decide +kernel))) (by decide) (by decide)).trans hN28), rfl, rfl, e_10, by omega, by omega, by omega, hT13⟩), hI29⟩, (fun b9 h9 => ((hF29 b9 h9).trans ((hF4 b9 (fun j9 h8 h7 => (show False from h7).elim)).trans ((hF3 b9 (fun j9 h8 h7 => (show False from h7).elim)).trans ((hF2 b9 (fun j9 h8 h7 => (show False from h7).elim)).trans ((hF1 b9 (fun j9 h8 h7 => (show False from h7).elim)).trans rfl))))))⟩
          · replace hs29 : st29 = [.int 0] := hs29
            subst st29
            replace hN29 : endA (bA fB il) (setA (bA fB il) nx 2 c) = (er_10, s_8, c_34) := hN29
            replace he10 : ¬ er_10 = 0 ∧ er_10 ≤ 4 := he10
            exact z_ret_z B dX12_readStatement_128 (by decide) ⟨(Or.inl rfl), rfl, ⟨n_49, v_57, nI er_10, v_59, v_60, n_50, nI s_8, n_51, n_52, (Or.inr ⟨er_10, s_8, c_34, rfl, (congrArg (fun q9 => stK (bA fB il) q9 st nx c) (congrArg Prod.fst (tk_eq hT2))).trans ((stK_s (w := 2) (st_hit (i := 2) hT2 hp hv1 (by decide) (by decide) ((lcmp_eq c_4).trans (by decide +kernel))) (by decide) (by decide)).trans hN29), ⟨by omega, by omega⟩, rfl, rfl⟩), hI29⟩, (fun b9 h9 => ((hF29 b9 h9).trans ((hF4 b9 (fun j9 h8 h7 => (show False from h7).elim)).trans ((hF3 b9 (fun j9 h8 h7 => (show False from h7).elim)).trans ((hF2 b9 (fun j9 h8 h7 => (show False from h7).elim)).trans ((hF1 b9 (fun j9 h8 h7 => (show False from h7).elim)).trans rfl))))))⟩
      · refine z_aload_n B dX12_readStatement_86 rfl 0 rfl ?_
        refine z_iconst (v := 1) B dX12_readStatement_87 rfl ?_
        refine z_iconst (v := 1) B dX12_readStatement_88 rfl ?_
        refine z_sipush (v := 1000) B dX12_readStatement_89 rfl ?_
        have h_41 : Φ3 (x + 25) = some (ab_ G 700 fB) := ((hF3 (x + 25) (fun j9 h8 h7 => (show False from h7).elim)).trans ((hF2 (x + 25) (fun j9 h8 h7 => (show False from h7).elim)).trans ((hF1 (x + 25) (fun j9 h8 h7 => (show False from h7).elim)).trans hc0)))
        have h_42 : Φ3 x = some (o_ 14 [.int th, .ref (x + 1), .ref (x + 2), .int ti, .int ra, .int (nI rt), .int ex, .int ad, .ref (x + 3), .ref (x + 4), .int me, .long se, .ref (x + 5), .int (nI fl), .int dr, .long ob, .long sa, .long sn, .long us, .ref (x + 6), .ref (x + 7), .int (nI pe), .ref (x + 8), .int (nI le), .ref (x + 9), .ref (x + 10), .int (nI qu), .ref (x + 11), .ref (x + 12), .ref (x + 13), .ref (x + 14), .ref (x + 15), .ref (x + 16), .int (nI n_1), .long v_1, .ref (x + 17), .ref (x + 18), .ref (x + 19), .ref (x + 20), .ref (x + 21), .ref (x + 22), .int (nI n_2), .ref (x + 23), .ref (x + 24), .int (nI tk), .ref (x + 25), .int (nI il), .int (nI nx), .int ec, .int ep, .int kn, .int (nI st), .int nu, .long va]) := ((hF3 x (fun j9 h8 h7 => (show False from h7).elim)).trans h_3)
        refine z_callV (As := [.int 1, .int 1, .int 1000]) (rest := []) B (r_readSetting G l Φ3 sz x nw cr tp tt sI sT pt ql fl pe le nx il qu kn ec nu va st ep ti ad ob ra rt ex sa us tk th me dr se sn fB p t c 1 1 1000 hx hI3 h_41 hT (show p ≤ il by omega) (show il ≤ 700 by omega) hct (show t ≤ 4 by omega) (show 1 < 2 ^ 31 by omega) (show 1 < 9 by omega) (fun n h1 h2 f h => NN.up h (by decide) (fun e9 => absurd e9 (by decide)) (fun e9 => absurd e9 (by decide)) (fun e9 => absurd e9 (by decide)) (fun e9 => absurd e9 (by decide))) (by decide) (by decide) hnw) (cwV 3 B.1.2.2.2.2 gX12_readStatement_X12_readSetting rfl rfl rfl (by decide +kernel) ⟨Nat.le_of_ble_eq_true rfl, Nat.le_of_ble_eq_true rfl⟩) h_42 rfl rfl rfl rfl (Nat.le_of_ble_eq_true rfl) dX12_readStatement_92 ⟨Nat.le_of_ble_eq_true rfl, Nat.le_of_ble_eq_true rfl⟩ (fun r_30 Φ30 sz30 st30 hp30 hs30 => ?_)
        obtain ⟨-, hq30, ⟨n_53, v_62, v_63, v_64, v_65, n_54, v_66, n_55, n_56, b_152, hI30⟩, hF30⟩ := hp30
        subst sz30
        replace hI30 : Im G x (NNc n_55 n_56, nw, cr, tp, tt, sI, sT, pt, ql, fl, pe, le, n_53, il, qu, v_62, v_63, v_64, v_65, n_54, v_66, ti, ad, ob, ra, rt, ex, sa, us, tk, th, me, dr, se, sn) Φ30 := hI30
        replace b_152 : (∃ (q9 : Nat), r_30 = some (.int 1) ∧ endA (bA fB il) (setA (bA fB il) nx 1 c) = (0, q9, n_56) ∧ ec = v_63 ∧ ep = v_66 ∧ n_56 10 = nI n_55 ∧ n_55 ≤ 4 ∧ p < q9 ∧ q9 ≤ il ∧ TkR (bA fB il) q9 v_62 n_54 n_53 v_65) ∨ (∃ (er9 s9 : Nat) (c9 : Cf), r_30 = some (.int 0) ∧ endA (bA fB il) (setA (bA fB il) nx 1 c) = (er9, s9, c9) ∧ (¬ er9 = 0 ∧ er9 ≤ 4) ∧ v_63 = nI er9 ∧ v_66 = nI s9) := b_152
        rcases b_152 with ⟨q_9, rfl, hN30, rfl, rfl, e_11, b_153, b_154, b_155, hT14⟩ | ⟨er_11, s_9, c_36, rfl, hN31, he11, rfl, rfl⟩
        · replace hT14 : TkR (bA fB il) q_9 v_62 n_54 n_53 v_65 := hT14
          obtain ⟨b_156, b_157, b_158, b_159⟩ := TkR_b hT14 (by omega)
          replace hs30 : st30 = [.int 1] := hs30
          subst st30
          replace hN30 : endA (bA fB il) (setA (bA fB il) nx 1 c) = (0, q_9, n_56) := hN30
          replace b_154 : p < q_9 := b_154
          replace b_155 : q_9 ≤ il := b_155
          exact z_ret_z B dX12_readStatement_95 (by decide) ⟨(Or.inr rfl), rfl, ⟨n_53, v_62, ec, v_64, v_65, n_54, ep, n_55, n_56, (Or.inl ⟨q_9, rfl, (congrArg (fun q9 => stK (bA fB il) q9 st nx c) (congrArg Prod.fst (tk_eq hT2))).trans ((stK_s (w := 1) (st_hit (i := 1) hT2 hp hv1 (by decide) (by decide) ((lcmp_eq c_3).trans (by decide +kernel))) (by decide) (by decide)).trans hN30), rfl, rfl, e_11, by omega, by omega, by omega, hT14⟩), hI30⟩, (fun b9 h9 => ((hF30 b9 h9).trans ((hF3 b9 (fun j9 h8 h7 => (show False from h7).elim)).trans ((hF2 b9 (fun j9 h8 h7 => (show False from h7).elim)).trans ((hF1 b9 (fun j9 h8 h7 => (show False from h7).elim)).trans rfl)))))⟩
        · replace hs30 : st30 = [.int 0] := hs30
          subst st30
          replace hN31 : endA (bA fB il) (setA (bA fB il) nx 1 c) = (er_11, s_9, c_36) := hN31
          replace he11 : ¬ er_11 = 0 ∧ er_11 ≤ 4 := he11
          exact z_ret_z B dX12_readStatement_95 (by decide) ⟨(Or.inl rfl), rfl, ⟨n_53, v_62, nI er_11, v_64, v_65, n_54, nI s_9, n_55, n_56, (Or.inr ⟨er_11, s_9, c_36, rfl, (congrArg (fun q9 => stK (bA fB il) q9 st nx c) (congrArg Prod.fst (tk_eq hT2))).trans ((stK_s (w := 1) (st_hit (i := 1) hT2 hp hv1 (by decide) (by decide) ((lcmp_eq c_3).trans (by decide +kernel))) (by decide) (by decide)).trans hN31), ⟨by omega, by omega⟩, rfl, rfl⟩), hI30⟩, (fun b9 h9 => ((hF30 b9 h9).trans ((hF3 b9 (fun j9 h8 h7 => (show False from h7).elim)).trans ((hF2 b9 (fun j9 h8 h7 => (show False from h7).elim)).trans ((hF1 b9 (fun j9 h8 h7 => (show False from h7).elim)).trans rfl)))))⟩
    · refine z_aload_n B dX12_readStatement_53 rfl 0 rfl ?_
      refine z_iconst (v := 0) B dX12_readStatement_54 rfl ?_
      refine z_iconst (v := 1) B dX12_readStatement_55 rfl ?_
      refine z_sipush (v := 1024) B dX12_readStatement_56 rfl ?_
      have h_43 : Φ2 (x + 25) = some (ab_ G 700 fB) := ((hF2 (x + 25) (fun j9 h8 h7 => (show False from h7).elim)).trans ((hF1 (x + 25) (fun j9 h8 h7 => (show False from h7).elim)).trans hc0))
      have h_44 : Φ2 x = some (o_ 14 [.int th, .ref (x + 1), .ref (x + 2), .int ti, .int ra, .int (nI rt), .int ex, .int ad, .ref (x + 3), .ref (x + 4), .int me, .long se, .ref (x + 5), .int (nI fl), .int dr, .long ob, .long sa, .long sn, .long us, .ref (x + 6), .ref (x + 7), .int (nI pe), .ref (x + 8), .int (nI le), .ref (x + 9), .ref (x + 10), .int (nI qu), .ref (x + 11), .ref (x + 12), .ref (x + 13), .ref (x + 14), .ref (x + 15), .ref (x + 16), .int (nI n_1), .long v_1, .ref (x + 17), .ref (x + 18), .ref (x + 19), .ref (x + 20), .ref (x + 21), .ref (x + 22), .int (nI n_2), .ref (x + 23), .ref (x + 24), .int (nI tk), .ref (x + 25), .int (nI il), .int (nI nx), .int ec, .int ep, .int kn, .int (nI st), .int nu, .long va]) := ((hF2 x (fun j9 h8 h7 => (show False from h7).elim)).trans ((hF1 x (fun j9 h8 h7 => (show False from h7).elim)).trans h_2))
      refine z_callV (As := [.int 0, .int 1, .int 1024]) (rest := []) B (r_readSetting G l Φ2 sz x nw cr tp tt sI sT pt ql fl pe le nx il qu kn ec nu va st ep ti ad ob ra rt ex sa us tk th me dr se sn fB p t c 0 1 1024 hx hI2 h_43 hT (show p ≤ il by omega) (show il ≤ 700 by omega) hct (show t ≤ 4 by omega) (show 1 < 2 ^ 31 by omega) (show 0 < 9 by omega) (fun n h1 h2 f h => NN.up h (by decide) (fun _ => ⟨n, h1, by have h9 : (1024 : Int32).toInt = 1024 := (by decide); omega, rfl⟩) (fun e9 => absurd e9 (by decide)) (fun e9 => absurd e9 (by decide)) (fun e9 => absurd e9 (by decide))) (by decide) (by decide) hnw) (cwV 3 B.1.2.2.2.2 gX12_readStatement_X12_readSetting rfl rfl rfl (by decide +kernel) ⟨Nat.le_of_ble_eq_true rfl, Nat.le_of_ble_eq_true rfl⟩) h_44 rfl rfl rfl rfl (Nat.le_of_ble_eq_true rfl) dX12_readStatement_59 ⟨Nat.le_of_ble_eq_true rfl, Nat.le_of_ble_eq_true rfl⟩ (fun r_31 Φ31 sz31 st31 hp31 hs31 => ?_)
      obtain ⟨-, hq31, ⟨n_57, v_67, v_68, v_69, v_70, n_58, v_71, n_59, n_60, b_160, hI31⟩, hF31⟩ := hp31
      subst sz31
      replace hI31 : Im G x (NNc n_59 n_60, nw, cr, tp, tt, sI, sT, pt, ql, fl, pe, le, n_57, il, qu, v_67, v_68, v_69, v_70, n_58, v_71, ti, ad, ob, ra, rt, ex, sa, us, tk, th, me, dr, se, sn) Φ31 := hI31
      replace b_160 : (∃ (q9 : Nat), r_31 = some (.int 1) ∧ endA (bA fB il) (setA (bA fB il) nx 0 c) = (0, q9, n_60) ∧ ec = v_68 ∧ ep = v_71 ∧ n_60 10 = nI n_59 ∧ n_59 ≤ 4 ∧ p < q9 ∧ q9 ≤ il ∧ TkR (bA fB il) q9 v_67 n_58 n_57 v_70) ∨ (∃ (er9 s9 : Nat) (c9 : Cf), r_31 = some (.int 0) ∧ endA (bA fB il) (setA (bA fB il) nx 0 c) = (er9, s9, c9) ∧ (¬ er9 = 0 ∧ er9 ≤ 4) ∧ v_68 = nI er9 ∧ v_71 = nI s9) := b_160
      rcases b_160 with ⟨q_10, rfl, hN32, rfl, rfl, e_12, b_161, b_162, b_163, hT15⟩ | ⟨er_12, s_10, c_38, rfl, hN33, he12, rfl, rfl⟩
      · replace hT15 : TkR (bA fB il) q_10 v_67 n_58 n_57 v_70 := hT15
        obtain ⟨b_164, b_165, b_166, b_167⟩ := TkR_b hT15 (by omega)
        replace hs31 : st31 = [.int 1] := hs31
        subst st31
        replace hN32 : endA (bA fB il) (setA (bA fB il) nx 0 c) = (0, q_10, n_60) := hN32
        replace b_162 : p < q_10 := b_162
        replace b_163 : q_10 ≤ il := b_163
        exact z_ret_z B dX12_readStatement_62 (by decide) ⟨(Or.inr rfl), rfl, ⟨n_57, v_67, ec, v_69, v_70, n_58, ep, n_59, n_60, (Or.inl ⟨q_10, rfl, (congrArg (fun q9 => stK (bA fB il) q9 st nx c) (congrArg Prod.fst (tk_eq hT2))).trans ((stK_s (w := 0) (st_hit (i := 0) hT2 hp hv1 (by decide) (by decide) ((lcmp_eq c_2).trans (by decide +kernel))) (by decide) (by decide)).trans hN32), rfl, rfl, e_12, by omega, by omega, by omega, hT15⟩), hI31⟩, (fun b9 h9 => ((hF31 b9 h9).trans ((hF2 b9 (fun j9 h8 h7 => (show False from h7).elim)).trans ((hF1 b9 (fun j9 h8 h7 => (show False from h7).elim)).trans rfl))))⟩
      · replace hs31 : st31 = [.int 0] := hs31
        subst st31
        replace hN33 : endA (bA fB il) (setA (bA fB il) nx 0 c) = (er_12, s_10, c_38) := hN33
        replace he12 : ¬ er_12 = 0 ∧ er_12 ≤ 4 := he12
        exact z_ret_z B dX12_readStatement_62 (by decide) ⟨(Or.inl rfl), rfl, ⟨n_57, v_67, nI er_12, v_69, v_70, n_58, nI s_10, n_59, n_60, (Or.inr ⟨er_12, s_10, c_38, rfl, (congrArg (fun q9 => stK (bA fB il) q9 st nx c) (congrArg Prod.fst (tk_eq hT2))).trans ((stK_s (w := 0) (st_hit (i := 0) hT2 hp hv1 (by decide) (by decide) ((lcmp_eq c_2).trans (by decide +kernel))) (by decide) (by decide)).trans hN33), ⟨by omega, by omega⟩, rfl, rfl⟩), hI31⟩, (fun b9 h9 => ((hF31 b9 h9).trans ((hF2 b9 (fun j9 h8 h7 => (show False from h7).elim)).trans ((hF1 b9 (fun j9 h8 h7 => (show False from h7).elim)).trans rfl))))⟩
  · refine z_aload_n B dX12_readStatement_8 rfl 0 rfl ?_
    refine z_iconst (v := 1) B dX12_readStatement_9 rfl ?_
    refine z_callV (As := [.int 1]) (rest := []) B (r_fail G l Φ sz x (NNc t c) nw cr tp tt sI sT pt ql fl pe le nx il qu kn ec nu va st ep ti ad ob ra rt ex sa us tk th me dr se sn 1 hx hI hnw) (cwV 1 B.1.2.2.2.2 gX12_readStatement_X12_fail rfl rfl rfl (by decide +kernel) ⟨Nat.le_of_ble_eq_true rfl, Nat.le_of_ble_eq_true rfl⟩) h_2 rfl rfl rfl rfl (Nat.le_of_ble_eq_true rfl) dX12_readStatement_10 ⟨Nat.le_of_ble_eq_true rfl, Nat.le_of_ble_eq_true rfl⟩ (fun r_32 Φ32 sz32 st32 hp32 hs32 => ?_)
    obtain ⟨rfl, hq32, hI32, hF32⟩ := hp32
    subst sz32
    replace hs32 : st32 = [.int 0] := hs32
    subst st32
    replace hI32 : Im G x ((NNc t c), nw, cr, tp, tt, sI, sT, pt, ql, fl, pe, le, nx, il, qu, kn, 1, nu, va, st, nI st, ti, ad, ob, ra, rt, ex, sa, us, tk, th, me, dr, se, sn) Φ32 := hI32
    exact z_ret_z B dX12_readStatement_13 (by decide) ⟨(Or.inl rfl), rfl, ⟨nx, kn, 1, nu, va, st, nI st, t, c, (Or.inr ⟨1, st, c, rfl, (congrArg (fun q9 => stK (bA fB il) q9 st nx c) (congrArg Prod.fst (tk_eq hT1))).trans (stK_1 (wd_no (fun h9 => c_1 (e_1.trans (congrArg kR h9))))), ⟨by omega, by omega⟩, rfl, rfl⟩), hI32⟩, (fun b9 h9 => ((hF32 b9 (fun j9 h8 h7 => h9 j9 h8 (fq_1202 j9 h7))).trans rfl))⟩

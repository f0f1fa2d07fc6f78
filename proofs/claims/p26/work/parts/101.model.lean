set_option maxRecDepth 20000 in
theorem ggX12_readInto_X12_readNumber : GoodIn wsX12_readInto wsX12_readNumber := goodIn_ca ((goodIn_ca (goodIn_r _ [7, 8, 9, 2, 10, 11, 12, 6, 13, 14, 15, 16, 17, 18, 19, 20, 21, 22, 23, 24, 25, 26, 27, 28, 29, 30, 31, 32, 33, 34, 35, 36, 37, 38, 39, 40, 41, 42, 43] rfl (by decide +kernel)) (goodIn_sub (fun _ h => List.mem_cons_of_mem _ (List.mem_append_left _ (List.mem_append_right _ h))) gw_wsX120))) (goodIn_sub (fun _ h => List.mem_cons_of_mem _ (List.mem_append_right _ h)) (all_fg _))
set_option maxRecDepth 20000 in
theorem gX12_readInto_X12_readNumber : GoodIn wsX12_readInto (wsV RX12 492 RX12 yX12_readNumber wsX12_readNumber) := goodIn_app (goodIn_m (mem_cA (List.mem_cons_of_mem _ (List.mem_append_left _ (List.mem_append_left _ (List.mem_append_left _ (List.mem_of_getElem? (i := 2) rfl))))) (mem_cA (List.mem_cons_of_mem _ (List.mem_append_left _ (List.mem_append_left _ (List.mem_append_left _ (List.mem_of_getElem? (i := 3) rfl))))) (mem_cA (List.mem_cons_of_mem _ (List.mem_append_left _ (List.mem_append_left _ (List.mem_append_left _ (List.mem_of_getElem? (i := 4) rfl))))) (mem_cA (List.mem_cons_of_mem _ (List.mem_append_left _ (List.mem_append_left _ (List.mem_append_left _ (List.mem_of_getElem? (i := 5) rfl))))) mem_cZ)))) (by decide +kernel)) ggX12_readInto_X12_readNumber
theorem dX12_readInto_0 : decode cX12_readInto 0 = .ok (.aload_n 0, 1) := by decide +kernel
theorem dX12_readInto_1 : decode cX12_readInto 1 = .ok (.iload_n 2, 1) := by decide +kernel
theorem dX12_readInto_2 : decode cX12_readInto 2 = .ok (.iload_n 3, 1) := by decide +kernel
theorem dX12_readInto_3 : decode cX12_readInto 3 = .ok (.invokevirtual 492, 3) := by decide +kernel
theorem dX12_readInto_6 : decode cX12_readInto 6 = .ok (.ifCond .ne 5, 3) := by decide +kernel
theorem dX12_readInto_9 : decode cX12_readInto 9 = .ok (.iconst 0, 1) := by decide +kernel
theorem dX12_readInto_10 : decode cX12_readInto 10 = .ok (.ireturn, 1) := by decide +kernel
theorem dX12_readInto_11 : decode cX12_readInto 11 = .ok (.aload_n 0, 1) := by decide +kernel
theorem dX12_readInto_12 : decode cX12_readInto 12 = .ok (.getfield 13, 3) := by decide +kernel
theorem dX12_readInto_15 : decode cX12_readInto 15 = .ok (.iload_n 1, 1) := by decide +kernel
theorem dX12_readInto_16 : decode cX12_readInto 16 = .ok (.aload_n 0, 1) := by decide +kernel
theorem dX12_readInto_17 : decode cX12_readInto 17 = .ok (.getfield 486, 3) := by decide +kernel
theorem dX12_readInto_20 : decode cX12_readInto 20 = .ok (.iastore, 1) := by decide +kernel
theorem dX12_readInto_21 : decode cX12_readInto 21 = .ok (.iconst 1, 1) := by decide +kernel
theorem dX12_readInto_22 : decode cX12_readInto 22 = .ok (.ireturn, 1) := by decide +kernel
set_option maxRecDepth 20000 in
theorem ggX12_readEnd_X12_fail : GoodIn wsX12_readEnd wsX12_fail := (goodIn_ca (goodIn_r _ [6, 7, 8, 9] rfl (by decide +kernel)) (goodIn_sub (fun _ h => List.mem_cons_of_mem _ (List.mem_append_left _ (List.mem_append_right _ h))) gw_wsX120))
set_option maxRecDepth 20000 in
theorem gX12_readEnd_X12_fail : GoodIn wsX12_readEnd (wsV RX12 483 RX12 yX12_fail wsX12_fail) := goodIn_app (goodIn_m (mem_cA (List.mem_cons_of_mem _ (List.mem_append_left _ (List.mem_append_left _ (List.mem_append_left _ (List.mem_of_getElem? (i := 1) rfl))))) (mem_cA (List.mem_cons_of_mem _ (List.mem_append_left _ (List.mem_append_left _ (List.mem_append_left _ (List.mem_of_getElem? (i := 2) rfl))))) (mem_cA (List.mem_cons_of_mem _ (List.mem_append_left _ (List.mem_append_left _ (List.mem_append_left _ (List.mem_of_getElem? (i := 3) rfl))))) (mem_cA (List.mem_cons_of_mem _ (List.mem_append_left _ (List.mem_append_left _ (List.mem_append_left _ (List.mem_of_getElem? (i := 4) rfl))))) mem_cZ)))) (by decide +kernel)) ggX12_readEnd_X12_fail
set_option maxRecDepth 20000 in
theorem ggX12_readEnd_X12_advanceToken : GoodIn wsX12_readEnd wsX12_advanceToken := goodIn_ca ((goodIn_ca (goodIn_r _ [13, 14, 8, 15, 1, 16, 17, 18, 19, 20, 21, 22, 5, 23, 24, 25, 26, 27, 28, 29, 30, 31, 32, 33, 34, 35, 36, 37] rfl (by decide +kernel)) (goodIn_sub (fun _ h => List.mem_cons_of_mem _ (List.mem_append_left _ (List.mem_append_right _ h))) gw_wsX120))) (goodIn_sub (fun _ h => List.mem_cons_of_mem _ (List.mem_append_right _ h)) (all_fg _))
set_option maxRecDepth 20000 in
theorem gX12_readEnd_X12_advanceToken : GoodIn wsX12_readEnd (wsV RX12 489 RX12 yX12_advanceToken wsX12_advanceToken) := goodIn_app (goodIn_m (mem_cA (List.mem_cons_of_mem _ (List.mem_append_left _ (List.mem_append_left _ (List.mem_append_left _ (List.mem_of_getElem? (i := 9) rfl))))) (mem_cA (List.mem_cons_of_mem _ (List.mem_append_left _ (List.mem_append_left _ (List.mem_append_left _ (List.mem_of_getElem? (i := 10) rfl))))) (mem_cA (List.mem_cons_of_mem _ (List.mem_append_left _ (List.mem_append_left _ (List.mem_append_left _ (List.mem_of_getElem? (i := 11) rfl))))) (mem_cA (List.mem_cons_of_mem _ (List.mem_append_left _ (List.mem_append_left _ (List.mem_append_left _ (List.mem_of_getElem? (i := 4) rfl))))) mem_cZ)))) (by decide +kernel)) ggX12_readEnd_X12_advanceToken
theorem dX12_readEnd_0 : decode cX12_readEnd 0 = .ok (.aload_n 0, 1) := by decide +kernel
theorem dX12_readEnd_1 : decode cX12_readEnd 1 = .ok (.getfield 476, 3) := by decide +kernel
theorem dX12_readEnd_4 : decode cX12_readEnd 4 = .ok (.iconst 3, 1) := by decide +kernel
theorem dX12_readEnd_5 : decode cX12_readEnd 5 = .ok (.if_icmp .eq 9, 3) := by decide +kernel
theorem dX12_readEnd_8 : decode cX12_readEnd 8 = .ok (.aload_n 0, 1) := by decide +kernel
theorem dX12_readEnd_9 : decode cX12_readEnd 9 = .ok (.iconst 1, 1) := by decide +kernel
theorem dX12_readEnd_10 : decode cX12_readEnd 10 = .ok (.invokevirtual 483, 3) := by decide +kernel
theorem dX12_readEnd_13 : decode cX12_readEnd 13 = .ok (.ireturn, 1) := by decide +kernel
theorem dX12_readEnd_14 : decode cX12_readEnd 14 = .ok (.aload_n 0, 1) := by decide +kernel
theorem dX12_readEnd_15 : decode cX12_readEnd 15 = .ok (.invokevirtual 489, 3) := by decide +kernel
theorem dX12_readEnd_18 : decode cX12_readEnd 18 = .ok (.iconst 1, 1) := by decide +kernel
theorem dX12_readEnd_19 : decode cX12_readEnd 19 = .ok (.ireturn, 1) := by decide +kernel
set_option maxRecDepth 20000 in
theorem ggX12_readDrop_X12_advanceToken : GoodIn wsX12_readDrop wsX12_advanceToken := goodIn_ca ((goodIn_ca (goodIn_r _ [6, 7, 8, 9, 10, 11, 12, 13, 14, 15, 16, 17, 5, 18, 19, 20, 21, 22, 23, 24, 25, 26, 27, 28, 29, 30, 31, 32] rfl (by decide +kernel)) (goodIn_sub (fun _ h => List.mem_cons_of_mem _ (List.mem_append_left _ (List.mem_append_right _ h))) gw_wsX120))) (goodIn_sub (fun _ h => List.mem_cons_of_mem _ (List.mem_append_right _ h)) (all_fg _))
set_option maxRecDepth 20000 in
theorem gX12_readDrop_X12_advanceToken : GoodIn wsX12_readDrop (wsV RX12 489 RX12 yX12_advanceToken wsX12_advanceToken) := goodIn_app (goodIn_m (mem_cA (List.mem_cons_of_mem _ (List.mem_append_left _ (List.mem_append_left _ (List.mem_append_left _ (List.mem_of_getElem? (i := 1) rfl))))) (mem_cA (List.mem_cons_of_mem _ (List.mem_append_left _ (List.mem_append_left _ (List.mem_append_left _ (List.mem_of_getElem? (i := 2) rfl))))) (mem_cA (List.mem_cons_of_mem _ (List.mem_append_left _ (List.mem_append_left _ (List.mem_append_left _ (List.mem_of_getElem? (i := 3) rfl))))) (mem_cA (List.mem_cons_of_mem _ (List.mem_append_left _ (List.mem_append_left _ (List.mem_append_left _ (List.mem_of_getElem? (i := 4) rfl))))) mem_cZ)))) (by decide +kernel)) ggX12_readDrop_X12_advanceToken
set_option maxRecDepth 20000 in
theorem ggX12_readDrop_X12_fieldHere : GoodIn wsX12_readDrop wsX12_fieldHere := (goodIn_ca (goodIn_r _ [36, 10, 9, 37, 38, 39, 40, 5, 41, 12, 11] rfl (by decide +kernel)) (goodIn_sub (fun _ h => List.mem_cons_of_mem _ (List.mem_append_left _ (List.mem_append_right _ h))) gw_wsX120))
set_option maxRecDepth 20000 in
theorem gX12_readDrop_X12_fieldHere : GoodIn wsX12_readDrop (wsV RX12 503 RX12 yX12_fieldHere wsX12_fieldHere) := goodIn_app (goodIn_m (mem_cA (List.mem_cons_of_mem _ (List.mem_append_left _ (List.mem_append_left _ (List.mem_append_right _ (List.mem_append_left _ (List.mem_of_getElem? (i := 8) rfl)))))) (mem_cA (List.mem_cons_of_mem _ (List.mem_append_left _ (List.mem_append_left _ (List.mem_append_right _ (List.mem_append_left _ (List.mem_of_getElem? (i := 9) rfl)))))) (mem_cA (List.mem_cons_of_mem _ (List.mem_append_left _ (List.mem_append_left _ (List.mem_append_right _ (List.mem_append_left _ (List.mem_of_getElem? (i := 10) rfl)))))) (mem_cA (List.mem_cons_of_mem _ (List.mem_append_left _ (List.mem_append_left _ (List.mem_append_left _ (List.mem_of_getElem? (i := 4) rfl))))) mem_cZ)))) (by decide +kernel)) ggX12_readDrop_X12_fieldHere
set_option maxRecDepth 20000 in
theorem ggX12_readDrop_X12_fail : GoodIn wsX12_readDrop wsX12_fail := (goodIn_ca (goodIn_r _ [45, 46, 8, 47] rfl (by decide +kernel)) (goodIn_sub (fun _ h => List.mem_cons_of_mem _ (List.mem_append_left _ (List.mem_append_right _ h))) gw_wsX120))
set_option maxRecDepth 20000 in
theorem gX12_readDrop_X12_fail : GoodIn wsX12_readDrop (wsV RX12 483 RX12 yX12_fail wsX12_fail) := goodIn_app (goodIn_m (mem_cA (List.mem_cons_of_mem _ (List.mem_append_left _ (List.mem_append_left _ (List.mem_append_right _ (List.mem_append_left _ (List.mem_of_getElem? (i := 17) rfl)))))) (mem_cA (List.mem_cons_of_mem _ (List.mem_append_left _ (List.mem_append_left _ (List.mem_append_right _ (List.mem_append_left _ (List.mem_of_getElem? (i := 18) rfl)))))) (mem_cA (List.mem_cons_of_mem _ (List.mem_append_left _ (List.mem_append_left _ (List.mem_append_right _ (List.mem_append_left _ (List.mem_of_getElem? (i := 19) rfl)))))) (mem_cA (List.mem_cons_of_mem _ (List.mem_append_left _ (List.mem_append_left _ (List.mem_append_left _ (List.mem_of_getElem? (i := 4) rfl))))) mem_cZ)))) (by decide +kernel)) ggX12_readDrop_X12_fail
set_option maxRecDepth 20000 in
theorem ggX12_readDrop_X12_readEnd : GoodIn wsX12_readDrop wsX12_readEnd := goodIn_ca ((goodIn_ca (goodIn_r _ [51, 10, 42, 43, 44, 5, 45, 46, 8, 47, 2, 3, 4, 6, 7, 9, 11, 12, 13, 14, 15, 16, 17, 18, 19, 20, 21, 22, 23, 24, 25, 26, 27, 28, 29, 30, 31, 32] rfl (by decide +kernel)) (goodIn_sub (fun _ h => List.mem_cons_of_mem _ (List.mem_append_left _ (List.mem_append_right _ h))) gw_wsX120))) (goodIn_sub (fun _ h => List.mem_cons_of_mem _ (List.mem_append_right _ h)) (all_fg _))
set_option maxRecDepth 20000 in
theorem gX12_readDrop_X12_readEnd : GoodIn wsX12_readDrop (wsV RX12 506 RX12 yX12_readEnd wsX12_readEnd) := goodIn_app (goodIn_m (mem_cA (List.mem_cons_of_mem _ (List.mem_append_left _ (List.mem_append_left _ (List.mem_append_right _ (List.mem_append_left _ (List.mem_of_getElem? (i := 23) rfl)))))) (mem_cA (List.mem_cons_of_mem _ (List.mem_append_left _ (List.mem_append_left _ (List.mem_append_right _ (List.mem_append_right _ (List.mem_of_getElem? (i := 0) rfl)))))) (mem_cA (List.mem_cons_of_mem _ (List.mem_append_left _ (List.mem_append_left _ (List.mem_append_right _ (List.mem_append_right _ (List.mem_of_getElem? (i := 1) rfl)))))) (mem_cA (List.mem_cons_of_mem _ (List.mem_append_left _ (List.mem_append_left _ (List.mem_append_left _ (List.mem_of_getElem? (i := 4) rfl))))) mem_cZ)))) (by decide +kernel)) ggX12_readDrop_X12_readEnd
theorem dX12_readDrop_0 : decode cX12_readDrop 0 = .ok (.aload_n 0, 1) := by decide +kernel
theorem dX12_readDrop_1 : decode cX12_readDrop 1 = .ok (.invokevirtual 489, 3) := by decide +kernel
theorem dX12_readDrop_4 : decode cX12_readDrop 4 = .ok (.aload_n 0, 1) := by decide +kernel
theorem dX12_readDrop_5 : decode cX12_readDrop 5 = .ok (.invokevirtual 503, 3) := by decide +kernel
theorem dX12_readDrop_8 : decode cX12_readDrop 8 = .ok (.iconst (-1), 1) := by decide +kernel
theorem dX12_readDrop_9 : decode cX12_readDrop 9 = .ok (.if_icmp .ne 9, 3) := by decide +kernel
theorem dX12_readDrop_12 : decode cX12_readDrop 12 = .ok (.aload_n 0, 1) := by decide +kernel
theorem dX12_readDrop_13 : decode cX12_readDrop 13 = .ok (.iconst 1, 1) := by decide +kernel
theorem dX12_readDrop_14 : decode cX12_readDrop 14 = .ok (.invokevirtual 483, 3) := by decide +kernel
theorem dX12_readDrop_17 : decode cX12_readDrop 17 = .ok (.ireturn, 1) := by decide +kernel
theorem dX12_readDrop_18 : decode cX12_readDrop 18 = .ok (.aload_n 0, 1) := by decide +kernel
theorem dX12_readDrop_19 : decode cX12_readDrop 19 = .ok (.getfield 13, 3) := by decide +kernel
theorem dX12_readDrop_22 : decode cX12_readDrop 22 = .ok (.bipush 9, 2) := by decide +kernel
theorem dX12_readDrop_24 : decode cX12_readDrop 24 = .ok (.dup2, 1) := by decide +kernel
theorem dX12_readDrop_25 : decode cX12_readDrop 25 = .ok (.iaload, 1) := by decide +kernel
theorem dX12_readDrop_26 : decode cX12_readDrop 26 = .ok (.iconst 1, 1) := by decide +kernel
theorem dX12_readDrop_27 : decode cX12_readDrop 27 = .ok (.aload_n 0, 1) := by decide +kernel
theorem dX12_readDrop_28 : decode cX12_readDrop 28 = .ok (.invokevirtual 503, 3) := by decide +kernel
theorem dX12_readDrop_31 : decode cX12_readDrop 31 = .ok (.ishl, 1) := by decide +kernel
theorem dX12_readDrop_32 : decode cX12_readDrop 32 = .ok (.iconst (-1), 1) := by decide +kernel
theorem dX12_readDrop_33 : decode cX12_readDrop 33 = .ok (.ixor, 1) := by decide +kernel
theorem dX12_readDrop_34 : decode cX12_readDrop 34 = .ok (.iand, 1) := by decide +kernel
theorem dX12_readDrop_35 : decode cX12_readDrop 35 = .ok (.iastore, 1) := by decide +kernel
theorem dX12_readDrop_36 : decode cX12_readDrop 36 = .ok (.aload_n 0, 1) := by decide +kernel
theorem dX12_readDrop_37 : decode cX12_readDrop 37 = .ok (.invokevirtual 489, 3) := by decide +kernel
theorem dX12_readDrop_40 : decode cX12_readDrop 40 = .ok (.aload_n 0, 1) := by decide +kernel
theorem dX12_readDrop_41 : decode cX12_readDrop 41 = .ok (.invokevirtual 506, 3) := by decide +kernel
theorem dX12_readDrop_44 : decode cX12_readDrop 44 = .ok (.ireturn, 1) := by decide +kernel
set_option maxRecDepth 20000 in
theorem ggX12_readSetting_X12_advanceToken : GoodIn wsX12_readSetting wsX12_advanceToken := goodIn_ca ((goodIn_ca (goodIn_r _ [5, 6, 7, 8, 9, 10, 11, 12, 13, 14, 15, 16, 4, 17, 18, 19, 20, 21, 22, 23, 24, 25, 26, 27, 28, 29, 30, 31] rfl (by decide +kernel)) (goodIn_sub (fun _ h => List.mem_cons_of_mem _ (List.mem_append_left _ (List.mem_append_right _ h))) gw_wsX120))) (goodIn_sub (fun _ h => List.mem_cons_of_mem _ (List.mem_append_right _ h)) (all_fg _))
set_option maxRecDepth 20000 in
theorem gX12_readSetting_X12_advanceToken : GoodIn wsX12_readSetting (wsV RX12 489 RX12 yX12_advanceToken wsX12_advanceToken) := goodIn_app (goodIn_m (mem_cA (List.mem_cons_of_mem _ (List.mem_append_left _ (List.mem_append_left _ (List.mem_append_left _ (List.mem_of_getElem? (i := 0) rfl))))) (mem_cA (List.mem_cons_of_mem _ (List.mem_append_left _ (List.mem_append_left _ (List.mem_append_left _ (List.mem_of_getElem? (i := 1) rfl))))) (mem_cA (List.mem_cons_of_mem _ (List.mem_append_left _ (List.mem_append_left _ (List.mem_append_left _ (List.mem_of_getElem? (i := 2) rfl))))) (mem_cA (List.mem_cons_of_mem _ (List.mem_append_left _ (List.mem_append_left _ (List.mem_append_left _ (List.mem_of_getElem? (i := 3) rfl))))) mem_cZ)))) (by decide +kernel)) ggX12_readSetting_X12_advanceToken
set_option maxRecDepth 20000 in
theorem ggX12_readSetting_X12_readInto : GoodIn wsX12_readSetting wsX12_readInto := goodIn_ca ((goodIn_ca (goodIn_r _ [35, 36, 37, 38, 39, 40, 4, 41, 9, 8, 42, 43, 44, 45, 46, 7, 47, 25, 26, 27, 1, 2, 3, 5, 6, 10, 11, 12, 13, 14, 15, 16, 17, 18, 19, 20, 21, 22, 23, 24, 28, 29, 30, 31] rfl (by decide +kernel)) (goodIn_sub (fun _ h => List.mem_cons_of_mem _ (List.mem_append_left _ (List.mem_append_right _ h))) gw_wsX120))) (goodIn_sub (fun _ h => List.mem_cons_of_mem _ (List.mem_append_right _ h)) (all_fg _))
set_option maxRecDepth 20000 in
theorem gX12_readSetting_X12_readInto : GoodIn wsX12_readSetting (wsV RX12 510 RX12 yX12_readInto wsX12_readInto) := goodIn_app (goodIn_m (mem_cA (List.mem_cons_of_mem _ (List.mem_append_left _ (List.mem_append_left _ (List.mem_append_right _ (List.mem_append_left _ (List.mem_of_getElem? (i := 7) rfl)))))) (mem_cA (List.mem_cons_of_mem _ (List.mem_append_left _ (List.mem_append_left _ (List.mem_append_right _ (List.mem_append_left _ (List.mem_of_getElem? (i := 8) rfl)))))) (mem_cA (List.mem_cons_of_mem _ (List.mem_append_left _ (List.mem_append_left _ (List.mem_append_right _ (List.mem_append_left _ (List.mem_of_getElem? (i := 9) rfl)))))) (mem_cA (List.mem_cons_of_mem _ (List.mem_append_left _ (List.mem_append_left _ (List.mem_append_left _ (List.mem_of_getElem? (i := 3) rfl))))) mem_cZ)))) (by decide +kernel)) ggX12_readSetting_X12_readInto
set_option maxRecDepth 20000 in
theorem ggX12_readSetting_X12_readEnd : GoodIn wsX12_readSetting wsX12_readEnd := goodIn_ca ((goodIn_ca (goodIn_r _ [51, 9, 42, 43, 44, 4, 45, 46, 7, 47, 1, 2, 3, 5, 6, 8, 10, 11, 12, 13, 14, 15, 16, 17, 18, 19, 20, 21, 22, 23, 24, 25, 26, 27, 28, 29, 30, 31] rfl (by decide +kernel)) (goodIn_sub (fun _ h => List.mem_cons_of_mem _ (List.mem_append_left _ (List.mem_append_right _ h))) gw_wsX120))) (goodIn_sub (fun _ h => List.mem_cons_of_mem _ (List.mem_append_right _ h)) (all_fg _))
set_option maxRecDepth 20000 in
theorem gX12_readSetting_X12_readEnd : GoodIn wsX12_readSetting (wsV RX12 506 RX12 yX12_readEnd wsX12_readEnd) := goodIn_app (goodIn_m (mem_cA (List.mem_cons_of_mem _ (List.mem_append_left _ (List.mem_append_left _ (List.mem_append_right _ (List.mem_append_left _ (List.mem_of_getElem? (i := 23) rfl)))))) (mem_cA (List.mem_cons_of_mem _ (List.mem_append_left _ (List.mem_append_left _ (List.mem_append_right _ (List.mem_append_right _ (List.mem_of_getElem? (i := 0) rfl)))))) (mem_cA (List.mem_cons_of_mem _ (List.mem_append_left _ (List.mem_append_left _ (List.mem_append_right _ (List.mem_append_right _ (List.mem_of_getElem? (i := 1) rfl)))))) (mem_cA (List.mem_cons_of_mem _ (List.mem_append_left _ (List.mem_append_left _ (List.mem_append_left _ (List.mem_of_getElem? (i := 3) rfl))))) mem_cZ)))) (by decide +kernel)) ggX12_readSetting_X12_readEnd
theorem dX12_readSetting_0 : decode cX12_readSetting 0 = .ok (.aload_n 0, 1) := by decide +kernel
theorem dX12_readSetting_1 : decode cX12_readSetting 1 = .ok (.invokevirtual 489, 3) := by decide +kernel
theorem dX12_readSetting_4 : decode cX12_readSetting 4 = .ok (.aload_n 0, 1) := by decide +kernel
theorem dX12_readSetting_5 : decode cX12_readSetting 5 = .ok (.iload_n 1, 1) := by decide +kernel
theorem dX12_readSetting_6 : decode cX12_readSetting 6 = .ok (.iload_n 2, 1) := by decide +kernel
theorem dX12_readSetting_7 : decode cX12_readSetting 7 = .ok (.iload_n 3, 1) := by decide +kernel
theorem dX12_readSetting_8 : decode cX12_readSetting 8 = .ok (.invokevirtual 510, 3) := by decide +kernel
theorem dX12_readSetting_11 : decode cX12_readSetting 11 = .ok (.ifCond .eq 14, 3) := by decide +kernel
theorem dX12_readSetting_14 : decode cX12_readSetting 14 = .ok (.aload_n 0, 1) := by decide +kernel
theorem dX12_readSetting_15 : decode cX12_readSetting 15 = .ok (.invokevirtual 506, 3) := by decide +kernel
theorem dX12_readSetting_18 : decode cX12_readSetting 18 = .ok (.ifCond .eq 7, 3) := by decide +kernel
theorem dX12_readSetting_21 : decode cX12_readSetting 21 = .ok (.iconst 1, 1) := by decide +kernel
theorem dX12_readSetting_22 : decode cX12_readSetting 22 = .ok (.goto 4, 3) := by decide +kernel
theorem dX12_readSetting_25 : decode cX12_readSetting 25 = .ok (.iconst 0, 1) := by decide +kernel
theorem dX12_readSetting_26 : decode cX12_readSetting 26 = .ok (.ireturn, 1) := by decide +kernel
set_option maxHeartbeats 4000000 in
set_option maxRecDepth 100000 in
theorem r_readEnd (G : EnvG) (l : Launch) (Φ : Hm) (sz x : Nat) (rd : (Nat → Int32) → Prop) (nw : (Nat → Int32) → Prop) (cr : (Nat → Int64) → Prop) (tp : (Nat → Int32) → Prop) (tt : (Nat → Int64) → Prop) (sI : (Nat → Int32) → Prop) (sT : (Nat → Int32) → Prop) (pt : (Nat → Int32) → Prop) (ql : (Nat → Int32) → Prop) (fl : Nat) (pe : Nat) (le : Nat) (nx : Nat) (il : Nat) (qu : Nat) (kn : Int32) (ec : Int32) (nu : Int32) (va : Int64) (st : Nat) (ep : Int32) (ti : Int32) (ad : Int32) (ob : Int64) (ra : Int32) (rt : Nat) (ex : Int32) (sa : Int64) (us : Int64) (tk : Nat) (th : Int32) (me : Int32) (dr : Int32) (se : Int64) (sn : Int64) (fB : Nat → Int32) (p : Nat) (hx : G.2.2.2 ≤ x) (hI : Im G x (rd, nw, cr, tp, tt, sI, sT, pt, ql, fl, pe, le, nx, il, qu, kn, ec, nu, va, st, ep, ti, ad, ob, ra, rt, ex, sa, us, tk, th, me, dr, se, sn) Φ) (hc0 : Φ (x + 25) = some (ab_ G 700 fB)) (hT : TkR (bA fB il) p kn st nx va) (hp : p ≤ il) (hll : il ≤ 700) (hnw : ∀ f9 : Nat → Int32, nw f9 → NN f9) : Ct G l yX12_readEnd wsX12_readEnd ({ frames := 3, cells := 0, slots := 0, locals := 66 }) 0 0 [.ref x] Φ sz (fun v Φ1 sz1 => (v = some (.int 0) ∨ v = some (.int 1)) ∧ sz1 = sz ∧ (∃ (nx1 : Nat) (kn1 : Int32) (ec1 : Int32) (nu1 : Int32) (va1 : Int64) (st1 : Nat) (ep1 : Int32), ((v = some (.int 1) ∧ semi (bA fB il) p = (0, nx) ∧ ec = ec1 ∧ ep = ep1 ∧ nu = nu1 ∧ TkR (bA fB il) nx kn1 st1 nx1 va1) ∨ (v = some (.int 0) ∧ semi (bA fB il) p = (1, st) ∧ ec1 = 1 ∧ ep1 = nI st)) ∧ Im G x (rd, nw, cr, tp, tt, sI, sT, pt, ql, fl, pe, le, nx1, il, qu, kn1, ec1, nu1, va1, st1, ep1, ti, ad, ob, ra, rt, ex, sa, us, tk, th, me, dr, se, sn) Φ1) ∧ Fr x (fun j9 => j9 = 0) Φ Φ1) := by
  refine Ct.of (cc := cX12_readEnd) (maxL := 1) (ret := (some .boolean)) (by decide) rfl (Nat.le_of_ble_eq_true rfl) ?_
  intro p9 e9 s9 m9 w9 t9 k9 B
  show Z p9 l e9 _ s9 m9 _ w9 t9 k9 _ G 1 0 [(0, .ref x)] [] Φ sz 0 0
  obtain ⟨b_1, b_2, b_3, b_4⟩ := TkR_b hT (by omega)
  refine z_aload_n B dX12_readEnd_0 rfl 0 rfl ?_
  obtain ⟨n_1, v_1, n_2, h_1, b_17, b_5, b_6, b_7, b_8, b_9, b_10, b_11, b_12, b_13, b_14, b_15, b_16⟩ := im0 hI
  replace b_5 : 1 ≤ rt := b_5
  replace b_6 : rt ≤ 1024 := b_6
  replace b_7 : fl ≤ 12 := b_7
  replace b_8 : pe ≤ 24 := b_8
  replace b_9 : le ≤ 700 := b_9
  replace b_10 : qu ≤ 12 := b_10
  replace b_11 : n_1 ≤ 8 := b_11
  replace b_12 : n_2 ≤ 24 := b_12
  replace b_13 : tk ≤ 24 := b_13
  replace b_14 : il ≤ 700 := b_14
  replace b_15 : nx ≤ 701 := b_15
  replace b_16 : st ≤ 701 := b_16
  have h_2 : Φ x = some (o_ 14 [.int th, .ref (x + 1), .ref (x + 2), .int ti, .int ra, .int (nI rt), .int ex, .int ad, .ref (x + 3), .ref (x + 4), .int me, .long se, .ref (x + 5), .int (nI fl), .int dr, .long ob, .long sa, .long sn, .long us, .ref (x + 6), .ref (x + 7), .int (nI pe), .ref (x + 8), .int (nI le), .ref (x + 9), .ref (x + 10), .int (nI qu), .ref (x + 11), .ref (x + 12), .ref (x + 13), .ref (x + 14), .ref (x + 15), .ref (x + 16), .int (nI n_1), .long v_1, .ref (x + 17), .ref (x + 18), .ref (x + 19), .ref (x + 20), .ref (x + 21), .ref (x + 22), .int (nI n_2), .ref (x + 23), .ref (x + 24), .int (nI tk), .ref (x + 25), .int (nI il), .int (nI nx), .int ec, .int ep, .int kn, .int (nI st), .int nu, .long va]) := h_1
  refine z_get (ref := "FlowExporterModel") (C := RX12) (T := TX12) (N := 54) (ci := 14) (v := .int kn) B hu_X12_readEnd_X12 rfl 50 (Nat.le_of_ble_eq_true rfl) hv_X12_readEnd_476 rfl h_2 rfl dX12_readEnd_1 ?_
  refine z_iconst (v := 3) B dX12_readEnd_4 rfl ?_
  refine z_icmp_eq (tgt := 14) B dX12_readEnd_5 rfl (fun c_1 => ?_) (fun c_1 => ?_)
  · refine z_aload_n B dX12_readEnd_14 rfl 0 rfl ?_
    refine z_callV (As := []) (rest := []) B (r_advanceToken G l Φ sz x rd nw cr tp tt sI sT pt ql fl pe le nx il qu kn ec nu va st ep ti ad ob ra rt ex sa us tk th me dr se sn fB hx hI hc0 (show nx ≤ il by omega) (show il ≤ 700 by omega) hnw) (cwV 0 B.1.2.2.2.2 gX12_readEnd_X12_advanceToken rfl rfl rfl (by decide +kernel) ⟨Nat.le_of_ble_eq_true rfl, Nat.le_of_ble_eq_true rfl⟩) h_2 rfl rfl rfl rfl (Nat.le_of_ble_eq_true rfl) dX12_readEnd_15 ⟨Nat.le_of_ble_eq_true rfl, Nat.le_of_ble_eq_true rfl⟩ (fun r_1 Φ1 sz1 st1 hp1 hs1 => ?_)
    obtain ⟨rfl, hq1, ⟨n_3, v_2, v_3, n_4, b_18, hI1⟩, hF1⟩ := hp1
    subst sz1
    replace hs1 : st1 = [] := hs1
    subst st1
    replace hI1 : Im G x (rd, nw, cr, tp, tt, sI, sT, pt, ql, fl, pe, le, n_3, il, qu, v_2, ec, nu, v_3, n_4, ep, ti, ad, ob, ra, rt, ex, sa, us, tk, th, me, dr, se, sn) Φ1 := hI1
    replace b_18 : TkR (bA fB il) nx v_2 n_4 n_3 v_3 := b_18
    obtain ⟨b_19, b_20, b_21, b_22⟩ := TkR_b b_18 (by omega)
    refine z_iconst (v := 1) B dX12_readEnd_18 rfl ?_
    exact z_ret_z B dX12_readEnd_19 (by decide) ⟨(Or.inr rfl), rfl, ⟨n_3, v_2, ec, nu, v_3, n_4, ep, (Or.inl ⟨rfl, re_1 hT hp c_1, rfl, rfl, rfl, b_18⟩), hI1⟩, (fun b9 h9 => ((hF1 b9 h9).trans rfl))⟩
  · refine z_aload_n B dX12_readEnd_8 rfl 0 rfl ?_
    refine z_iconst (v := 1) B dX12_readEnd_9 rfl ?_
    refine z_callV (As := [.int 1]) (rest := []) B (r_fail G l Φ sz x rd nw cr tp tt sI sT pt ql fl pe le nx il qu kn ec nu va st ep ti ad ob ra rt ex sa us tk th me dr se sn 1 hx hI hnw) (cwV 1 B.1.2.2.2.2 gX12_readEnd_X12_fail rfl rfl rfl (by decide +kernel) ⟨Nat.le_of_ble_eq_true rfl, Nat.le_of_ble_eq_true rfl⟩) h_2 rfl rfl rfl rfl (Nat.le_of_ble_eq_true rfl) dX12_readEnd_10 ⟨Nat.le_of_ble_eq_true rfl, Nat.le_of_ble_eq_true rfl⟩ (fun r_2 Φ2 sz2 st2 hp2 hs2 => ?_)
    obtain ⟨rfl, hq2, hI2, hF2⟩ := hp2
    subst sz2
    replace hs2 : st2 = [.int 0] := hs2
    subst st2
    replace hI2 : Im G x (rd, nw, cr, tp, tt, sI, sT, pt, ql, fl, pe, le, nx, il, qu, kn, 1, nu, va, st, nI st, ti, ad, ob, ra, rt, ex, sa, us, tk, th, me, dr, se, sn) Φ2 := hI2
    exact z_ret_z B dX12_readEnd_13 (by decide) ⟨(Or.inl rfl), rfl, ⟨nx, kn, 1, nu, va, st, nI st, (Or.inr ⟨rfl, re_0 hT hp c_1, rfl, rfl⟩), hI2⟩, (fun b9 h9 => ((hF2 b9 h9).trans rfl))⟩

theorem hu_X12_readInto_X12 : ∀ w ∈ u_ws RX12 TX12 54, w ∈ wsX12_readInto := fun _ h => List.mem_cons_of_mem _ (List.mem_append_left _ (List.mem_append_right _ (h)))

theorem hv_X12_readInto_13 : Cond.fieldLink RX12 13 "FlowExporterModel" (TX12 1).2.1 (TX12 1).2.2.1 ∈ wsX12_readInto := List.mem_cons_of_mem _ (List.mem_append_left _ (List.mem_append_left _ (List.mem_append_left _ (List.mem_of_getElem? (i := 0) rfl))))

theorem hv_X12_readInto_486 : Cond.fieldLink RX12 486 "FlowExporterModel" (TX12 52).2.1 (TX12 52).2.2.1 ∈ wsX12_readInto := List.mem_cons_of_mem _ (List.mem_append_left _ (List.mem_append_left _ (List.mem_append_left _ (List.mem_of_getElem? (i := 1) rfl))))

theorem fq_1202 : ∀ j9 : Nat, (j9 = 0) → (j9 = 0 ∨ j9 = 1) := by
  intro j9 h
  omega

set_option maxHeartbeats 4000000 in
set_option maxRecDepth 100000 in
theorem r_readInto (G : EnvG) (l : Launch) (Φ : Hm) (sz x : Nat) (nw : (Nat → Int32) → Prop) (cr : (Nat → Int64) → Prop) (tp : (Nat → Int32) → Prop) (tt : (Nat → Int64) → Prop) (sI : (Nat → Int32) → Prop) (sT : (Nat → Int32) → Prop) (pt : (Nat → Int32) → Prop) (ql : (Nat → Int32) → Prop) (fl : Nat) (pe : Nat) (le : Nat) (nx : Nat) (il : Nat) (qu : Nat) (kn : Int32) (ec : Int32) (nu : Int32) (va : Int64) (st : Nat) (ep : Int32) (ti : Int32) (ad : Int32) (ob : Int64) (ra : Int32) (rt : Nat) (ex : Int32) (sa : Int64) (us : Int64) (tk : Nat) (th : Int32) (me : Int32) (dr : Int32) (se : Int64) (sn : Int64) (fB : Nat → Int32) (p : Nat) (t : Nat) (c : Cf) (w : Nat) (a : Nat) (b : Int32) (hx : G.2.2.2 ≤ x) (hI : Im G x ((NNc t c), nw, cr, tp, tt, sI, sT, pt, ql, fl, pe, le, nx, il, qu, kn, ec, nu, va, st, ep, ti, ad, ob, ra, rt, ex, sa, us, tk, th, me, dr, se, sn) Φ) (hc0 : Φ (x + 25) = some (ab_ G 700 fB)) (hT : TkR (bA fB il) p kn st nx va) (hp : p ≤ il) (hll : il ≤ 700) (ha : a < 2 ^ 31) (hw : w < 307) (hw10 : ¬ w = 10) (hW : ∀ n : Nat, a ≤ n → (n : Int) ≤ (b : Int32).toInt → ∀ f : Nat → Int32, NN f → NN (upd f w (nI n))) (hnw : ∀ f9 : Nat → Int32, nw f9 → NN f9) : Ct G l yX12_readInto wsX12_readInto ({ frames := 4, cells := 0, slots := 0, locals := 88 }) 0 0 [.ref x, .int (nI w), .int (nI a), .int b] Φ sz (fun v Φ1 sz1 => (v = some (.int 0) ∨ v = some (.int 1)) ∧ sz1 = sz ∧ (∃ (nx1 : Nat) (kn1 : Int32) (ec1 : Int32) (nu1 : Int32) (va1 : Int64) (st1 : Nat) (ep1 : Int32) (t1 : Nat) (c1 : Cf), ((∃ w9 : Nat, v = some (.int 1) ∧ numAt (bA fB il) p (a : Int) (b : Int32).toInt = (0, nx, w9) ∧ nu1 = nI w9 ∧ t = t1 ∧ c1 = upd c w (nI w9) ∧ w9 < 1000000 ∧ ((a : Nat) : Int) ≤ w9 ∧ (w9 : Int) ≤ (b : Int32).toInt ∧ ec = ec1 ∧ ep = ep1 ∧ TkR (bA fB il) nx kn1 st1 nx1 va1) ∨ (∃ er9 : Nat, v = some (.int 0) ∧ numAt (bA fB il) p (a : Int) (b : Int32).toInt = (er9, st, 0) ∧ (¬ er9 = 0 ∧ er9 ≤ 4) ∧ ec1 = nI er9 ∧ ep1 = nI st)) ∧ Im G x ((NNc t1 c1), nw, cr, tp, tt, sI, sT, pt, ql, fl, pe, le, nx1, il, qu, kn1, ec1, nu1, va1, st1, ep1, ti, ad, ob, ra, rt, ex, sa, us, tk, th, me, dr, se, sn) Φ1) ∧ Fr x (fun j9 => j9 = 0 ∨ j9 = 1) Φ Φ1) := by
  refine Ct.of (cc := cX12_readInto) (maxL := 4) (ret := (some .boolean)) (by decide) rfl (Nat.le_of_ble_eq_true rfl) ?_
  intro p9 e9 s9 m9 w9 t9 k9 B
  show Z p9 l e9 _ s9 m9 _ w9 t9 k9 _ G 4 0 [(0, .ref x), (1, .int (nI w)), (2, .int (nI a)), (3, .int b)] [] Φ sz 0 0
  obtain ⟨b_1, b_2, b_3, b_4⟩ := TkR_b hT (by omega)
  refine z_aload_n B dX12_readInto_0 rfl 0 rfl ?_
  refine z_iload_n B dX12_readInto_1 rfl 2 rfl ?_
  refine z_iload_n B dX12_readInto_2 rfl 3 rfl ?_
  obtain ⟨n_1, v_1, n_2, h_1, b_17, b_5, b_6, b_7, b_8, b_9, b_10, b_11, b_12, b_13, b_14, b_15, b_16⟩ := im0 hI
  replace b_5 : 1 ≤ rt := b_5
  replace b_6 : rt ≤ 1024 := b_6
  replace b_7 : fl ≤ 12 := b_7
  replace b_8 : pe ≤ 24 := b_8
  replace b_9 : le ≤ 700 := b_9
  replace b_10 : qu ≤ 12 := b_10
  replace b_11 : n_1 ≤ 8 := b_11
  replace b_12 : n_2 ≤ 24 := b_12
  replace b_13 : tk ≤ 24 := b_13
  replace b_14 : il ≤ 700 := b_14
  replace b_15 : nx ≤ 701 := b_15
  replace b_16 : st ≤ 701 := b_16
  have h_2 : Φ x = some (o_ 14 [.int th, .ref (x + 1), .ref (x + 2), .int ti, .int ra, .int (nI rt), .int ex, .int ad, .ref (x + 3), .ref (x + 4), .int me, .long se, .ref (x + 5), .int (nI fl), .int dr, .long ob, .long sa, .long sn, .long us, .ref (x + 6), .ref (x + 7), .int (nI pe), .ref (x + 8), .int (nI le), .ref (x + 9), .ref (x + 10), .int (nI qu), .ref (x + 11), .ref (x + 12), .ref (x + 13), .ref (x + 14), .ref (x + 15), .ref (x + 16), .int (nI n_1), .long v_1, .ref (x + 17), .ref (x + 18), .ref (x + 19), .ref (x + 20), .ref (x + 21), .ref (x + 22), .int (nI n_2), .ref (x + 23), .ref (x + 24), .int (nI tk), .ref (x + 25), .int (nI il), .int (nI nx), .int ec, .int ep, .int kn, .int (nI st), .int nu, .long va]) := h_1
  refine z_callV (As := [.int (nI a), .int b]) (rest := []) B (r_readNumber G l Φ sz x (NNc t c) nw cr tp tt sI sT pt ql fl pe le nx il qu kn ec nu va st ep ti ad ob ra rt ex sa us tk th me dr se sn fB p a b hx hI hc0 hT (show p ≤ il by omega) (show il ≤ 700 by omega) (show a < 2 ^ 31 by omega) hnw) (cwV 2 B.1.2.2.2.2 gX12_readInto_X12_readNumber rfl rfl rfl (by decide +kernel) ⟨Nat.le_of_ble_eq_true rfl, Nat.le_of_ble_eq_true rfl⟩) h_2 rfl rfl rfl rfl (Nat.le_of_ble_eq_true rfl) dX12_readInto_3 ⟨Nat.le_of_ble_eq_true rfl, Nat.le_of_ble_eq_true rfl⟩ (fun r_1 Φ1 sz1 st1 hp1 hs1 => ?_)
  obtain ⟨-, hq1, ⟨n_3, v_2, v_3, v_4, v_5, n_4, v_6, b_18, hI1⟩, hF1⟩ := hp1
  subst sz1
  replace hI1 : Im G x ((NNc t c), nw, cr, tp, tt, sI, sT, pt, ql, fl, pe, le, n_3, il, qu, v_2, v_3, v_4, v_5, n_4, v_6, ti, ad, ob, ra, rt, ex, sa, us, tk, th, me, dr, se, sn) Φ1 := hI1
  replace b_18 : (∃ w9 : Nat, r_1 = some (.int 1) ∧ numAt (bA fB il) p (a : Int) (b : Int32).toInt = (0, nx, w9) ∧ v_4 = nI w9 ∧ w9 < 1000000 ∧ ((a : Nat) : Int) ≤ w9 ∧ (w9 : Int) ≤ (b : Int32).toInt ∧ ec = v_3 ∧ ep = v_6 ∧ TkR (bA fB il) nx v_2 n_4 n_3 v_5) ∨ (∃ er9 : Nat, r_1 = some (.int 0) ∧ numAt (bA fB il) p (a : Int) (b : Int32).toInt = (er9, st, 0) ∧ (¬ er9 = 0 ∧ er9 ≤ 4) ∧ v_3 = nI er9 ∧ v_6 = nI st) := b_18
  rcases b_18 with ⟨w_1, rfl, hN1, rfl, b_19, b_20, b_21, rfl, rfl, hT1⟩ | ⟨er_1, rfl, hN2, he1, rfl, rfl⟩
  · replace hT1 : TkR (bA fB il) nx v_2 n_4 n_3 v_5 := hT1
    obtain ⟨b_22, b_23, b_24, b_25⟩ := TkR_b hT1 (by omega)
    replace hs1 : st1 = [.int 1] := hs1
    subst st1
    replace hN1 : numAt (bA fB il) p (a : Int) (b : Int32).toInt = (0, nx, w_1) := hN1
    replace b_20 : ((a : Nat) : Int) ≤ w_1 := b_20
    replace b_21 : (w_1 : Int) ≤ (b : Int32).toInt := b_21
    refine z_if_ne (tgt := 11) B dX12_readInto_6 rfl (fun c_1 => ?_) (fun h9 => absurd h9 (by decide))
    refine z_aload_n B dX12_readInto_11 rfl 0 rfl ?_
    obtain ⟨n_5, v_7, n_6, h_3, b_38, b_26, b_27, b_28, b_29, b_30, b_31, b_32, b_33, b_34, b_35, b_36, b_37⟩ := im0 hI1
    replace b_26 : 1 ≤ rt := b_26
    replace b_27 : rt ≤ 1024 := b_27
    replace b_28 : fl ≤ 12 := b_28
    replace b_29 : pe ≤ 24 := b_29
    replace b_30 : le ≤ 700 := b_30
    replace b_31 : qu ≤ 12 := b_31
    replace b_32 : n_5 ≤ 8 := b_32
    replace b_33 : n_6 ≤ 24 := b_33
    replace b_34 : tk ≤ 24 := b_34
    replace b_35 : il ≤ 700 := b_35
    replace b_36 : n_3 ≤ 701 := b_36
    replace b_37 : n_4 ≤ 701 := b_37
    have h_4 : Φ1 x = some (o_ 14 [.int th, .ref (x + 1), .ref (x + 2), .int ti, .int ra, .int (nI rt), .int ex, .int ad, .ref (x + 3), .ref (x + 4), .int me, .long se, .ref (x + 5), .int (nI fl), .int dr, .long ob, .long sa, .long sn, .long us, .ref (x + 6), .ref (x + 7), .int (nI pe), .ref (x + 8), .int (nI le), .ref (x + 9), .ref (x + 10), .int (nI qu), .ref (x + 11), .ref (x + 12), .ref (x + 13), .ref (x + 14), .ref (x + 15), .ref (x + 16), .int (nI n_5), .long v_7, .ref (x + 17), .ref (x + 18), .ref (x + 19), .ref (x + 20), .ref (x + 21), .ref (x + 22), .int (nI n_6), .ref (x + 23), .ref (x + 24), .int (nI tk), .ref (x + 25), .int (nI il), .int (nI n_3), .int ec, .int ep, .int v_2, .int (nI n_4), .int (nI w_1), .long v_5]) := h_3
    refine z_get (ref := "FlowExporterModel") (C := RX12) (T := TX12) (N := 54) (ci := 14) (v := .ref (x + 1)) B hu_X12_readInto_X12 rfl 1 (Nat.le_of_ble_eq_true rfl) hv_X12_readInto_13 rfl h_4 rfl dX12_readInto_12 ?_
    refine z_iload_n B dX12_readInto_15 rfl 1 rfl ?_
    refine z_aload_n B dX12_readInto_16 rfl 0 rfl ?_
    refine z_get (ref := "FlowExporterModel") (C := RX12) (T := TX12) (N := 54) (ci := 14) (v := .int (nI w_1)) B hu_X12_readInto_X12 rfl 52 (Nat.le_of_ble_eq_true rfl) hv_X12_readInto_486 rfl h_4 rfl dX12_readInto_17 ?_
    obtain ⟨f_1, h_5, r_2⟩ := imk (k := 1) hI1
    replace r_2 : (NNc t c) f_1 := r_2
    have h_6 : Φ1 (x + 1) = some (ai_ G 307 f_1) := h_5
    refine z_iast B h_6 (Nat.le_trans hx (Nat.le_add_right x 1)) (vp_in_nI (by omega) (by omega)) dX12_readInto_20 (fun Φ2 hΦ1 => ?_)
    have h_7 : Φ2 (x + 1) = some (ai_ G 307 (upd f_1 (nI w).toNatClampNeg (nI w_1))) := fset_at hΦ1
    have hI2 : Im G x ((NNc t (upd c w (nI w_1))), nw, cr, tp, tt, sI, sT, pt, ql, fl, pe, le, n_3, il, qu, v_2, ec, nI w_1, v_5, n_4, ep, ti, ad, ob, ra, rt, ex, sa, us, tk, th, me, dr, se, sn) Φ2 := Im.put1 (rd1 := (NNc t (upd c w (nI w_1)))) hI1 hΦ1 (by rw [nI_clamp (n := w) (by omega)]; exact AndC.up r_2 ⟨hW w_1 (by omega) (by omega) _ r_2.1.1, (upd_ne (by omega)).trans r_2.1.2⟩ rfl)
    refine z_iconst (v := 1) B dX12_readInto_21 rfl ?_
    exact z_ret_z B dX12_readInto_22 (by decide) ⟨(Or.inr rfl), rfl, ⟨n_3, v_2, ec, nI w_1, v_5, n_4, ep, t, upd c w (nI w_1), (Or.inl ⟨w_1, rfl, hN1, rfl, rfl, rfl, by omega, by omega, by omega, rfl, rfl, hT1⟩), hI2⟩, (fun b9 h9 => ((fset_fr hΦ1 (fun h8 => h9 (1) h8 (show 1 = 0 ∨ 1 = 1 by decide))).trans ((hF1 b9 (fun j9 h8 h7 => h9 j9 h8 (fq_1202 j9 h7))).trans rfl)))⟩
  · replace hs1 : st1 = [.int 0] := hs1
    subst st1
    replace hN2 : numAt (bA fB il) p (a : Int) (b : Int32).toInt = (er_1, st, 0) := hN2
    replace he1 : ¬ er_1 = 0 ∧ er_1 ≤ 4 := he1
    refine z_if_ne (tgt := 11) B dX12_readInto_6 rfl (fun h9 => absurd (by decide) h9) (fun c_2 => ?_)
    refine z_iconst (v := 0) B dX12_readInto_9 rfl ?_
    exact z_ret_z B dX12_readInto_10 (by decide) ⟨(Or.inl rfl), rfl, ⟨n_3, v_2, nI er_1, v_4, v_5, n_4, nI st, t, c, (Or.inr ⟨er_1, rfl, hN2, he1, rfl, rfl⟩), hI1⟩, (fun b9 h9 => ((hF1 b9 (fun j9 h8 h7 => h9 j9 h8 (fq_1202 j9 h7))).trans rfl))⟩

theorem fq_1203 {x : Nat} : ∀ j9 : Nat, x + 25 = x + j9 → (j9 = 0 ∨ j9 = 1) → False := by
  intro j9 h1 h2
  omega

set_option maxHeartbeats 4000000 in
set_option maxRecDepth 100000 in
theorem r_readSetting (G : EnvG) (l : Launch) (Φ : Hm) (sz x : Nat) (nw : (Nat → Int32) → Prop) (cr : (Nat → Int64) → Prop) (tp : (Nat → Int32) → Prop) (tt : (Nat → Int64) → Prop) (sI : (Nat → Int32) → Prop) (sT : (Nat → Int32) → Prop) (pt : (Nat → Int32) → Prop) (ql : (Nat → Int32) → Prop) (fl : Nat) (pe : Nat) (le : Nat) (nx : Nat) (il : Nat) (qu : Nat) (kn : Int32) (ec : Int32) (nu : Int32) (va : Int64) (st : Nat) (ep : Int32) (ti : Int32) (ad : Int32) (ob : Int64) (ra : Int32) (rt : Nat) (ex : Int32) (sa : Int64) (us : Int64) (tk : Nat) (th : Int32) (me : Int32) (dr : Int32) (se : Int64) (sn : Int64) (fB : Nat → Int32) (p : Nat) (t : Nat) (c : Cf) (w : Nat) (a : Nat) (b : Int32) (hx : G.2.2.2 ≤ x) (hI : Im G x ((NNc t c), nw, cr, tp, tt, sI, sT, pt, ql, fl, pe, le, nx, il, qu, kn, ec, nu, va, st, ep, ti, ad, ob, ra, rt, ex, sa, us, tk, th, me, dr, se, sn) Φ) (hc0 : Φ (x + 25) = some (ab_ G 700 fB)) (hT : TkR (bA fB il) p kn st nx va) (hp : p ≤ il) (hll : il ≤ 700) (hct : c 10 = nI t) (ht : t ≤ 4) (ha : a < 2 ^ 31) (hw : w < 9) (hW : ∀ n : Nat, a ≤ n → (n : Int) ≤ (b : Int32).toInt → ∀ f : Nat → Int32, NN f → NN (upd f w (nI n))) (hlo : ((a : Nat) : Int) = loS w) (hhi : (b : Int32).toInt = hiS w) (hnw : ∀ f9 : Nat → Int32, nw f9 → NN f9) : Ct G l yX12_readSetting wsX12_readSetting ({ frames := 5, cells := 0, slots := 0, locals := 111 }) 0 0 [.ref x, .int (nI w), .int (nI a), .int b] Φ sz (fun v Φ1 sz1 => (v = some (.int 0) ∨ v = some (.int 1)) ∧ sz1 = sz ∧ (∃ (nx1 : Nat) (kn1 : Int32) (ec1 : Int32) (nu1 : Int32) (va1 : Int64) (st1 : Nat) (ep1 : Int32) (t1 : Nat) (c1 : Cf), ((∃ (q9 : Nat), v = some (.int 1) ∧ endA (bA fB il) (setA (bA fB il) nx w c) = (0, q9, c1) ∧ ec = ec1 ∧ ep = ep1 ∧ c1 10 = nI t1 ∧ t1 ≤ 4 ∧ p < q9 ∧ q9 ≤ il ∧ TkR (bA fB il) q9 kn1 st1 nx1 va1) ∨ (∃ (er9 s9 : Nat) (c9 : Cf), v = some (.int 0) ∧ endA (bA fB il) (setA (bA fB il) nx w c) = (er9, s9, c9) ∧ (¬ er9 = 0 ∧ er9 ≤ 4) ∧ ec1 = nI er9 ∧ ep1 = nI s9)) ∧ Im G x ((NNc t1 c1), nw, cr, tp, tt, sI, sT, pt, ql, fl, pe, le, nx1, il, qu, kn1, ec1, nu1, va1, st1, ep1, ti, ad, ob, ra, rt, ex, sa, us, tk, th, me, dr, se, sn) Φ1) ∧ Fr x (fun j9 => j9 = 0 ∨ j9 = 1) Φ Φ1) := by
  refine Ct.of (cc := cX12_readSetting) (maxL := 4) (ret := (some .boolean)) (by decide) rfl (Nat.le_of_ble_eq_true rfl) ?_
  intro p9 e9 s9 m9 w9 t9 k9 B
  show Z p9 l e9 _ s9 m9 _ w9 t9 k9 _ G 4 0 [(0, .ref x), (1, .int (nI w)), (2, .int (nI a)), (3, .int b)] [] Φ sz 0 0
  obtain ⟨b_1, b_2, b_3, b_4⟩ := TkR_b hT (by omega)
  refine z_aload_n B dX12_readSetting_0 rfl 0 rfl ?_
  obtain ⟨n_1, v_1, n_2, h_1, b_17, b_5, b_6, b_7, b_8, b_9, b_10, b_11, b_12, b_13, b_14, b_15, b_16⟩ := im0 hI
  replace b_5 : 1 ≤ rt := b_5
  replace b_6 : rt ≤ 1024 := b_6
  replace b_7 : fl ≤ 12 := b_7
  replace b_8 : pe ≤ 24 := b_8
  replace b_9 : le ≤ 700 := b_9
  replace b_10 : qu ≤ 12 := b_10
  replace b_11 : n_1 ≤ 8 := b_11
  replace b_12 : n_2 ≤ 24 := b_12
  replace b_13 : tk ≤ 24 := b_13
  replace b_14 : il ≤ 700 := b_14
  replace b_15 : nx ≤ 701 := b_15
  replace b_16 : st ≤ 701 := b_16
  have h_2 : Φ x = some (o_ 14 [.int th, .ref (x + 1), .ref (x + 2), .int ti, .int ra, .int (nI rt), .int ex, .int ad, .ref (x + 3), .ref (x + 4), .int me, .long se, .ref (x + 5), .int (nI fl), .int dr, .long ob, .long sa, .long sn, .long us, .ref (x + 6), .ref (x + 7), .int (nI pe), .ref (x + 8), .int (nI le), .ref (x + 9), .ref (x + 10), .int (nI qu), .ref (x + 11), .ref (x + 12), .ref (x + 13), .ref (x + 14), .ref (x + 15), .ref (x + 16), .int (nI n_1), .long v_1, .ref (x + 17), .ref (x + 18), .ref (x + 19), .ref (x + 20), .ref (x + 21), .ref (x + 22), .int (nI n_2), .ref (x + 23), .ref (x + 24), .int (nI tk), .ref (x + 25), .int (nI il), .int (nI nx), .int ec, .int ep, .int kn, .int (nI st), .int nu, .long va]) := h_1
  refine z_callV (As := []) (rest := []) B (r_advanceToken G l Φ sz x (NNc t c) nw cr tp tt sI sT pt ql fl pe le nx il qu kn ec nu va st ep ti ad ob ra rt ex sa us tk th me dr se sn fB hx hI hc0 (show nx ≤ il by omega) (show il ≤ 700 by omega) hnw) (cwV 0 B.1.2.2.2.2 gX12_readSetting_X12_advanceToken rfl rfl rfl (by decide +kernel) ⟨Nat.le_of_ble_eq_true rfl, Nat.le_of_ble_eq_true rfl⟩) h_2 rfl rfl rfl rfl (Nat.le_of_ble_eq_true rfl) dX12_readSetting_1 ⟨Nat.le_of_ble_eq_true rfl, Nat.le_of_ble_eq_true rfl⟩ (fun r_1 Φ1 sz1 st1 hp1 hs1 => ?_)
  obtain ⟨rfl, hq1, ⟨n_3, v_2, v_3, n_4, b_18, hI1⟩, hF1⟩ := hp1
  subst sz1
  replace hs1 : st1 = [] := hs1
  subst st1
  replace hI1 : Im G x ((NNc t c), nw, cr, tp, tt, sI, sT, pt, ql, fl, pe, le, n_3, il, qu, v_2, ec, nu, v_3, n_4, ep, ti, ad, ob, ra, rt, ex, sa, us, tk, th, me, dr, se, sn) Φ1 := hI1
  replace b_18 : TkR (bA fB il) nx v_2 n_4 n_3 v_3 := b_18
  obtain ⟨b_19, b_20, b_21, b_22⟩ := TkR_b b_18 (by omega)
  refine z_aload_n B dX12_readSetting_4 rfl 0 rfl ?_
  refine z_iload_n B dX12_readSetting_5 rfl 1 rfl ?_
  refine z_iload_n B dX12_readSetting_6 rfl 2 rfl ?_
  refine z_iload_n B dX12_readSetting_7 rfl 3 rfl ?_
  obtain ⟨n_5, v_4, n_6, h_3, b_35, b_23, b_24, b_25, b_26, b_27, b_28, b_29, b_30, b_31, b_32, b_33, b_34⟩ := im0 hI1
  replace b_23 : 1 ≤ rt := b_23
  replace b_24 : rt ≤ 1024 := b_24
  replace b_25 : fl ≤ 12 := b_25
  replace b_26 : pe ≤ 24 := b_26
  replace b_27 : le ≤ 700 := b_27
  replace b_28 : qu ≤ 12 := b_28
  replace b_29 : n_5 ≤ 8 := b_29
  replace b_30 : n_6 ≤ 24 := b_30
  replace b_31 : tk ≤ 24 := b_31
  replace b_32 : il ≤ 700 := b_32
  replace b_33 : n_3 ≤ 701 := b_33
  replace b_34 : n_4 ≤ 701 := b_34
  have h_4 : Φ1 x = some (o_ 14 [.int th, .ref (x + 1), .ref (x + 2), .int ti, .int ra, .int (nI rt), .int ex, .int ad, .ref (x + 3), .ref (x + 4), .int me, .long se, .ref (x + 5), .int (nI fl), .int dr, .long ob, .long sa, .long sn, .long us, .ref (x + 6), .ref (x + 7), .int (nI pe), .ref (x + 8), .int (nI le), .ref (x + 9), .ref (x + 10), .int (nI qu), .ref (x + 11), .ref (x + 12), .ref (x + 13), .ref (x + 14), .ref (x + 15), .ref (x + 16), .int (nI n_5), .long v_4, .ref (x + 17), .ref (x + 18), .ref (x + 19), .ref (x + 20), .ref (x + 21), .ref (x + 22), .int (nI n_6), .ref (x + 23), .ref (x + 24), .int (nI tk), .ref (x + 25), .int (nI il), .int (nI n_3), .int ec, .int ep, .int v_2, .int (nI n_4), .int nu, .long v_3]) := h_3
  have h_5 : Φ1 (x + 25) = some (ab_ G 700 fB) := ((hF1 (x + 25) fq_1182).trans hc0)
  refine z_callV (As := [.int (nI w), .int (nI a), .int b]) (rest := []) B (r_readInto G l Φ1 sz x nw cr tp tt sI sT pt ql fl pe le n_3 il qu v_2 ec nu v_3 n_4 ep ti ad ob ra rt ex sa us tk th me dr se sn fB nx t c w a b hx hI1 h_5 b_18 (show nx ≤ il by omega) (show il ≤ 700 by omega) (show a < 2 ^ 31 by omega) (show w < 307 by omega) (show ¬ w = 10 by omega) hW hnw) (cwV 3 B.1.2.2.2.2 gX12_readSetting_X12_readInto rfl rfl rfl (by decide +kernel) ⟨Nat.le_of_ble_eq_true rfl, Nat.le_of_ble_eq_true rfl⟩) h_4 rfl rfl rfl rfl (Nat.le_of_ble_eq_true rfl) dX12_readSetting_8 ⟨Nat.le_of_ble_eq_true rfl, Nat.le_of_ble_eq_true rfl⟩ (fun r_2 Φ2 sz2 st2 hp2 hs2 => ?_)
  obtain ⟨-, hq2, ⟨n_7, v_5, v_6, v_7, v_8, n_8, v_9, n_9, n_10, b_36, hI2⟩, hF2⟩ := hp2
  subst sz2
  replace hI2 : Im G x (NNc n_9 n_10, nw, cr, tp, tt, sI, sT, pt, ql, fl, pe, le, n_7, il, qu, v_5, v_6, v_7, v_8, n_8, v_9, ti, ad, ob, ra, rt, ex, sa, us, tk, th, me, dr, se, sn) Φ2 := hI2
  replace b_36 : (∃ w9 : Nat, r_2 = some (.int 1) ∧ numAt (bA fB il) nx (a : Int) (b : Int32).toInt = (0, n_3, w9) ∧ v_7 = nI w9 ∧ t = n_9 ∧ n_10 = upd c w (nI w9) ∧ w9 < 1000000 ∧ ((a : Nat) : Int) ≤ w9 ∧ (w9 : Int) ≤ (b : Int32).toInt ∧ ec = v_6 ∧ ep = v_9 ∧ TkR (bA fB il) n_3 v_5 n_8 n_7 v_8) ∨ (∃ er9 : Nat, r_2 = some (.int 0) ∧ numAt (bA fB il) nx (a : Int) (b : Int32).toInt = (er9, n_4, 0) ∧ (¬ er9 = 0 ∧ er9 ≤ 4) ∧ v_6 = nI er9 ∧ v_9 = nI n_4) := b_36
  rcases b_36 with ⟨w_1, rfl, hN1, rfl, rfl, rfl, b_37, b_38, b_39, rfl, rfl, hT1⟩ | ⟨er_1, rfl, hN2, he1, rfl, rfl⟩
  · replace hT1 : TkR (bA fB il) n_3 v_5 n_8 n_7 v_8 := hT1
    obtain ⟨b_40, b_41, b_42, b_43⟩ := TkR_b hT1 (by omega)
    replace hs2 : st2 = [.int 1] := hs2
    subst st2
    replace hN1 : numAt (bA fB il) nx (a : Int) (b : Int32).toInt = (0, n_3, w_1) := hN1
    replace b_38 : ((a : Nat) : Int) ≤ w_1 := b_38
    replace b_39 : (w_1 : Int) ≤ (b : Int32).toInt := b_39
    refine z_if_eq (tgt := 25) B dX12_readSetting_11 rfl (fun h9 => absurd h9 (by decide)) (fun c_1 => ?_)
    refine z_aload_n B dX12_readSetting_14 rfl 0 rfl ?_
    obtain ⟨n_11, v_10, n_12, h_6, b_56, b_44, b_45, b_46, b_47, b_48, b_49, b_50, b_51, b_52, b_53, b_54, b_55⟩ := im0 hI2
    replace b_44 : 1 ≤ rt := b_44
    replace b_45 : rt ≤ 1024 := b_45
    replace b_46 : fl ≤ 12 := b_46
    replace b_47 : pe ≤ 24 := b_47
    replace b_48 : le ≤ 700 := b_48
    replace b_49 : qu ≤ 12 := b_49
    replace b_50 : n_11 ≤ 8 := b_50
    replace b_51 : n_12 ≤ 24 := b_51
    replace b_52 : tk ≤ 24 := b_52
    replace b_53 : il ≤ 700 := b_53
    replace b_54 : n_7 ≤ 701 := b_54
    replace b_55 : n_8 ≤ 701 := b_55
    have h_7 : Φ2 x = some (o_ 14 [.int th, .ref (x + 1), .ref (x + 2), .int ti, .int ra, .int (nI rt), .int ex, .int ad, .ref (x + 3), .ref (x + 4), .int me, .long se, .ref (x + 5), .int (nI fl), .int dr, .long ob, .long sa, .long sn, .long us, .ref (x + 6), .ref (x + 7), .int (nI pe), .ref (x + 8), .int (nI le), .ref (x + 9), .ref (x + 10), .int (nI qu), .ref (x + 11), .ref (x + 12), .ref (x + 13), .ref (x + 14), .ref (x + 15), .ref (x + 16), .int (nI n_11), .long v_10, .ref (x + 17), .ref (x + 18), .ref (x + 19), .ref (x + 20), .ref (x + 21), .ref (x + 22), .int (nI n_12), .ref (x + 23), .ref (x + 24), .int (nI tk), .ref (x + 25), .int (nI il), .int (nI n_7), .int ec, .int ep, .int v_5, .int (nI n_8), .int (nI w_1), .long v_8]) := h_6
    have h_8 : Φ2 (x + 25) = some (ab_ G 700 fB) := ((hF2 (x + 25) fq_1203).trans h_5)
    refine z_callV (As := []) (rest := []) B (r_readEnd G l Φ2 sz x (NNc t (upd c w (nI w_1))) nw cr tp tt sI sT pt ql fl pe le n_7 il qu v_5 ec (nI w_1) v_8 n_8 ep ti ad ob ra rt ex sa us tk th me dr se sn fB n_3 hx hI2 h_8 hT1 (show n_3 ≤ il by omega) (show il ≤ 700 by omega) hnw) (cwV 0 B.1.2.2.2.2 gX12_readSetting_X12_readEnd rfl rfl rfl (by decide +kernel) ⟨Nat.le_of_ble_eq_true rfl, Nat.le_of_ble_eq_true rfl⟩) h_7 rfl rfl rfl rfl (Nat.le_of_ble_eq_true rfl) dX12_readSetting_15 ⟨Nat.le_of_ble_eq_true rfl, Nat.le_of_ble_eq_true rfl⟩ (fun r_3 Φ3 sz3 st3 hp3 hs3 => ?_)
    obtain ⟨-, hq3, ⟨n_13, v_11, v_12, v_13, v_14, n_14, v_15, b_57, hI3⟩, hF3⟩ := hp3
    subst sz3
    replace hI3 : Im G x ((NNc t (upd c w (nI w_1))), nw, cr, tp, tt, sI, sT, pt, ql, fl, pe, le, n_13, il, qu, v_11, v_12, v_13, v_14, n_14, v_15, ti, ad, ob, ra, rt, ex, sa, us, tk, th, me, dr, se, sn) Φ3 := hI3
    replace b_57 : (r_3 = some (.int 1) ∧ semi (bA fB il) n_3 = (0, n_7) ∧ ec = v_12 ∧ ep = v_15 ∧ (nI w_1) = v_13 ∧ TkR (bA fB il) n_7 v_11 n_14 n_13 v_14) ∨ (r_3 = some (.int 0) ∧ semi (bA fB il) n_3 = (1, n_8) ∧ v_12 = 1 ∧ v_15 = nI n_8) := b_57
    rcases b_57 with ⟨rfl, hN3, rfl, rfl, rfl, hT2⟩ | ⟨rfl, hN4, rfl, rfl⟩
    · replace hT2 : TkR (bA fB il) n_7 v_11 n_14 n_13 v_14 := hT2
      obtain ⟨b_58, b_59, b_60, b_61⟩ := TkR_b hT2 (by omega)
      replace hs3 : st3 = [.int 1] := hs3
      subst st3
      replace hN3 : semi (bA fB il) n_3 = (0, n_7) := hN3
      have b_62 := semi_lt hT1 (by omega) hN3
      refine z_if_eq (tgt := 25) B dX12_readSetting_18 rfl (fun h9 => absurd h9 (by decide)) (fun c_2 => ?_)
      refine z_iconst (v := 1) B dX12_readSetting_21 rfl ?_
      refine z_goto (tgt := 26) B dX12_readSetting_22 rfl ?_
      have hN5 := hN1
      rw [hlo, hhi] at hN5
      exact z_ret_z B dX12_readSetting_26 (by decide) ⟨(Or.inr rfl), rfl, ⟨n_13, v_11, ec, nI w_1, v_14, n_14, ep, t, upd c w (nI w_1), (Or.inl ⟨n_7, rfl, (congrArg (endA (bA fB il)) (setA_0 hN5)).trans (endA_0 hN3), rfl, rfl, (upd_ne (by omega)).trans hct, by omega, by omega, by omega, hT2⟩), hI3⟩, (fun b9 h9 => ((hF3 b9 (fun j9 h8 h7 => h9 j9 h8 (fq_1202 j9 h7))).trans ((hF2 b9 h9).trans ((hF1 b9 (fun j9 h8 h7 => h9 j9 h8 (fq_1202 j9 h7))).trans rfl))))⟩
    · replace hs3 : st3 = [.int 0] := hs3
      subst st3
      replace hN4 : semi (bA fB il) n_3 = (1, n_8) := hN4
      refine z_if_eq (tgt := 25) B dX12_readSetting_18 rfl (fun c_3 => ?_) (fun h9 => absurd (by decide) h9)
      refine z_iconst (v := 0) B dX12_readSetting_25 rfl ?_
      have hN6 := hN1
      rw [hlo, hhi] at hN6
      exact z_ret_z B dX12_readSetting_26 (by decide) ⟨(Or.inl rfl), rfl, ⟨n_13, v_11, 1, v_13, v_14, n_14, nI n_8, t, upd c w (nI w_1), (Or.inr ⟨1, n_8, upd c w (nI w_1), rfl, (congrArg (endA (bA fB il)) (setA_0 hN6)).trans (endA_0 hN4), ⟨by omega, by omega⟩, rfl, rfl⟩), hI3⟩, (fun b9 h9 => ((hF3 b9 (fun j9 h8 h7 => h9 j9 h8 (fq_1202 j9 h7))).trans ((hF2 b9 h9).trans ((hF1 b9 (fun j9 h8 h7 => h9 j9 h8 (fq_1202 j9 h7))).trans rfl))))⟩
  · replace hs2 : st2 = [.int 0] := hs2
    subst st2
    replace hN2 : numAt (bA fB il) nx (a : Int) (b : Int32).toInt = (er_1, n_4, 0) := hN2
    replace he1 : ¬ er_1 = 0 ∧ er_1 ≤ 4 := he1
    refine z_if_eq (tgt := 25) B dX12_readSetting_11 rfl (fun c_4 => ?_) (fun h9 => absurd (by decide) h9)
    refine z_iconst (v := 0) B dX12_readSetting_25 rfl ?_
    have hN7 := hN2
    rw [hlo, hhi] at hN7
    exact z_ret_z B dX12_readSetting_26 (by decide) ⟨(Or.inl rfl), rfl, ⟨n_7, v_5, nI er_1, v_7, v_8, n_8, nI n_4, n_9, n_10, (Or.inr ⟨er_1, n_4, c, rfl, (congrArg (endA (bA fB il)) (setA_e hN7 he1.1)).trans (endA_e he1.1), ⟨by omega, by omega⟩, rfl, rfl⟩), hI2⟩, (fun b9 h9 => ((hF2 b9 h9).trans ((hF1 b9 (fun j9 h8 h7 => h9 j9 h8 (fq_1202 j9 h7))).trans rfl)))⟩

theorem hu_X12_readDrop_X12 : ∀ w ∈ u_ws RX12 TX12 54, w ∈ wsX12_readDrop := fun _ h => List.mem_cons_of_mem _ (List.mem_append_left _ (List.mem_append_right _ (h)))

theorem hv_X12_readDrop_13 : Cond.fieldLink RX12 13 "FlowExporterModel" (TX12 1).2.1 (TX12 1).2.2.1 ∈ wsX12_readDrop := List.mem_cons_of_mem _ (List.mem_append_left _ (List.mem_append_left _ (List.mem_append_left _ (List.mem_of_getElem? (i := 0) rfl))))

set_option maxHeartbeats 4000000 in
set_option maxRecDepth 100000 in
theorem r_readDrop (G : EnvG) (l : Launch) (Φ : Hm) (sz x : Nat) (nw : (Nat → Int32) → Prop) (cr : (Nat → Int64) → Prop) (tp : (Nat → Int32) → Prop) (tt : (Nat → Int64) → Prop) (sI : (Nat → Int32) → Prop) (sT : (Nat → Int32) → Prop) (pt : (Nat → Int32) → Prop) (ql : (Nat → Int32) → Prop) (fl : Nat) (pe : Nat) (le : Nat) (nx : Nat) (il : Nat) (qu : Nat) (kn : Int32) (ec : Int32) (nu : Int32) (va : Int64) (st : Nat) (ep : Int32) (ti : Int32) (ad : Int32) (ob : Int64) (ra : Int32) (rt : Nat) (ex : Int32) (sa : Int64) (us : Int64) (tk : Nat) (th : Int32) (me : Int32) (dr : Int32) (se : Int64) (sn : Int64) (fB : Nat → Int32) (p : Nat) (t : Nat) (c : Cf) (hx : G.2.2.2 ≤ x) (hI : Im G x ((NNc t c), nw, cr, tp, tt, sI, sT, pt, ql, fl, pe, le, nx, il, qu, kn, ec, nu, va, st, ep, ti, ad, ob, ra, rt, ex, sa, us, tk, th, me, dr, se, sn) Φ) (hc0 : Φ (x + 25) = some (ab_ G 700 fB)) (hT : TkR (bA fB il) p kn st nx va) (hp : p ≤ il) (hll : il ≤ 700) (hct : c 10 = nI t) (ht : t ≤ 4) (hnw : ∀ f9 : Nat → Int32, nw f9 → NN f9) : Ct G l yX12_readDrop wsX12_readDrop ({ frames := 4, cells := 0, slots := 0, locals := 86 }) 0 0 [.ref x] Φ sz (fun v Φ1 sz1 => (v = some (.int 0) ∨ v = some (.int 1)) ∧ sz1 = sz ∧ (∃ (nx1 : Nat) (kn1 : Int32) (ec1 : Int32) (nu1 : Int32) (va1 : Int64) (st1 : Nat) (ep1 : Int32) (t1 : Nat) (c1 : Cf), ((∃ (q9 : Nat), v = some (.int 1) ∧ endA (bA fB il) (drpA (bA fB il) nx c) = (0, q9, c1) ∧ ec = ec1 ∧ ep = ep1 ∧ c1 10 = nI t1 ∧ t1 ≤ 4 ∧ p < q9 ∧ q9 ≤ il ∧ TkR (bA fB il) q9 kn1 st1 nx1 va1) ∨ (∃ (er9 s9 : Nat) (c9 : Cf), v = some (.int 0) ∧ endA (bA fB il) (drpA (bA fB il) nx c) = (er9, s9, c9) ∧ (¬ er9 = 0 ∧ er9 ≤ 4) ∧ ec1 = nI er9 ∧ ep1 = nI s9)) ∧ Im G x ((NNc t1 c1), nw, cr, tp, tt, sI, sT, pt, ql, fl, pe, le, nx1, il, qu, kn1, ec1, nu1, va1, st1, ep1, ti, ad, ob, ra, rt, ex, sa, us, tk, th, me, dr, se, sn) Φ1) ∧ Fr x (fun j9 => j9 = 0 ∨ j9 = 1) Φ Φ1) := by
  refine Ct.of (cc := cX12_readDrop) (maxL := 1) (ret := (some .boolean)) (by decide) rfl (Nat.le_of_ble_eq_true rfl) ?_
  intro p9 e9 s9 m9 w9 t9 k9 B
  show Z p9 l e9 _ s9 m9 _ w9 t9 k9 _ G 1 0 [(0, .ref x)] [] Φ sz 0 0
  obtain ⟨b_1, b_2, b_3, b_4⟩ := TkR_b hT (by omega)
  refine z_aload_n B dX12_readDrop_0 rfl 0 rfl ?_
  obtain ⟨n_1, v_1, n_2, h_1, b_17, b_5, b_6, b_7, b_8, b_9, b_10, b_11, b_12, b_13, b_14, b_15, b_16⟩ := im0 hI
  replace b_5 : 1 ≤ rt := b_5
  replace b_6 : rt ≤ 1024 := b_6
  replace b_7 : fl ≤ 12 := b_7
  replace b_8 : pe ≤ 24 := b_8
  replace b_9 : le ≤ 700 := b_9
  replace b_10 : qu ≤ 12 := b_10
  replace b_11 : n_1 ≤ 8 := b_11
  replace b_12 : n_2 ≤ 24 := b_12
  replace b_13 : tk ≤ 24 := b_13
  replace b_14 : il ≤ 700 := b_14
  replace b_15 : nx ≤ 701 := b_15
  replace b_16 : st ≤ 701 := b_16
  have h_2 : Φ x = some (o_ 14 [.int th, .ref (x + 1), .ref (x + 2), .int ti, .int ra, .int (nI rt), .int ex, .int ad, .ref (x + 3), .ref (x + 4), .int me, .long se, .ref (x + 5), .int (nI fl), .int dr, .long ob, .long sa, .long sn, .long us, .ref (x + 6), .ref (x + 7), .int (nI pe), .ref (x + 8), .int (nI le), .ref (x + 9), .ref (x + 10), .int (nI qu), .ref (x + 11), .ref (x + 12), .ref (x + 13), .ref (x + 14), .ref (x + 15), .ref (x + 16), .int (nI n_1), .long v_1, .ref (x + 17), .ref (x + 18), .ref (x + 19), .ref (x + 20), .ref (x + 21), .ref (x + 22), .int (nI n_2), .ref (x + 23), .ref (x + 24), .int (nI tk), .ref (x + 25), .int (nI il), .int (nI nx), .int ec, .int ep, .int kn, .int (nI st), .int nu, .long va]) := h_1
  refine z_callV (As := []) (rest := []) B (r_advanceToken G l Φ sz x (NNc t c) nw cr tp tt sI sT pt ql fl pe le nx il qu kn ec nu va st ep ti ad ob ra rt ex sa us tk th me dr se sn fB hx hI hc0 (show nx ≤ il by omega) (show il ≤ 700 by omega) hnw) (cwV 0 B.1.2.2.2.2 gX12_readDrop_X12_advanceToken rfl rfl rfl (by decide +kernel) ⟨Nat.le_of_ble_eq_true rfl, Nat.le_of_ble_eq_true rfl⟩) h_2 rfl rfl rfl rfl (Nat.le_of_ble_eq_true rfl) dX12_readDrop_1 ⟨Nat.le_of_ble_eq_true rfl, Nat.le_of_ble_eq_true rfl⟩ (fun r_1 Φ1 sz1 st1 hp1 hs1 => ?_)
  obtain ⟨rfl, hq1, ⟨n_3, v_2, v_3, n_4, b_18, hI1⟩, hF1⟩ := hp1
  subst sz1
  replace hs1 : st1 = [] := hs1
  subst st1
  replace hI1 : Im G x ((NNc t c), nw, cr, tp, tt, sI, sT, pt, ql, fl, pe, le, n_3, il, qu, v_2, ec, nu, v_3, n_4, ep, ti, ad, ob, ra, rt, ex, sa, us, tk, th, me, dr, se, sn) Φ1 := hI1
  replace b_18 : TkR (bA fB il) nx v_2 n_4 n_3 v_3 := b_18
  obtain ⟨b_19, b_20, b_21, b_22⟩ := TkR_b b_18 (by omega)
  refine z_aload_n B dX12_readDrop_4 rfl 0 rfl ?_
  obtain ⟨n_5, v_4, n_6, h_3, b_35, b_23, b_24, b_25, b_26, b_27, b_28, b_29, b_30, b_31, b_32, b_33, b_34⟩ := im0 hI1
  replace b_23 : 1 ≤ rt := b_23
  replace b_24 : rt ≤ 1024 := b_24
  replace b_25 : fl ≤ 12 := b_25
  replace b_26 : pe ≤ 24 := b_26
  replace b_27 : le ≤ 700 := b_27
  replace b_28 : qu ≤ 12 := b_28
  replace b_29 : n_5 ≤ 8 := b_29
  replace b_30 : n_6 ≤ 24 := b_30
  replace b_31 : tk ≤ 24 := b_31
  replace b_32 : il ≤ 700 := b_32
  replace b_33 : n_3 ≤ 701 := b_33
  replace b_34 : n_4 ≤ 701 := b_34
  have h_4 : Φ1 x = some (o_ 14 [.int th, .ref (x + 1), .ref (x + 2), .int ti, .int ra, .int (nI rt), .int ex, .int ad, .ref (x + 3), .ref (x + 4), .int me, .long se, .ref (x + 5), .int (nI fl), .int dr, .long ob, .long sa, .long sn, .long us, .ref (x + 6), .ref (x + 7), .int (nI pe), .ref (x + 8), .int (nI le), .ref (x + 9), .ref (x + 10), .int (nI qu), .ref (x + 11), .ref (x + 12), .ref (x + 13), .ref (x + 14), .ref (x + 15), .ref (x + 16), .int (nI n_5), .long v_4, .ref (x + 17), .ref (x + 18), .ref (x + 19), .ref (x + 20), .ref (x + 21), .ref (x + 22), .int (nI n_6), .ref (x + 23), .ref (x + 24), .int (nI tk), .ref (x + 25), .int (nI il), .int (nI n_3), .int ec, .int ep, .int v_2, .int (nI n_4), .int nu, .long v_3]) := h_3
  refine z_callV (As := []) (rest := []) B (r_fieldHere G l Φ1 sz x (NNc t c) nw cr tp tt sI sT pt ql fl pe le n_3 il qu v_2 ec nu v_3 n_4 ep ti ad ob ra rt ex sa us tk th me dr se sn  hx hI1 hnw) (cwV 0 B.1.2.2.2.2 gX12_readDrop_X12_fieldHere rfl rfl rfl (by decide +kernel) ⟨Nat.le_of_ble_eq_true rfl, Nat.le_of_ble_eq_true rfl⟩) h_4 rfl rfl rfl rfl (Nat.le_of_ble_eq_true rfl) dX12_readDrop_5 ⟨Nat.le_of_ble_eq_true rfl, Nat.le_of_ble_eq_true rfl⟩ (fun r_2 Φ2 sz2 st2 hp2 hs2 => ?_)
  obtain ⟨rfl, hq2, hI2, hF2⟩ := hp2
  subst sz2
  replace hs2 : st2 = [.int (fHf v_2 v_3)] := hs2
  subst st2
  replace hI2 : Im G x ((NNc t c), nw, cr, tp, tt, sI, sT, pt, ql, fl, pe, le, n_3, il, qu, v_2, ec, nu, v_3, n_4, ep, ti, ad, ob, ra, rt, ex, sa, us, tk, th, me, dr, se, sn) Φ2 := hI2
  refine z_iconst (v := (-1)) B dX12_readDrop_8 rfl ?_
  refine z_icmp_ne (tgt := 18) B dX12_readDrop_9 rfl (fun c_1 => ?_) (fun c_1 => ?_)
  · obtain ⟨k_1, hT1, e_1, b_36, e_2⟩ := fH_eq b_18 (by omega)
    refine z_aload_n B dX12_readDrop_18 rfl 0 rfl ?_
    have h_5 : Φ2 x = some (o_ 14 [.int th, .ref (x + 1), .ref (x + 2), .int ti, .int ra, .int (nI rt), .int ex, .int ad, .ref (x + 3), .ref (x + 4), .int me, .long se, .ref (x + 5), .int (nI fl), .int dr, .long ob, .long sa, .long sn, .long us, .ref (x + 6), .ref (x + 7), .int (nI pe), .ref (x + 8), .int (nI le), .ref (x + 9), .ref (x + 10), .int (nI qu), .ref (x + 11), .ref (x + 12), .ref (x + 13), .ref (x + 14), .ref (x + 15), .ref (x + 16), .int (nI n_5), .long v_4, .ref (x + 17), .ref (x + 18), .ref (x + 19), .ref (x + 20), .ref (x + 21), .ref (x + 22), .int (nI n_6), .ref (x + 23), .ref (x + 24), .int (nI tk), .ref (x + 25), .int (nI il), .int (nI n_3), .int ec, .int ep, .int v_2, .int (nI n_4), .int nu, .long v_3]) := ((hF2 x (fun j9 h8 h7 => (show False from h7).elim)).trans h_4)
    refine z_get (ref := "FlowExporterModel") (C := RX12) (T := TX12) (N := 54) (ci := 14) (v := .ref (x + 1)) B hu_X12_readDrop_X12 rfl 1 (Nat.le_of_ble_eq_true rfl) hv_X12_readDrop_13 rfl h_5 rfl dX12_readDrop_19 ?_
    refine z_bipush (v := 9) B dX12_readDrop_22 rfl ?_
    refine z_dup2_11 B dX12_readDrop_24 rfl rfl ?_
    obtain ⟨f_1, h_6, r_3⟩ := imk (k := 1) hI2
    replace r_3 : (NNc t c) f_1 := r_3
    have h_7 : Φ2 (x + 1) = some (ai_ G 307 f_1) := h_6
    refine z_iald B h_7 (vin rfl) dX12_readDrop_25 ?_
    refine z_iconst (v := 1) B dX12_readDrop_26 rfl ?_
    refine z_aload_n B dX12_readDrop_27 rfl 0 rfl ?_
    refine z_callV (As := []) (rest := [.int 1, .int (f_1 (9 : Int32).toNatClampNeg), .int 9, .ref (x + 1)]) B (r_fieldHere G l Φ2 sz x (NNc t c) nw cr tp tt sI sT pt ql fl pe le n_3 il qu v_2 ec nu v_3 n_4 ep ti ad ob ra rt ex sa us tk th me dr se sn  hx hI2 hnw) (cwV 0 B.1.2.2.2.2 gX12_readDrop_X12_fieldHere rfl rfl rfl (by decide +kernel) ⟨Nat.le_of_ble_eq_true rfl, Nat.le_of_ble_eq_true rfl⟩) h_5 rfl rfl rfl rfl (Nat.le_of_ble_eq_true rfl) dX12_readDrop_28 ⟨Nat.le_of_ble_eq_true rfl, Nat.le_of_ble_eq_true rfl⟩ (fun r_4 Φ3 sz3 st3 hp3 hs3 => ?_)
    obtain ⟨rfl, hq3, hI3, hF3⟩ := hp3
    subst sz3
    replace hs3 : st3 = [.int (fHf v_2 v_3), .int 1, .int (f_1 (9 : Int32).toNatClampNeg), .int 9, .ref (x + 1)] := hs3
    subst st3
    replace hI3 : Im G x ((NNc t c), nw, cr, tp, tt, sI, sT, pt, ql, fl, pe, le, n_3, il, qu, v_2, ec, nu, v_3, n_4, ep, ti, ad, ob, ra, rt, ex, sa, us, tk, th, me, dr, se, sn) Φ3 := hI3
    refine z_ishl B dX12_readDrop_31 ?_
    refine z_iconst (v := (-1)) B dX12_readDrop_32 rfl ?_
    refine z_ixor B dX12_readDrop_33 ?_
    refine z_iand B dX12_readDrop_34 ?_
    have h_8 : Φ3 (x + 1) = some (ai_ G 307 f_1) := ((hF3 (x + 1) (fun j9 h8 h7 => (show False from h7).elim)).trans h_7)
    refine z_iast B h_8 (Nat.le_trans hx (Nat.le_add_right x 1)) (vin rfl) dX12_readDrop_35 (fun Φ4 hΦ1 => ?_)
    have h_9 : Φ4 (x + 1) = some (ai_ G 307 (upd f_1 (9 : Int32).toNatClampNeg ((f_1 (9 : Int32).toNatClampNeg) &&& ((1 <<< ((fHf v_2 v_3) &&& 31)) ^^^ (-1))))) := fset_at hΦ1
    have hI4 : Im G x ((NNc t (upd c 9 (c 9 &&& ((1 <<< ((fHf v_2 v_3) &&& 31)) ^^^ (-1))))), nw, cr, tp, tt, sI, sT, pt, ql, fl, pe, le, n_3, il, qu, v_2, ec, nu, v_3, n_4, ep, ti, ad, ob, ra, rt, ex, sa, us, tk, th, me, dr, se, sn) Φ4 := Im.put1 (rd1 := (NNc t (upd c 9 (c 9 &&& ((1 <<< ((fHf v_2 v_3) &&& 31)) ^^^ (-1)))))) hI3 hΦ1 (AndC.up r_3 ⟨NN.free r_3.1.1 (by decide), (upd_ne (by decide)).trans r_3.1.2⟩ (congrArg (fun w9 : Int32 => w9 &&& ((1 <<< ((fHf v_2 v_3) &&& 31)) ^^^ (-1))) ((congrArg f_1 (show (9 : Int32).toNatClampNeg = 9 by decide)).trans (r_3.2 9 (by decide)))))
    refine z_aload_n B dX12_readDrop_36 rfl 0 rfl ?_
    have h_10 : Φ4 (x + 25) = some (ab_ G 700 fB) := ((fset_fr hΦ1 (ne_off (x := x) (i := 25) (j := 1) rfl)).trans ((hF3 (x + 25) (fun j9 h8 h7 => (show False from h7).elim)).trans ((hF2 (x + 25) (fun j9 h8 h7 => (show False from h7).elim)).trans ((hF1 (x + 25) fq_1182).trans hc0))))
    have h_11 : Φ4 x = some (o_ 14 [.int th, .ref (x + 1), .ref (x + 2), .int ti, .int ra, .int (nI rt), .int ex, .int ad, .ref (x + 3), .ref (x + 4), .int me, .long se, .ref (x + 5), .int (nI fl), .int dr, .long ob, .long sa, .long sn, .long us, .ref (x + 6), .ref (x + 7), .int (nI pe), .ref (x + 8), .int (nI le), .ref (x + 9), .ref (x + 10), .int (nI qu), .ref (x + 11), .ref (x + 12), .ref (x + 13), .ref (x + 14), .ref (x + 15), .ref (x + 16), .int (nI n_5), .long v_4, .ref (x + 17), .ref (x + 18), .ref (x + 19), .ref (x + 20), .ref (x + 21), .ref (x + 22), .int (nI n_6), .ref (x + 23), .ref (x + 24), .int (nI tk), .ref (x + 25), .int (nI il), .int (nI n_3), .int ec, .int ep, .int v_2, .int (nI n_4), .int nu, .long v_3]) := ((fset_fr hΦ1 (ne_off (x := x) (i := 0) (j := 1) rfl)).trans ((hF3 x (fun j9 h8 h7 => (show False from h7).elim)).trans h_5))
    refine z_callV (As := []) (rest := []) B (r_advanceToken G l Φ4 sz x (NNc t (upd c 9 (c 9 &&& ((1 <<< ((fHf v_2 v_3) &&& 31)) ^^^ (-1))))) nw cr tp tt sI sT pt ql fl pe le n_3 il qu v_2 ec nu v_3 n_4 ep ti ad ob ra rt ex sa us tk th me dr se sn fB hx hI4 h_10 (show n_3 ≤ il by omega) (show il ≤ 700 by omega) hnw) (cwV 0 B.1.2.2.2.2 gX12_readDrop_X12_advanceToken rfl rfl rfl (by decide +kernel) ⟨Nat.le_of_ble_eq_true rfl, Nat.le_of_ble_eq_true rfl⟩) h_11 rfl rfl rfl rfl (Nat.le_of_ble_eq_true rfl) dX12_readDrop_37 ⟨Nat.le_of_ble_eq_true rfl, Nat.le_of_ble_eq_true rfl⟩ (fun r_5 Φ5 sz4 st4 hp4 hs4 => ?_)
    obtain ⟨rfl, hq4, ⟨n_7, v_5, v_6, n_8, b_37, hI5⟩, hF4⟩ := hp4
    subst sz4
    replace hs4 : st4 = [] := hs4
    subst st4
    replace hI5 : Im G x ((NNc t (upd c 9 (c 9 &&& ((1 <<< ((fHf v_2 v_3) &&& 31)) ^^^ (-1))))), nw, cr, tp, tt, sI, sT, pt, ql, fl, pe, le, n_7, il, qu, v_5, ec, nu, v_6, n_8, ep, ti, ad, ob, ra, rt, ex, sa, us, tk, th, me, dr, se, sn) Φ5 := hI5
    replace b_37 : TkR (bA fB il) n_3 v_5 n_8 n_7 v_6 := b_37
    obtain ⟨b_38, b_39, b_40, b_41⟩ := TkR_b b_37 (by omega)
    refine z_aload_n B dX12_readDrop_40 rfl 0 rfl ?_
    obtain ⟨n_9, v_7, n_10, h_12, b_54, b_42, b_43, b_44, b_45, b_46, b_47, b_48, b_49, b_50, b_51, b_52, b_53⟩ := im0 hI5
    replace b_42 : 1 ≤ rt := b_42
    replace b_43 : rt ≤ 1024 := b_43
    replace b_44 : fl ≤ 12 := b_44
    replace b_45 : pe ≤ 24 := b_45
    replace b_46 : le ≤ 700 := b_46
    replace b_47 : qu ≤ 12 := b_47
    replace b_48 : n_9 ≤ 8 := b_48
    replace b_49 : n_10 ≤ 24 := b_49
    replace b_50 : tk ≤ 24 := b_50
    replace b_51 : il ≤ 700 := b_51
    replace b_52 : n_7 ≤ 701 := b_52
    replace b_53 : n_8 ≤ 701 := b_53
    have h_13 : Φ5 x = some (o_ 14 [.int th, .ref (x + 1), .ref (x + 2), .int ti, .int ra, .int (nI rt), .int ex, .int ad, .ref (x + 3), .ref (x + 4), .int me, .long se, .ref (x + 5), .int (nI fl), .int dr, .long ob, .long sa, .long sn, .long us, .ref (x + 6), .ref (x + 7), .int (nI pe), .ref (x + 8), .int (nI le), .ref (x + 9), .ref (x + 10), .int (nI qu), .ref (x + 11), .ref (x + 12), .ref (x + 13), .ref (x + 14), .ref (x + 15), .ref (x + 16), .int (nI n_9), .long v_7, .ref (x + 17), .ref (x + 18), .ref (x + 19), .ref (x + 20), .ref (x + 21), .ref (x + 22), .int (nI n_10), .ref (x + 23), .ref (x + 24), .int (nI tk), .ref (x + 25), .int (nI il), .int (nI n_7), .int ec, .int ep, .int v_5, .int (nI n_8), .int nu, .long v_6]) := h_12
    have h_14 : Φ5 (x + 25) = some (ab_ G 700 fB) := ((hF4 (x + 25) fq_1182).trans h_10)
    refine z_callV (As := []) (rest := []) B (r_readEnd G l Φ5 sz x (NNc t (upd c 9 (c 9 &&& ((1 <<< ((fHf v_2 v_3) &&& 31)) ^^^ (-1))))) nw cr tp tt sI sT pt ql fl pe le n_7 il qu v_5 ec nu v_6 n_8 ep ti ad ob ra rt ex sa us tk th me dr se sn fB n_3 hx hI5 h_14 b_37 (show n_3 ≤ il by omega) (show il ≤ 700 by omega) hnw) (cwV 0 B.1.2.2.2.2 gX12_readDrop_X12_readEnd rfl rfl rfl (by decide +kernel) ⟨Nat.le_of_ble_eq_true rfl, Nat.le_of_ble_eq_true rfl⟩) h_13 rfl rfl rfl rfl (Nat.le_of_ble_eq_true rfl) dX12_readDrop_41 ⟨Nat.le_of_ble_eq_true rfl, Nat.le_of_ble_eq_true rfl⟩ (fun r_6 Φ6 sz5 st5 hp5 hs5 => ?_)
    obtain ⟨-, hq5, ⟨n_11, v_8, v_9, v_10, v_11, n_12, v_12, b_55, hI6⟩, hF5⟩ := hp5
    subst sz5
    replace hI6 : Im G x ((NNc t (upd c 9 (c 9 &&& ((1 <<< ((fHf v_2 v_3) &&& 31)) ^^^ (-1))))), nw, cr, tp, tt, sI, sT, pt, ql, fl, pe, le, n_11, il, qu, v_8, v_9, v_10, v_11, n_12, v_12, ti, ad, ob, ra, rt, ex, sa, us, tk, th, me, dr, se, sn) Φ6 := hI6
    replace b_55 : (r_6 = some (.int 1) ∧ semi (bA fB il) n_3 = (0, n_7) ∧ ec = v_9 ∧ ep = v_12 ∧ nu = v_10 ∧ TkR (bA fB il) n_7 v_8 n_12 n_11 v_11) ∨ (r_6 = some (.int 0) ∧ semi (bA fB il) n_3 = (1, n_8) ∧ v_9 = 1 ∧ v_12 = nI n_8) := b_55
    rcases b_55 with ⟨rfl, hN1, rfl, rfl, rfl, hT2⟩ | ⟨rfl, hN2, rfl, rfl⟩
    · replace hT2 : TkR (bA fB il) n_7 v_8 n_12 n_11 v_11 := hT2
      obtain ⟨b_56, b_57, b_58, b_59⟩ := TkR_b hT2 (by omega)
      replace hs5 : st5 = [.int 1] := hs5
      subst st5
      replace hN1 : semi (bA fB il) n_3 = (0, n_7) := hN1
      have b_60 := semi_lt b_37 (by omega) hN1
      exact z_ret_z B dX12_readDrop_44 (by decide) ⟨(Or.inr rfl), rfl, ⟨n_11, v_8, ec, nu, v_11, n_12, ep, t, upd c 9 (c 9 &&& ((1 <<< ((fHf v_2 v_3) &&& 31)) ^^^ (-1))), (Or.inl ⟨n_7, rfl, (congrArg (endA (bA fB il)) (drpA_0 hT1 e_1.symm c_1)).trans (endA_0 hN1), rfl, rfl, (upd_ne (by omega)).trans hct, by omega, by omega, by omega, hT2⟩), hI6⟩, (fun b9 h9 => ((hF5 b9 (fun j9 h8 h7 => h9 j9 h8 (fq_1202 j9 h7))).trans ((hF4 b9 (fun j9 h8 h7 => h9 j9 h8 (fq_1202 j9 h7))).trans ((fset_fr hΦ1 (fun h8 => h9 (1) h8 (show 1 = 0 ∨ 1 = 1 by decide))).trans ((hF3 b9 (fun j9 h8 h7 => (show False from h7).elim)).trans ((hF2 b9 (fun j9 h8 h7 => (show False from h7).elim)).trans ((hF1 b9 (fun j9 h8 h7 => h9 j9 h8 (fq_1202 j9 h7))).trans rfl)))))))⟩
    · replace hs5 : st5 = [.int 0] := hs5
      subst st5
      replace hN2 : semi (bA fB il) n_3 = (1, n_8) := hN2
      exact z_ret_z B dX12_readDrop_44 (by decide) ⟨(Or.inl rfl), rfl, ⟨n_11, v_8, 1, v_10, v_11, n_12, nI n_8, t, upd c 9 (c 9 &&& ((1 <<< ((fHf v_2 v_3) &&& 31)) ^^^ (-1))), (Or.inr ⟨1, n_8, _, rfl, (congrArg (endA (bA fB il)) (drpA_0 hT1 e_1.symm c_1)).trans (endA_0 hN2), ⟨by omega, by omega⟩, rfl, rfl⟩), hI6⟩, (fun b9 h9 => ((hF5 b9 (fun j9 h8 h7 => h9 j9 h8 (fq_1202 j9 h7))).trans ((hF4 b9 (fun j9 h8 h7 => h9 j9 h8 (fq_1202 j9 h7))).trans ((fset_fr hΦ1 (fun h8 => h9 (1) h8 (show 1 = 0 ∨ 1 = 1 by decide))).trans ((hF3 b9 (fun j9 h8 h7 => (show False from h7).elim)).trans ((hF2 b9 (fun j9 h8 h7 => (show False from h7).elim)).trans ((hF1 b9 (fun j9 h8 h7 => h9 j9 h8 (fq_1202 j9 h7))).trans rfl)))))))⟩
  · obtain ⟨k_2, hT3, e_3, b_61, e_4⟩ := fH_eq b_18 (by omega)
    refine z_aload_n B dX12_readDrop_12 rfl 0 rfl ?_
    refine z_iconst (v := 1) B dX12_readDrop_13 rfl ?_
    have h_15 : Φ2 x = some (o_ 14 [.int th, .ref (x + 1), .ref (x + 2), .int ti, .int ra, .int (nI rt), .int ex, .int ad, .ref (x + 3), .ref (x + 4), .int me, .long se, .ref (x + 5), .int (nI fl), .int dr, .long ob, .long sa, .long sn, .long us, .ref (x + 6), .ref (x + 7), .int (nI pe), .ref (x + 8), .int (nI le), .ref (x + 9), .ref (x + 10), .int (nI qu), .ref (x + 11), .ref (x + 12), .ref (x + 13), .ref (x + 14), .ref (x + 15), .ref (x + 16), .int (nI n_5), .long v_4, .ref (x + 17), .ref (x + 18), .ref (x + 19), .ref (x + 20), .ref (x + 21), .ref (x + 22), .int (nI n_6), .ref (x + 23), .ref (x + 24), .int (nI tk), .ref (x + 25), .int (nI il), .int (nI n_3), .int ec, .int ep, .int v_2, .int (nI n_4), .int nu, .long v_3]) := ((hF2 x (fun j9 h8 h7 => (show False from h7).elim)).trans h_4)
    refine z_callV (As := [.int 1]) (rest := []) B (r_fail G l Φ2 sz x (NNc t c) nw cr tp tt sI sT pt ql fl pe le n_3 il qu v_2 ec nu v_3 n_4 ep ti ad ob ra rt ex sa us tk th me dr se sn 1 hx hI2 hnw) (cwV 1 B.1.2.2.2.2 gX12_readDrop_X12_fail rfl rfl rfl (by decide +kernel) ⟨Nat.le_of_ble_eq_true rfl, Nat.le_of_ble_eq_true rfl⟩) h_15 rfl rfl rfl rfl (Nat.le_of_ble_eq_true rfl) dX12_readDrop_14 ⟨Nat.le_of_ble_eq_true rfl, Nat.le_of_ble_eq_true rfl⟩ (fun r_7 Φ7 sz6 st6 hp6 hs6 => ?_)
    obtain ⟨rfl, hq6, hI7, hF6⟩ := hp6
    subst sz6
    replace hs6 : st6 = [.int 0] := hs6
    subst st6
    replace hI7 : Im G x ((NNc t c), nw, cr, tp, tt, sI, sT, pt, ql, fl, pe, le, n_3, il, qu, v_2, 1, nu, v_3, n_4, nI n_4, ti, ad, ob, ra, rt, ex, sa, us, tk, th, me, dr, se, sn) Φ7 := hI7
    exact z_ret_z B dX12_readDrop_17 (by decide) ⟨(Or.inl rfl), rfl, ⟨n_3, v_2, 1, nu, v_3, n_4, nI n_4, t, c, (Or.inr ⟨1, n_4, c, rfl, (congrArg (endA (bA fB il)) (drpA_1 hT3 (e_3.symm.trans c_1))).trans (endA_e (by decide)), ⟨by omega, by omega⟩, rfl, rfl⟩), hI7⟩, (fun b9 h9 => ((hF6 b9 (fun j9 h8 h7 => h9 j9 h8 (fq_1202 j9 h7))).trans ((hF2 b9 (fun j9 h8 h7 => (show False from h7).elim)).trans ((hF1 b9 (fun j9 h8 h7 => h9 j9 h8 (fq_1202 j9 h7))).trans rfl))))⟩

theorem hu_X12_readUse_X12 : ∀ w ∈ u_ws RX12 TX12 54, w ∈ wsX12_readUse := fun _ h => List.mem_cons_of_mem _ (List.mem_append_left _ (List.mem_append_right _ (h)))

theorem hv_X12_readUse_486 : Cond.fieldLink RX12 486 "FlowExporterModel" (TX12 52).2.1 (TX12 52).2.2.1 ∈ wsX12_readUse := List.mem_cons_of_mem _ (List.mem_append_left _ (List.mem_append_left _ (List.mem_append_left _ (List.mem_of_getElem? (i := 0) rfl))))

theorem hv_X12_readUse_13 : Cond.fieldLink RX12 13 "FlowExporterModel" (TX12 1).2.1 (TX12 1).2.2.1 ∈ wsX12_readUse := List.mem_cons_of_mem _ (List.mem_append_left _ (List.mem_append_left _ (List.mem_append_left _ (List.mem_of_getElem? (i := 1) rfl))))

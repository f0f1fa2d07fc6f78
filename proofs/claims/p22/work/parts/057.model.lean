set_option maxRecDepth 20000 in
theorem ggX12_setRate_X12_inRange : GoodIn wsX12_setRate wsX12_inRange := (goodIn_r _ [6] rfl (by decide +kernel))
set_option maxRecDepth 20000 in
theorem gX12_setRate_X12_inRange : GoodIn wsX12_setRate (va_wsS RX12 169 yX12_inRange wsX12_inRange) := goodIn_app (goodIn_m (mem_cA (List.mem_cons_of_mem _ (List.mem_append_left _ (List.mem_append_left _ (List.mem_append_left _ (List.mem_of_getElem? (i := 2) rfl))))) (mem_cA (List.mem_cons_of_mem _ (List.mem_append_left _ (List.mem_append_left _ (List.mem_append_left _ (List.mem_of_getElem? (i := 3) rfl))))) (mem_cA (List.mem_cons_of_mem _ (List.mem_append_left _ (List.mem_append_left _ (List.mem_append_left _ (List.mem_of_getElem? (i := 4) rfl))))) mem_cZ))) (by decide +kernel)) ggX12_setRate_X12_inRange
set_option maxRecDepth 20000 in
theorem ggX12_setRate_X12_changeRate : GoodIn wsX12_setRate wsX12_changeRate := goodIn_ca ((goodIn_ca (goodIn_r _ [10, 11, 12, 13, 14, 5, 15, 16, 17, 18, 19, 20, 21, 22, 23, 24, 25, 26, 27, 28, 29, 30, 31, 32, 33, 34, 35, 36, 37, 38, 39, 40, 41, 42, 43, 44, 45, 46, 47, 48, 49, 50, 51, 52, 53, 54, 55, 56, 57, 58, 59, 60, 61, 62, 63, 64, 65, 66, 67, 68, 69, 70, 71] rfl (by decide +kernel)) (goodIn_sub (fun _ h => List.mem_cons_of_mem _ (List.mem_append_left _ (List.mem_append_right _ h))) gw_wsX120))) (goodIn_sub (fun _ h => List.mem_cons_of_mem _ (List.mem_append_right _ h)) (all_fg _))
set_option maxRecDepth 20000 in
theorem gX12_setRate_X12_changeRate : GoodIn wsX12_setRate (wsV RX12 265 RX12 yX12_changeRate wsX12_changeRate) := goodIn_app (goodIn_m (mem_cA (List.mem_cons_of_mem _ (List.mem_append_left _ (List.mem_append_left _ (List.mem_append_left _ (List.mem_of_getElem? (i := 6) rfl))))) (mem_cA (List.mem_cons_of_mem _ (List.mem_append_left _ (List.mem_append_left _ (List.mem_append_left _ (List.mem_of_getElem? (i := 7) rfl))))) (mem_cA (List.mem_cons_of_mem _ (List.mem_append_left _ (List.mem_append_left _ (List.mem_append_left _ (List.mem_of_getElem? (i := 8) rfl))))) (mem_cA (List.mem_cons_of_mem _ (List.mem_append_left _ (List.mem_append_left _ (List.mem_append_left _ (List.mem_of_getElem? (i := 4) rfl))))) mem_cZ)))) (by decide +kernel)) ggX12_setRate_X12_changeRate
set_option maxRecDepth 20000 in
theorem ggX12_setRate_X12_sendPending : GoodIn wsX12_setRate wsX12_sendPending := goodIn_ca ((goodIn_ca (goodIn_r _ [75, 45, 76, 77, 78, 79, 80, 81, 82, 83, 84, 85, 5, 86, 87, 47, 88, 89, 90, 91, 21, 92, 93, 94, 95, 96, 97, 98, 25, 26, 27, 28, 29, 30, 31, 32, 33, 34, 35, 36, 37, 38, 39, 40, 99, 100, 101, 102, 103, 104, 105, 49, 50, 51, 52, 53, 54, 55, 106, 107, 108, 109, 110, 111, 112, 113, 48, 46, 114, 115, 116, 117, 118, 119, 120, 121, 122, 123, 124, 125] rfl (by decide +kernel)) (goodIn_sub (fun _ h => List.mem_cons_of_mem _ (List.mem_append_left _ (List.mem_append_right _ h))) gw_wsX120))) (goodIn_sub (fun _ h => List.mem_cons_of_mem _ (List.mem_append_right _ h)) (all_fg _))
set_option maxRecDepth 20000 in
theorem gX12_setRate_X12_sendPending : GoodIn wsX12_setRate (wsV RX12 254 RX12 yX12_sendPending wsX12_sendPending) := goodIn_app (goodIn_m (mem_cA (List.mem_cons_of_mem _ (List.mem_append_left _ (List.mem_append_left _ (List.mem_append_right _ (List.mem_append_right _ (List.mem_append_left _ (List.mem_of_getElem? (i := 23) rfl))))))) (mem_cA (List.mem_cons_of_mem _ (List.mem_append_left _ (List.mem_append_left _ (List.mem_append_right _ (List.mem_append_right _ (List.mem_append_right _ (List.mem_append_left _ (List.mem_of_getElem? (i := 0) rfl)))))))) (mem_cA (List.mem_cons_of_mem _ (List.mem_append_left _ (List.mem_append_left _ (List.mem_append_right _ (List.mem_append_right _ (List.mem_append_right _ (List.mem_append_left _ (List.mem_of_getElem? (i := 1) rfl)))))))) (mem_cA (List.mem_cons_of_mem _ (List.mem_append_left _ (List.mem_append_left _ (List.mem_append_left _ (List.mem_of_getElem? (i := 4) rfl))))) mem_cZ)))) (by decide +kernel)) ggX12_setRate_X12_sendPending
theorem dX12_setRate_0 : decode cX12_setRate 0 = .ok (.aload_n 0, 1) := by decide +kernel
theorem dX12_setRate_1 : decode cX12_setRate 1 = .ok (.iconst 0, 1) := by decide +kernel
theorem dX12_setRate_2 : decode cX12_setRate 2 = .ok (.putfield 1, 3) := by decide +kernel
theorem dX12_setRate_5 : decode cX12_setRate 5 = .ok (.iload_n 1, 1) := by decide +kernel
theorem dX12_setRate_6 : decode cX12_setRate 6 = .ok (.i2l, 1) := by decide +kernel
theorem dX12_setRate_7 : decode cX12_setRate 7 = .ok (.lconst 1, 1) := by decide +kernel
theorem dX12_setRate_8 : decode cX12_setRate 8 = .ok (.ldc2_w 263, 3) := by decide +kernel
theorem dX12_setRate_11 : decode cX12_setRate 11 = .ok (.invokestatic 169, 3) := by decide +kernel
theorem dX12_setRate_14 : decode cX12_setRate 14 = .ok (.ifCond .ne 5, 3) := by decide +kernel
theorem dX12_setRate_17 : decode cX12_setRate 17 = .ok (.iconst (-1), 1) := by decide +kernel
theorem dX12_setRate_18 : decode cX12_setRate 18 = .ok (.ireturn, 1) := by decide +kernel
theorem dX12_setRate_19 : decode cX12_setRate 19 = .ok (.aload_n 0, 1) := by decide +kernel
theorem dX12_setRate_20 : decode cX12_setRate 20 = .ok (.iload_n 1, 1) := by decide +kernel
theorem dX12_setRate_21 : decode cX12_setRate 21 = .ok (.invokevirtual 265, 3) := by decide +kernel
theorem dX12_setRate_24 : decode cX12_setRate 24 = .ok (.istore_n 2, 1) := by decide +kernel
theorem dX12_setRate_25 : decode cX12_setRate 25 = .ok (.aload_n 0, 1) := by decide +kernel
theorem dX12_setRate_26 : decode cX12_setRate 26 = .ok (.invokevirtual 254, 3) := by decide +kernel
theorem dX12_setRate_29 : decode cX12_setRate 29 = .ok (.iload_n 2, 1) := by decide +kernel
theorem dX12_setRate_30 : decode cX12_setRate 30 = .ok (.ireturn, 1) := by decide +kernel
set_option maxRecDepth 20000 in
theorem ggX12_flush_X12_exportAll : GoodIn wsX12_flush wsX12_exportAll := goodIn_ca ((goodIn_ca (goodIn_r _ [6, 7, 8, 9, 10, 5, 11, 12, 13, 14, 15, 16, 17, 18, 19, 20, 21, 22, 23, 24, 25, 26, 27, 28, 29, 30, 31, 32, 33, 34, 35, 36, 37, 38, 39, 40, 41, 42, 43, 44, 45, 46, 47, 48, 49, 50, 51, 52, 53, 54, 55, 56, 57, 58, 59, 60, 61, 62, 63] rfl (by decide +kernel)) (goodIn_sub (fun _ h => List.mem_cons_of_mem _ (List.mem_append_left _ (List.mem_append_right _ h))) gw_wsX120))) (goodIn_sub (fun _ h => List.mem_cons_of_mem _ (List.mem_append_right _ h)) (all_fg _))
set_option maxRecDepth 20000 in
theorem gX12_flush_X12_exportAll : GoodIn wsX12_flush (wsV RX12 259 RX12 yX12_exportAll wsX12_exportAll) := goodIn_app (goodIn_m (mem_cA (List.mem_cons_of_mem _ (List.mem_append_left _ (List.mem_append_left _ (List.mem_append_left _ (List.mem_of_getElem? (i := 1) rfl))))) (mem_cA (List.mem_cons_of_mem _ (List.mem_append_left _ (List.mem_append_left _ (List.mem_append_left _ (List.mem_of_getElem? (i := 2) rfl))))) (mem_cA (List.mem_cons_of_mem _ (List.mem_append_left _ (List.mem_append_left _ (List.mem_append_left _ (List.mem_of_getElem? (i := 3) rfl))))) (mem_cA (List.mem_cons_of_mem _ (List.mem_append_left _ (List.mem_append_left _ (List.mem_append_left _ (List.mem_of_getElem? (i := 4) rfl))))) mem_cZ)))) (by decide +kernel)) ggX12_flush_X12_exportAll
set_option maxRecDepth 20000 in
theorem ggX12_flush_X12_sendPending : GoodIn wsX12_flush wsX12_sendPending := goodIn_ca ((goodIn_ca (goodIn_r _ [67, 36, 68, 69, 70, 71, 72, 73, 74, 75, 76, 77, 5, 78, 79, 38, 80, 81, 82, 83, 12, 84, 85, 86, 87, 88, 89, 90, 16, 17, 18, 19, 20, 21, 22, 23, 24, 25, 26, 27, 28, 29, 30, 31, 91, 92, 93, 94, 95, 96, 97, 40, 41, 42, 43, 44, 45, 46, 98, 99, 100, 101, 102, 103, 104, 105, 39, 37, 106, 107, 108, 109, 110, 111, 112, 113, 114, 115, 116, 117] rfl (by decide +kernel)) (goodIn_sub (fun _ h => List.mem_cons_of_mem _ (List.mem_append_left _ (List.mem_append_right _ h))) gw_wsX120))) (goodIn_sub (fun _ h => List.mem_cons_of_mem _ (List.mem_append_right _ h)) (all_fg _))
set_option maxRecDepth 20000 in
theorem gX12_flush_X12_sendPending : GoodIn wsX12_flush (wsV RX12 254 RX12 yX12_sendPending wsX12_sendPending) := goodIn_app (goodIn_m (mem_cA (List.mem_cons_of_mem _ (List.mem_append_left _ (List.mem_append_left _ (List.mem_append_right _ (List.mem_append_right _ (List.mem_append_left _ (List.mem_of_getElem? (i := 15) rfl))))))) (mem_cA (List.mem_cons_of_mem _ (List.mem_append_left _ (List.mem_append_left _ (List.mem_append_right _ (List.mem_append_right _ (List.mem_append_left _ (List.mem_of_getElem? (i := 16) rfl))))))) (mem_cA (List.mem_cons_of_mem _ (List.mem_append_left _ (List.mem_append_left _ (List.mem_append_right _ (List.mem_append_right _ (List.mem_append_left _ (List.mem_of_getElem? (i := 17) rfl))))))) (mem_cA (List.mem_cons_of_mem _ (List.mem_append_left _ (List.mem_append_left _ (List.mem_append_left _ (List.mem_of_getElem? (i := 4) rfl))))) mem_cZ)))) (by decide +kernel)) ggX12_flush_X12_sendPending
theorem dX12_flush_0 : decode cX12_flush 0 = .ok (.aload_n 0, 1) := by decide +kernel
theorem dX12_flush_1 : decode cX12_flush 1 = .ok (.iconst 0, 1) := by decide +kernel
theorem dX12_flush_2 : decode cX12_flush 2 = .ok (.putfield 1, 3) := by decide +kernel
theorem dX12_flush_5 : decode cX12_flush 5 = .ok (.aload_n 0, 1) := by decide +kernel
theorem dX12_flush_6 : decode cX12_flush 6 = .ok (.invokevirtual 259, 3) := by decide +kernel
theorem dX12_flush_9 : decode cX12_flush 9 = .ok (.istore_n 1, 1) := by decide +kernel
theorem dX12_flush_10 : decode cX12_flush 10 = .ok (.aload_n 0, 1) := by decide +kernel
theorem dX12_flush_11 : decode cX12_flush 11 = .ok (.invokevirtual 254, 3) := by decide +kernel
theorem dX12_flush_14 : decode cX12_flush 14 = .ok (.iload_n 1, 1) := by decide +kernel
theorem dX12_flush_15 : decode cX12_flush 15 = .ok (.ireturn, 1) := by decide +kernel
theorem dX12_isOver_0 : decode cX12_isOver 0 = .ok (.aload_n 0, 1) := by decide +kernel
theorem dX12_isOver_1 : decode cX12_isOver 1 = .ok (.getfield 101, 3) := by decide +kernel
theorem dX12_isOver_4 : decode cX12_isOver 4 = .ok (.i2l, 1) := by decide +kernel
theorem dX12_isOver_5 : decode cX12_isOver 5 = .ok (.aload_n 0, 1) := by decide +kernel
theorem dX12_isOver_6 : decode cX12_isOver 6 = .ok (.getfield 26, 3) := by decide +kernel
theorem dX12_isOver_9 : decode cX12_isOver 9 = .ok (.bipush 8, 2) := by decide +kernel
theorem dX12_isOver_11 : decode cX12_isOver 11 = .ok (.iload_n 1, 1) := by decide +kernel
theorem dX12_isOver_12 : decode cX12_isOver 12 = .ok (.imul, 1) := by decide +kernel
theorem dX12_isOver_13 : decode cX12_isOver 13 = .ok (.bipush 6, 2) := by decide +kernel
theorem dX12_isOver_15 : decode cX12_isOver 15 = .ok (.iadd, 1) := by decide +kernel
theorem dX12_isOver_16 : decode cX12_isOver 16 = .ok (.laload, 1) := by decide +kernel
theorem dX12_isOver_17 : decode cX12_isOver 17 = .ok (.lsub, 1) := by decide +kernel
theorem dX12_isOver_18 : decode cX12_isOver 18 = .ok (.aload_n 0, 1) := by decide +kernel
theorem dX12_isOver_19 : decode cX12_isOver 19 = .ok (.getfield 17, 3) := by decide +kernel
theorem dX12_isOver_22 : decode cX12_isOver 22 = .ok (.iconst 2, 1) := by decide +kernel
theorem dX12_isOver_23 : decode cX12_isOver 23 = .ok (.iaload, 1) := by decide +kernel
theorem dX12_isOver_24 : decode cX12_isOver 24 = .ok (.i2l, 1) := by decide +kernel
theorem dX12_isOver_25 : decode cX12_isOver 25 = .ok (.lcmp, 1) := by decide +kernel
theorem dX12_isOver_26 : decode cX12_isOver 26 = .ok (.ifCond .ge 32, 3) := by decide +kernel
theorem dX12_isOver_29 : decode cX12_isOver 29 = .ok (.aload_n 0, 1) := by decide +kernel
theorem dX12_isOver_30 : decode cX12_isOver 30 = .ok (.getfield 101, 3) := by decide +kernel
theorem dX12_isOver_33 : decode cX12_isOver 33 = .ok (.i2l, 1) := by decide +kernel
theorem dX12_isOver_34 : decode cX12_isOver 34 = .ok (.aload_n 0, 1) := by decide +kernel
theorem dX12_isOver_35 : decode cX12_isOver 35 = .ok (.getfield 26, 3) := by decide +kernel
theorem dX12_isOver_38 : decode cX12_isOver 38 = .ok (.bipush 8, 2) := by decide +kernel
theorem dX12_isOver_40 : decode cX12_isOver 40 = .ok (.iload_n 1, 1) := by decide +kernel
theorem dX12_isOver_41 : decode cX12_isOver 41 = .ok (.imul, 1) := by decide +kernel
theorem dX12_isOver_42 : decode cX12_isOver 42 = .ok (.bipush 7, 2) := by decide +kernel
theorem dX12_isOver_44 : decode cX12_isOver 44 = .ok (.iadd, 1) := by decide +kernel
theorem dX12_isOver_45 : decode cX12_isOver 45 = .ok (.laload, 1) := by decide +kernel
theorem dX12_isOver_46 : decode cX12_isOver 46 = .ok (.lsub, 1) := by decide +kernel
theorem dX12_isOver_47 : decode cX12_isOver 47 = .ok (.aload_n 0, 1) := by decide +kernel
theorem dX12_isOver_48 : decode cX12_isOver 48 = .ok (.getfield 17, 3) := by decide +kernel
theorem dX12_isOver_51 : decode cX12_isOver 51 = .ok (.iconst 3, 1) := by decide +kernel
theorem dX12_isOver_52 : decode cX12_isOver 52 = .ok (.iaload, 1) := by decide +kernel
theorem dX12_isOver_53 : decode cX12_isOver 53 = .ok (.i2l, 1) := by decide +kernel
theorem dX12_isOver_54 : decode cX12_isOver 54 = .ok (.lcmp, 1) := by decide +kernel
theorem dX12_isOver_55 : decode cX12_isOver 55 = .ok (.ifCond .lt 7, 3) := by decide +kernel
theorem dX12_isOver_58 : decode cX12_isOver 58 = .ok (.iconst 1, 1) := by decide +kernel
theorem dX12_isOver_59 : decode cX12_isOver 59 = .ok (.goto 4, 3) := by decide +kernel
theorem dX12_isOver_62 : decode cX12_isOver 62 = .ok (.iconst 0, 1) := by decide +kernel
theorem dX12_isOver_63 : decode cX12_isOver 63 = .ok (.ireturn, 1) := by decide +kernel
set_option maxRecDepth 20000 in
theorem ggX12_adapt_X12_changeRate : GoodIn wsX12_adapt wsX12_changeRate := goodIn_ca ((goodIn_ca (goodIn_r _ [9, 4, 10, 11, 12, 8, 13, 14, 15, 16, 17, 18, 3, 19, 20, 1, 21, 22, 23, 24, 25, 26, 27, 28, 29, 30, 31, 32, 33, 34, 35, 36, 37, 38, 39, 40, 41, 42, 43, 44, 45, 46, 47, 48, 49, 50, 51, 52, 53, 54, 55, 56, 57, 58, 59, 60, 61, 62, 63, 64, 65, 66, 67] rfl (by decide +kernel)) (goodIn_sub (fun _ h => List.mem_cons_of_mem _ (List.mem_append_left _ (List.mem_append_right _ h))) gw_wsX120))) (goodIn_sub (fun _ h => List.mem_cons_of_mem _ (List.mem_append_right _ h)) (all_fg _))
set_option maxRecDepth 20000 in
theorem gX12_adapt_X12_changeRate : GoodIn wsX12_adapt (wsV RX12 265 RX12 yX12_changeRate wsX12_changeRate) := goodIn_app (goodIn_m (mem_cA (List.mem_cons_of_mem _ (List.mem_append_left _ (List.mem_append_left _ (List.mem_append_left _ (List.mem_of_getElem? (i := 4) rfl))))) (mem_cA (List.mem_cons_of_mem _ (List.mem_append_left _ (List.mem_append_left _ (List.mem_append_left _ (List.mem_of_getElem? (i := 5) rfl))))) (mem_cA (List.mem_cons_of_mem _ (List.mem_append_left _ (List.mem_append_left _ (List.mem_append_left _ (List.mem_of_getElem? (i := 6) rfl))))) (mem_cA (List.mem_cons_of_mem _ (List.mem_append_left _ (List.mem_append_left _ (List.mem_append_left _ (List.mem_of_getElem? (i := 7) rfl))))) mem_cZ)))) (by decide +kernel)) ggX12_adapt_X12_changeRate
theorem dX12_adapt_0 : decode cX12_adapt 0 = .ok (.aload_n 0, 1) := by decide +kernel
theorem dX12_adapt_1 : decode cX12_adapt 1 = .ok (.getfield 114, 3) := by decide +kernel
theorem dX12_adapt_4 : decode cX12_adapt 4 = .ok (.istore_n 1, 1) := by decide +kernel
theorem dX12_adapt_5 : decode cX12_adapt 5 = .ok (.aload_n 0, 1) := by decide +kernel
theorem dX12_adapt_6 : decode cX12_adapt 6 = .ok (.iconst 0, 1) := by decide +kernel
theorem dX12_adapt_7 : decode cX12_adapt 7 = .ok (.putfield 114, 3) := by decide +kernel
theorem dX12_adapt_10 : decode cX12_adapt 10 = .ok (.aload_n 0, 1) := by decide +kernel
theorem dX12_adapt_11 : decode cX12_adapt 11 = .ok (.getfield 110, 3) := by decide +kernel
theorem dX12_adapt_14 : decode cX12_adapt 14 = .ok (.ifCond .ne 5, 3) := by decide +kernel
theorem dX12_adapt_17 : decode cX12_adapt 17 = .ok (.iconst 0, 1) := by decide +kernel
theorem dX12_adapt_18 : decode cX12_adapt 18 = .ok (.ireturn, 1) := by decide +kernel
theorem dX12_adapt_19 : decode cX12_adapt 19 = .ok (.iload_n 1, 1) := by decide +kernel
theorem dX12_adapt_20 : decode cX12_adapt 20 = .ok (.aload_n 0, 1) := by decide +kernel
theorem dX12_adapt_21 : decode cX12_adapt 21 = .ok (.getfield 17, 3) := by decide +kernel
theorem dX12_adapt_24 : decode cX12_adapt 24 = .ok (.iconst 1, 1) := by decide +kernel
theorem dX12_adapt_25 : decode cX12_adapt 25 = .ok (.iaload, 1) := by decide +kernel
theorem dX12_adapt_26 : decode cX12_adapt 26 = .ok (.if_icmp .le 24, 3) := by decide +kernel
theorem dX12_adapt_29 : decode cX12_adapt 29 = .ok (.aload_n 0, 1) := by decide +kernel
theorem dX12_adapt_30 : decode cX12_adapt 30 = .ok (.getfield 107, 3) := by decide +kernel
theorem dX12_adapt_33 : decode cX12_adapt 33 = .ok (.sipush 512, 3) := by decide +kernel
theorem dX12_adapt_36 : decode cX12_adapt 36 = .ok (.if_icmp .gt 14, 3) := by decide +kernel
theorem dX12_adapt_39 : decode cX12_adapt 39 = .ok (.aload_n 0, 1) := by decide +kernel
theorem dX12_adapt_40 : decode cX12_adapt 40 = .ok (.iconst 2, 1) := by decide +kernel
theorem dX12_adapt_41 : decode cX12_adapt 41 = .ok (.aload_n 0, 1) := by decide +kernel
theorem dX12_adapt_42 : decode cX12_adapt 42 = .ok (.getfield 107, 3) := by decide +kernel
theorem dX12_adapt_45 : decode cX12_adapt 45 = .ok (.imul, 1) := by decide +kernel
theorem dX12_adapt_46 : decode cX12_adapt 46 = .ok (.invokevirtual 265, 3) := by decide +kernel
theorem dX12_adapt_49 : decode cX12_adapt 49 = .ok (.ireturn, 1) := by decide +kernel
theorem dX12_adapt_50 : decode cX12_adapt 50 = .ok (.iconst 2, 1) := by decide +kernel
theorem dX12_adapt_51 : decode cX12_adapt 51 = .ok (.iload_n 1, 1) := by decide +kernel
theorem dX12_adapt_52 : decode cX12_adapt 52 = .ok (.imul, 1) := by decide +kernel
theorem dX12_adapt_53 : decode cX12_adapt 53 = .ok (.aload_n 0, 1) := by decide +kernel
theorem dX12_adapt_54 : decode cX12_adapt 54 = .ok (.getfield 17, 3) := by decide +kernel
theorem dX12_adapt_57 : decode cX12_adapt 57 = .ok (.iconst 1, 1) := by decide +kernel
theorem dX12_adapt_58 : decode cX12_adapt 58 = .ok (.iaload, 1) := by decide +kernel
theorem dX12_adapt_59 : decode cX12_adapt 59 = .ok (.if_icmp .ge 24, 3) := by decide +kernel
theorem dX12_adapt_62 : decode cX12_adapt 62 = .ok (.aload_n 0, 1) := by decide +kernel
theorem dX12_adapt_63 : decode cX12_adapt 63 = .ok (.getfield 107, 3) := by decide +kernel
theorem dX12_adapt_66 : decode cX12_adapt 66 = .ok (.iconst 2, 1) := by decide +kernel
theorem dX12_adapt_67 : decode cX12_adapt 67 = .ok (.if_icmp .lt 16, 3) := by decide +kernel
theorem dX12_adapt_70 : decode cX12_adapt 70 = .ok (.aload_n 0, 1) := by decide +kernel
theorem dX12_adapt_71 : decode cX12_adapt 71 = .ok (.aload_n 0, 1) := by decide +kernel
theorem dX12_adapt_72 : decode cX12_adapt 72 = .ok (.getfield 107, 3) := by decide +kernel
theorem dX12_adapt_75 : decode cX12_adapt 75 = .ok (.iconst 2, 1) := by decide +kernel
theorem dX12_adapt_76 : decode cX12_adapt 76 = .ok (.idiv, 1) := by decide +kernel
theorem dX12_adapt_77 : decode cX12_adapt 77 = .ok (.invokevirtual 265, 3) := by decide +kernel
theorem dX12_adapt_80 : decode cX12_adapt 80 = .ok (.goto 4, 3) := by decide +kernel
theorem dX12_adapt_83 : decode cX12_adapt 83 = .ok (.iconst 0, 1) := by decide +kernel
theorem dX12_adapt_84 : decode cX12_adapt 84 = .ok (.ireturn, 1) := by decide +kernel
set_option maxRecDepth 20000 in
theorem ggX12_tick_X12_isOver : GoodIn wsX12_tick wsX12_isOver := goodIn_ca ((goodIn_ca (goodIn_r _ [7, 1, 8, 9] rfl (by decide +kernel)) (goodIn_sub (fun _ h => List.mem_cons_of_mem _ (List.mem_append_left _ (List.mem_append_right _ h))) gw_wsX120))) (goodIn_sub (fun _ h => List.mem_cons_of_mem _ (List.mem_append_right _ h)) (all_fg _))
set_option maxRecDepth 20000 in
theorem gX12_tick_X12_isOver : GoodIn wsX12_tick (wsV RX12 268 RX12 yX12_isOver wsX12_isOver) := goodIn_app (goodIn_m (mem_cA (List.mem_cons_of_mem _ (List.mem_append_left _ (List.mem_append_left _ (List.mem_append_left _ (List.mem_of_getElem? (i := 2) rfl))))) (mem_cA (List.mem_cons_of_mem _ (List.mem_append_left _ (List.mem_append_left _ (List.mem_append_left _ (List.mem_of_getElem? (i := 3) rfl))))) (mem_cA (List.mem_cons_of_mem _ (List.mem_append_left _ (List.mem_append_left _ (List.mem_append_left _ (List.mem_of_getElem? (i := 4) rfl))))) (mem_cA (List.mem_cons_of_mem _ (List.mem_append_left _ (List.mem_append_left _ (List.mem_append_left _ (List.mem_of_getElem? (i := 5) rfl))))) mem_cZ)))) (by decide +kernel)) ggX12_tick_X12_isOver
set_option maxRecDepth 20000 in
theorem ggX12_tick_X12_export : GoodIn wsX12_tick wsX12_export := goodIn_ca ((goodIn_ca (goodIn_r _ [13, 9, 8, 14, 15, 2, 16, 17, 18, 6, 19, 20, 21, 22, 23, 24, 25, 26, 27, 28, 29, 30, 31, 32, 33, 34, 35, 36, 37, 38, 39, 40, 41, 42, 43, 44, 45, 46, 47, 48, 49, 50, 51, 52, 53, 54, 55, 56, 57, 58, 59, 60, 61, 62, 63] rfl (by decide +kernel)) (goodIn_sub (fun _ h => List.mem_cons_of_mem _ (List.mem_append_left _ (List.mem_append_right _ h))) gw_wsX120))) (goodIn_sub (fun _ h => List.mem_cons_of_mem _ (List.mem_append_right _ h)) (all_fg _))
set_option maxRecDepth 20000 in
theorem gX12_tick_X12_export : GoodIn wsX12_tick (wsV RX12 224 RX12 yX12_export wsX12_export) := goodIn_app (goodIn_m (mem_cA (List.mem_cons_of_mem _ (List.mem_append_left _ (List.mem_append_left _ (List.mem_append_left _ (List.mem_of_getElem? (i := 9) rfl))))) (mem_cA (List.mem_cons_of_mem _ (List.mem_append_left _ (List.mem_append_left _ (List.mem_append_left _ (List.mem_of_getElem? (i := 10) rfl))))) (mem_cA (List.mem_cons_of_mem _ (List.mem_append_left _ (List.mem_append_left _ (List.mem_append_left _ (List.mem_of_getElem? (i := 11) rfl))))) (mem_cA (List.mem_cons_of_mem _ (List.mem_append_left _ (List.mem_append_left _ (List.mem_append_left _ (List.mem_of_getElem? (i := 5) rfl))))) mem_cZ)))) (by decide +kernel)) ggX12_tick_X12_export
set_option maxRecDepth 20000 in
theorem ggX12_tick_X12_adapt : GoodIn wsX12_tick wsX12_adapt := goodIn_ca ((goodIn_ca (goodIn_r _ [67, 15, 68, 9, 51, 69, 70, 71, 6, 72, 73, 74, 75, 76, 2, 10, 11, 12, 13, 8, 14, 16, 17, 18, 19, 20, 21, 22, 23, 24, 25, 26, 27, 28, 29, 30, 31, 32, 33, 34, 35, 36, 37, 38, 39, 40, 41, 42, 43, 44, 45, 46, 47, 48, 49, 50, 52, 53, 54, 55, 56, 57, 58, 59, 60, 61, 62, 63] rfl (by decide +kernel)) (goodIn_sub (fun _ h => List.mem_cons_of_mem _ (List.mem_append_left _ (List.mem_append_right _ h))) gw_wsX120))) (goodIn_sub (fun _ h => List.mem_cons_of_mem _ (List.mem_append_right _ h)) (all_fg _))
set_option maxRecDepth 20000 in
theorem gX12_tick_X12_adapt : GoodIn wsX12_tick (wsV RX12 271 RX12 yX12_adapt wsX12_adapt) := goodIn_app (goodIn_m (mem_cA (List.mem_cons_of_mem _ (List.mem_append_left _ (List.mem_append_left _ (List.mem_append_right _ (List.mem_append_right _ (List.mem_append_left _ (List.mem_of_getElem? (i := 15) rfl))))))) (mem_cA (List.mem_cons_of_mem _ (List.mem_append_left _ (List.mem_append_left _ (List.mem_append_right _ (List.mem_append_right _ (List.mem_append_left _ (List.mem_of_getElem? (i := 16) rfl))))))) (mem_cA (List.mem_cons_of_mem _ (List.mem_append_left _ (List.mem_append_left _ (List.mem_append_right _ (List.mem_append_right _ (List.mem_append_left _ (List.mem_of_getElem? (i := 17) rfl))))))) (mem_cA (List.mem_cons_of_mem _ (List.mem_append_left _ (List.mem_append_left _ (List.mem_append_left _ (List.mem_of_getElem? (i := 5) rfl))))) mem_cZ)))) (by decide +kernel)) ggX12_tick_X12_adapt
set_option maxRecDepth 20000 in
theorem ggX12_tick_X12_sendPending : GoodIn wsX12_tick wsX12_sendPending := goodIn_ca ((goodIn_ca (goodIn_r _ [80, 36, 81, 82, 1, 83, 84, 85, 86, 87, 88, 89, 6, 90, 91, 38, 92, 93, 94, 95, 9, 96, 97, 98, 99, 100, 101, 102, 16, 17, 18, 19, 20, 21, 22, 23, 24, 25, 26, 27, 28, 29, 30, 31, 103, 104, 105, 106, 107, 108, 109, 40, 41, 42, 43, 44, 45, 46, 110, 111, 112, 113, 114, 115, 116, 117, 39, 37, 118, 119, 120, 121, 122, 123, 124, 125, 126, 127, 128, 129] rfl (by decide +kernel)) (goodIn_sub (fun _ h => List.mem_cons_of_mem _ (List.mem_append_left _ (List.mem_append_right _ h))) gw_wsX120))) (goodIn_sub (fun _ h => List.mem_cons_of_mem _ (List.mem_append_right _ h)) (all_fg _))
set_option maxRecDepth 20000 in
theorem gX12_tick_X12_sendPending : GoodIn wsX12_tick (wsV RX12 254 RX12 yX12_sendPending wsX12_sendPending) := goodIn_app (goodIn_m (mem_cA (List.mem_cons_of_mem _ (List.mem_append_left _ (List.mem_append_left _ (List.mem_append_right _ (List.mem_append_right _ (List.mem_append_right _ (List.mem_append_left _ (List.mem_of_getElem? (i := 4) rfl)))))))) (mem_cA (List.mem_cons_of_mem _ (List.mem_append_left _ (List.mem_append_left _ (List.mem_append_right _ (List.mem_append_right _ (List.mem_append_right _ (List.mem_append_left _ (List.mem_of_getElem? (i := 5) rfl)))))))) (mem_cA (List.mem_cons_of_mem _ (List.mem_append_left _ (List.mem_append_left _ (List.mem_append_right _ (List.mem_append_right _ (List.mem_append_right _ (List.mem_append_left _ (List.mem_of_getElem? (i := 6) rfl)))))))) (mem_cA (List.mem_cons_of_mem _ (List.mem_append_left _ (List.mem_append_left _ (List.mem_append_left _ (List.mem_of_getElem? (i := 5) rfl))))) mem_cZ)))) (by decide +kernel)) ggX12_tick_X12_sendPending
theorem dX12_tick_0 : decode cX12_tick 0 = .ok (.aload_n 0, 1) := by decide +kernel
theorem dX12_tick_1 : decode cX12_tick 1 = .ok (.dup, 1) := by decide +kernel
theorem dX12_tick_2 : decode cX12_tick 2 = .ok (.getfield 101, 3) := by decide +kernel
theorem dX12_tick_5 : decode cX12_tick 5 = .ok (.iconst 1, 1) := by decide +kernel
theorem dX12_tick_6 : decode cX12_tick 6 = .ok (.iadd, 1) := by decide +kernel
theorem dX12_tick_7 : decode cX12_tick 7 = .ok (.putfield 101, 3) := by decide +kernel
theorem dX12_tick_10 : decode cX12_tick 10 = .ok (.iconst 0, 1) := by decide +kernel
theorem dX12_tick_11 : decode cX12_tick 11 = .ok (.istore_n 1, 1) := by decide +kernel
theorem dX12_tick_12 : decode cX12_tick 12 = .ok (.iconst 0, 1) := by decide +kernel
theorem dX12_tick_13 : decode cX12_tick 13 = .ok (.istore_n 2, 1) := by decide +kernel
theorem dX12_tick_14 : decode cX12_tick 14 = .ok (.iload_n 2, 1) := by decide +kernel
theorem dX12_tick_15 : decode cX12_tick 15 = .ok (.aload_n 0, 1) := by decide +kernel
theorem dX12_tick_16 : decode cX12_tick 16 = .ok (.getfield 133, 3) := by decide +kernel
theorem dX12_tick_19 : decode cX12_tick 19 = .ok (.if_icmp .ge 28, 3) := by decide +kernel
theorem dX12_tick_22 : decode cX12_tick 22 = .ok (.aload_n 0, 1) := by decide +kernel
theorem dX12_tick_23 : decode cX12_tick 23 = .ok (.iload_n 2, 1) := by decide +kernel
theorem dX12_tick_24 : decode cX12_tick 24 = .ok (.invokevirtual 268, 3) := by decide +kernel
theorem dX12_tick_27 : decode cX12_tick 27 = .ok (.ifCond .eq 14, 3) := by decide +kernel
theorem dX12_tick_30 : decode cX12_tick 30 = .ok (.aload_n 0, 1) := by decide +kernel
theorem dX12_tick_31 : decode cX12_tick 31 = .ok (.iload_n 2, 1) := by decide +kernel
theorem dX12_tick_32 : decode cX12_tick 32 = .ok (.invokevirtual 224, 3) := by decide +kernel
theorem dX12_tick_35 : decode cX12_tick 35 = .ok (.iinc 1 1, 3) := by decide +kernel
theorem dX12_tick_38 : decode cX12_tick 38 = .ok (.goto (-24), 3) := by decide +kernel
theorem dX12_tick_41 : decode cX12_tick 41 = .ok (.iinc 2 1, 3) := by decide +kernel
theorem dX12_tick_44 : decode cX12_tick 44 = .ok (.goto (-30), 3) := by decide +kernel
theorem dX12_tick_47 : decode cX12_tick 47 = .ok (.aload_n 0, 1) := by decide +kernel
theorem dX12_tick_48 : decode cX12_tick 48 = .ok (.getfield 101, 3) := by decide +kernel
theorem dX12_tick_51 : decode cX12_tick 51 = .ok (.bipush 100, 2) := by decide +kernel
theorem dX12_tick_53 : decode cX12_tick 53 = .ok (.irem, 1) := by decide +kernel
theorem dX12_tick_54 : decode cX12_tick 54 = .ok (.ifCond .ne 10, 3) := by decide +kernel
theorem dX12_tick_57 : decode cX12_tick 57 = .ok (.iload_n 1, 1) := by decide +kernel
theorem dX12_tick_58 : decode cX12_tick 58 = .ok (.aload_n 0, 1) := by decide +kernel
theorem dX12_tick_59 : decode cX12_tick 59 = .ok (.invokevirtual 271, 3) := by decide +kernel
theorem dX12_tick_62 : decode cX12_tick 62 = .ok (.iadd, 1) := by decide +kernel
theorem dX12_tick_63 : decode cX12_tick 63 = .ok (.istore_n 1, 1) := by decide +kernel
theorem dX12_tick_64 : decode cX12_tick 64 = .ok (.aload_n 0, 1) := by decide +kernel
theorem dX12_tick_65 : decode cX12_tick 65 = .ok (.invokevirtual 254, 3) := by decide +kernel
theorem dX12_tick_68 : decode cX12_tick 68 = .ok (.iload_n 1, 1) := by decide +kernel
theorem dX12_tick_69 : decode cX12_tick 69 = .ok (.ireturn, 1) := by decide +kernel
set_option maxHeartbeats 4000000 in
set_option maxRecDepth 100000 in
theorem r_setRate (G : EnvG) (l : Launch) (Φ : Hm) (sz x : Nat) (rd : (Nat → Int32) → Prop) (nw : (Nat → Int32) → Prop) (fl : Nat) (le : Nat) (nx : Nat) (il : Nat) (qu : Nat) (kn : Int32) (ec : Int32) (nu : Int32) (va : Int64) (st : Nat) (ep : Int32) (ti : Int32) (ad : Int32) (ob : Int64) (a : Int32) (hx : G.2.2.2 ≤ x) (hI : Im G x (rd, nw, fl, 0, le, nx, il, qu, kn, ec, nu, va, st, ep, ti, ad, ob) Φ) (hnw : ∀ f9 : Nat → Int32, nw f9 → NN f9) : Ct G l yX12_setRate wsX12_setRate ({ frames := 7, cells := 0, slots := 0, locals := 154 }) 0 0 [.ref x, .int a] Φ sz (fun v Φ1 sz1 => (∃ r9 : Int32, v = some (.int r9)) ∧ sz1 = sz ∧ (∃ (fl1 : Nat) (le1 : Nat) (qu1 : Nat), Im G x (rd, nw, fl1, 0, le1, nx, il, qu1, kn, ec, nu, va, st, ep, ti, ad, ob) Φ1) ∧ Fr x (fun j9 => j9 = 0 ∨ j9 = 3 ∨ j9 = 4 ∨ j9 = 5 ∨ j9 = 6 ∨ j9 = 7 ∨ j9 = 8 ∨ j9 = 9 ∨ j9 = 10) Φ Φ1) := by
  refine Ct.of (cc := cX12_setRate) (maxL := 3) (ret := (some .int)) (by decide) rfl (Nat.le_of_ble_eq_true rfl) ?_
  intro p9 e9 s9 m9 w9 t9 k9 B
  show Z p9 l e9 _ s9 m9 _ w9 t9 k9 _ G 3 0 [(0, .ref x), (1, .int a)] [] Φ sz 0 0
  refine z_aload_n B dX12_setRate_0 rfl 0 rfl ?_
  refine z_iconst (v := 0) B dX12_setRate_1 rfl ?_
  obtain ⟨v_1, v_2, n_1, v_3, v_4, v_5, v_6, v_7, v_8, v_9, n_2, v_10, n_3, n_4, h_1, b_13, b_1, b_2, b_3, b_4, b_5, b_6, b_7, b_8, b_9, b_10, b_11, b_12⟩ := im0 hI
  replace b_1 : 1 ≤ n_1 := b_1
  replace b_2 : n_1 ≤ 1024 := b_2
  replace b_3 : fl ≤ 12 := b_3
  replace b_4 : 0 ≤ 24 := b_4
  replace b_5 : le ≤ 700 := b_5
  replace b_6 : qu ≤ 12 := b_6
  replace b_7 : n_2 ≤ 8 := b_7
  replace b_8 : n_3 ≤ 24 := b_8
  replace b_9 : n_4 ≤ 24 := b_9
  replace b_10 : il ≤ 700 := b_10
  replace b_11 : nx ≤ 701 := b_11
  replace b_12 : st ≤ 701 := b_12
  have h_2 : Φ x = some (o_ 14 [.int v_1, .ref (x + 1), .ref (x + 2), .int ti, .int v_2, .int (nI n_1), .int v_3, .int ad, .ref (x + 3), .ref (x + 4), .int v_4, .long v_5, .ref (x + 5), .int (nI fl), .int v_6, .long ob, .long v_7, .long v_8, .long v_9, .ref (x + 6), .ref (x + 7), .int (nI 0), .ref (x + 8), .int (nI le), .ref (x + 9), .ref (x + 10), .int (nI qu), .ref (x + 11), .ref (x + 12), .ref (x + 13), .ref (x + 14), .ref (x + 15), .ref (x + 16), .int (nI n_2), .long v_10, .ref (x + 17), .ref (x + 18), .ref (x + 19), .ref (x + 20), .ref (x + 21), .ref (x + 22), .int (nI n_3), .ref (x + 23), .ref (x + 24), .int (nI n_4), .ref (x + 25), .int (nI il), .int (nI nx), .int ec, .int ep, .int kn, .int (nI st), .int nu, .long va]) := h_1
  refine z_put (ref := "FlowExporterModel") (C := RX12) (T := TX12) (N := 54) (ci := 14) (v := .int 0) B hu_X12_setRate_X12 tyX12 tyX12_ok nmX12 rfl 0 (Nat.le_of_ble_eq_true rfl) hv_X12_setRate_1 rfl (Or.inl rfl) h_2 hx rfl rfl (Nat.le_of_ble_eq_true rfl) dX12_setRate_2 (fun Φ1 hΦ1 => ?_)
  have h_3 : Φ1 x = some (o_ 14 [.int 0, .ref (x + 1), .ref (x + 2), .int ti, .int v_2, .int (nI n_1), .int v_3, .int ad, .ref (x + 3), .ref (x + 4), .int v_4, .long v_5, .ref (x + 5), .int (nI fl), .int v_6, .long ob, .long v_7, .long v_8, .long v_9, .ref (x + 6), .ref (x + 7), .int (nI 0), .ref (x + 8), .int (nI le), .ref (x + 9), .ref (x + 10), .int (nI qu), .ref (x + 11), .ref (x + 12), .ref (x + 13), .ref (x + 14), .ref (x + 15), .ref (x + 16), .int (nI n_2), .long v_10, .ref (x + 17), .ref (x + 18), .ref (x + 19), .ref (x + 20), .ref (x + 21), .ref (x + 22), .int (nI n_3), .ref (x + 23), .ref (x + 24), .int (nI n_4), .ref (x + 25), .int (nI il), .int (nI nx), .int ec, .int ep, .int kn, .int (nI st), .int nu, .long va]) := fset_at hΦ1
  have hI1 : Im G x (rd, nw, fl, 0, le, nx, il, qu, kn, ec, nu, va, st, ep, ti, ad, ob) Φ1 := Im.put0 hI hΦ1 ⟨0, v_2, n_1, v_3, v_4, v_5, v_6, v_7, v_8, v_9, n_2, v_10, n_3, n_4, rfl, b_13, b_1, b_2, b_3, b_4, b_5, b_6, b_7, b_8, b_9, b_10, b_11, b_12⟩
  refine z_iload_n B dX12_setRate_5 rfl 1 rfl ?_
  refine z_i2l (v := a.toInt64) B dX12_setRate_6 rfl ?_
  refine z_lconst (v := 1) B dX12_setRate_7 rfl ?_
  refine z_ldc2 (v := 1024) B (by decide +kernel) dX12_setRate_8 ?_
  by_cases hR1 : inP a.toInt64 1 1024
  · obtain ⟨n_5, e_1, e_2, e_3, rfl⟩ := in_get (L := 1) (H := 1024) (by decide) (by decide) hR1
    refine z_callS (As := [.long ((nI n_5).toInt64), .long 1, .long 1024]) (rest := []) B (c_inR1 G l Φ1 sz ((nI n_5).toInt64) 1 1024 hR1 (fun v8 Φ8 sz8 => v8 = some (.int 1) ∧ sz8 = sz ∧ Im G x (rd, nw, fl, 0, le, nx, il, qu, kn, ec, nu, va, st, ep, ti, ad, ob) Φ8 ∧ Fr x (fun j9 => False) Φ1 Φ8) ⟨rfl, rfl, hI1, fun _ _ => rfl⟩) (va_cwS 3 B.1.2.2.2.2 gX12_setRate_X12_inRange rfl rfl rfl (by decide +kernel) ⟨Nat.le_of_ble_eq_true rfl, Nat.le_of_ble_eq_true rfl⟩) rfl rfl (Nat.le_of_ble_eq_true rfl) dX12_setRate_11 ⟨Nat.le_of_ble_eq_true rfl, Nat.le_of_ble_eq_true rfl⟩ (fun r_1 Φ2 sz1 st1 hp1 hs1 => ?_)
    obtain ⟨rfl, hq1, hI2, hF1⟩ := hp1
    subst sz1
    replace hs1 : st1 = [.int 1] := hs1
    subst st1
    refine z_if_ne (tgt := 19) B dX12_setRate_14 rfl (fun c_1 => ?_) (fun h9 => absurd h9 (by decide))
    refine z_aload_n B dX12_setRate_19 rfl 0 rfl ?_
    refine z_iload_n B dX12_setRate_20 rfl 1 rfl ?_
    have h_4 : Φ2 x = some (o_ 14 [.int 0, .ref (x + 1), .ref (x + 2), .int ti, .int v_2, .int (nI n_1), .int v_3, .int ad, .ref (x + 3), .ref (x + 4), .int v_4, .long v_5, .ref (x + 5), .int (nI fl), .int v_6, .long ob, .long v_7, .long v_8, .long v_9, .ref (x + 6), .ref (x + 7), .int (nI 0), .ref (x + 8), .int (nI le), .ref (x + 9), .ref (x + 10), .int (nI qu), .ref (x + 11), .ref (x + 12), .ref (x + 13), .ref (x + 14), .ref (x + 15), .ref (x + 16), .int (nI n_2), .long v_10, .ref (x + 17), .ref (x + 18), .ref (x + 19), .ref (x + 20), .ref (x + 21), .ref (x + 22), .int (nI n_3), .ref (x + 23), .ref (x + 24), .int (nI n_4), .ref (x + 25), .int (nI il), .int (nI nx), .int ec, .int ep, .int kn, .int (nI st), .int nu, .long va]) := ((hF1 x (fun j9 h8 h7 => (show False from h7).elim)).trans h_3)
    refine z_callV (As := [.int (nI n_5)]) (rest := []) B (r_changeRate G l Φ2 sz x rd nw fl 0 le nx il qu kn ec nu va st ep ti ad ob n_5 hx hI2 (show 1 ≤ n_5 by omega) (show n_5 ≤ 1024 by omega) (show 0 + fl ≤ 24 by omega) hnw) (cwV 1 B.1.2.2.2.2 gX12_setRate_X12_changeRate rfl rfl rfl (by decide +kernel) ⟨Nat.le_of_ble_eq_true rfl, Nat.le_of_ble_eq_true rfl⟩) h_4 rfl rfl rfl rfl (Nat.le_of_ble_eq_true rfl) dX12_setRate_21 ⟨Nat.le_of_ble_eq_true rfl, Nat.le_of_ble_eq_true rfl⟩ (fun r_2 Φ3 sz2 st2 hp2 hs2 => ?_)
    obtain ⟨⟨v_11, rfl⟩, hq2, ⟨n_6, n_7, b_14, b_15, hI3⟩, hF2⟩ := hp2
    subst sz2
    replace hs2 : st2 = [.int v_11] := hs2
    subst st2
    replace hI3 : Im G x (rd, nw, n_6, n_7, le, nx, il, qu, kn, ec, nu, va, st, ep, ti, ad, ob) Φ3 := hI3
    replace b_14 : n_6 ≤ fl := b_14
    replace b_15 : n_7 ≤ 0 + fl := b_15
    refine z_istore_n (lv' := [(2, .int v_11), (0, .ref x), (1, .int (nI n_5))]) B dX12_setRate_24 rfl (Nat.le_of_ble_eq_true rfl) rfl ?_
    refine z_aload_n B dX12_setRate_25 rfl 1 rfl ?_
    obtain ⟨v_12, v_13, n_8, v_14, v_15, v_16, v_17, v_18, v_19, v_20, n_9, v_21, n_10, n_11, h_5, b_28, b_16, b_17, b_18, b_19, b_20, b_21, b_22, b_23, b_24, b_25, b_26, b_27⟩ := im0 hI3
    replace b_16 : 1 ≤ n_8 := b_16
    replace b_17 : n_8 ≤ 1024 := b_17
    replace b_18 : n_6 ≤ 12 := b_18
    replace b_19 : n_7 ≤ 24 := b_19
    replace b_20 : le ≤ 700 := b_20
    replace b_21 : qu ≤ 12 := b_21
    replace b_22 : n_9 ≤ 8 := b_22
    replace b_23 : n_10 ≤ 24 := b_23
    replace b_24 : n_11 ≤ 24 := b_24
    replace b_25 : il ≤ 700 := b_25
    replace b_26 : nx ≤ 701 := b_26
    replace b_27 : st ≤ 701 := b_27
    have h_6 : Φ3 x = some (o_ 14 [.int v_12, .ref (x + 1), .ref (x + 2), .int ti, .int v_13, .int (nI n_8), .int v_14, .int ad, .ref (x + 3), .ref (x + 4), .int v_15, .long v_16, .ref (x + 5), .int (nI n_6), .int v_17, .long ob, .long v_18, .long v_19, .long v_20, .ref (x + 6), .ref (x + 7), .int (nI n_7), .ref (x + 8), .int (nI le), .ref (x + 9), .ref (x + 10), .int (nI qu), .ref (x + 11), .ref (x + 12), .ref (x + 13), .ref (x + 14), .ref (x + 15), .ref (x + 16), .int (nI n_9), .long v_21, .ref (x + 17), .ref (x + 18), .ref (x + 19), .ref (x + 20), .ref (x + 21), .ref (x + 22), .int (nI n_10), .ref (x + 23), .ref (x + 24), .int (nI n_11), .ref (x + 25), .int (nI il), .int (nI nx), .int ec, .int ep, .int kn, .int (nI st), .int nu, .long va]) := h_5
    refine z_callV (As := []) (rest := []) B (r_sendPending G l Φ3 sz x rd nw n_6 n_7 le nx il qu kn ec nu va st ep ti ad ob  hx hI3 hnw) (cwV 0 B.1.2.2.2.2 gX12_setRate_X12_sendPending rfl rfl rfl (by decide +kernel) ⟨Nat.le_of_ble_eq_true rfl, Nat.le_of_ble_eq_true rfl⟩) h_6 rfl rfl rfl rfl (Nat.le_of_ble_eq_true rfl) dX12_setRate_26 ⟨Nat.le_of_ble_eq_true rfl, Nat.le_of_ble_eq_true rfl⟩ (fun r_3 Φ4 sz3 st3 hp3 hs3 => ?_)
    obtain ⟨rfl, hq3, ⟨n_12, n_13, hI4⟩, hF3⟩ := hp3
    subst sz3
    replace hs3 : st3 = [] := hs3
    subst st3
    replace hI4 : Im G x (rd, nw, n_6, 0, n_12, nx, il, n_13, kn, ec, nu, va, st, ep, ti, ad, ob) Φ4 := hI4
    refine z_iload_n B dX12_setRate_29 rfl 0 rfl ?_
    exact z_ret_i B dX12_setRate_30 ⟨⟨_, rfl⟩, rfl, ⟨n_6, n_12, n_13, hI4⟩, (fun b9 h9 => ((hF3 b9 (fun j9 h8 h7 => h9 j9 h8 (fq_974 j9 h7))).trans ((hF2 b9 (fun j9 h8 h7 => h9 j9 h8 (fq_973 j9 h7))).trans ((hF1 b9 (fun j9 h8 h7 => (show False from h7).elim)).trans ((fset_fr hΦ1 (fun h8 => h9 (0) h8 (show 0 = 0 ∨ 0 = 3 ∨ 0 = 4 ∨ 0 = 5 ∨ 0 = 6 ∨ 0 = 7 ∨ 0 = 8 ∨ 0 = 9 ∨ 0 = 10 by decide))).trans rfl)))))⟩
  · have q_1 : ¬ (1 ≤ a.toInt ∧ a.toInt ≤ 1024) := fun h9 => hR1 ((inP_i (by decide) (by decide)).mpr h9)
    refine z_callS (As := [.long a.toInt64, .long 1, .long 1024]) (rest := []) B (c_inR0 G l Φ1 sz a.toInt64 1 1024 hR1 (fun v8 Φ8 sz8 => v8 = some (.int 0) ∧ sz8 = sz ∧ Im G x (rd, nw, fl, 0, le, nx, il, qu, kn, ec, nu, va, st, ep, ti, ad, ob) Φ8 ∧ Fr x (fun j9 => False) Φ1 Φ8) ⟨rfl, rfl, hI1, fun _ _ => rfl⟩) (va_cwS 3 B.1.2.2.2.2 gX12_setRate_X12_inRange rfl rfl rfl (by decide +kernel) ⟨Nat.le_of_ble_eq_true rfl, Nat.le_of_ble_eq_true rfl⟩) rfl rfl (Nat.le_of_ble_eq_true rfl) dX12_setRate_11 ⟨Nat.le_of_ble_eq_true rfl, Nat.le_of_ble_eq_true rfl⟩ (fun r_4 Φ5 sz4 st4 hp4 hs4 => ?_)
    obtain ⟨rfl, hq4, hI5, hF4⟩ := hp4
    subst sz4
    replace hs4 : st4 = [.int 0] := hs4
    subst st4
    refine z_if_ne (tgt := 19) B dX12_setRate_14 rfl (fun h9 => absurd (by decide) h9) (fun c_2 => ?_)
    refine z_iconst (v := (-1)) B dX12_setRate_17 rfl ?_
    exact z_ret_i B dX12_setRate_18 ⟨⟨_, rfl⟩, rfl, ⟨fl, le, qu, hI5⟩, (fun b9 h9 => ((hF4 b9 (fun j9 h8 h7 => (show False from h7).elim)).trans ((fset_fr hΦ1 (fun h8 => h9 (0) h8 (show 0 = 0 ∨ 0 = 3 ∨ 0 = 4 ∨ 0 = 5 ∨ 0 = 6 ∨ 0 = 7 ∨ 0 = 8 ∨ 0 = 9 ∨ 0 = 10 by decide))).trans rfl)))⟩

theorem hu_X12_flush_X12 : ∀ w ∈ u_ws RX12 TX12 54, w ∈ wsX12_flush := fun _ h => List.mem_cons_of_mem _ (List.mem_append_left _ (List.mem_append_right _ (h)))

theorem hv_X12_flush_1 : Cond.fieldLink RX12 1 "FlowExporterModel" (TX12 0).2.1 (TX12 0).2.2.1 ∈ wsX12_flush := List.mem_cons_of_mem _ (List.mem_append_left _ (List.mem_append_left _ (List.mem_append_left _ (List.mem_of_getElem? (i := 0) rfl))))

set_option maxHeartbeats 4000000 in
set_option maxRecDepth 100000 in
theorem r_flush (G : EnvG) (l : Launch) (Φ : Hm) (sz x : Nat) (rd : (Nat → Int32) → Prop) (nw : (Nat → Int32) → Prop) (fl : Nat) (le : Nat) (nx : Nat) (il : Nat) (qu : Nat) (kn : Int32) (ec : Int32) (nu : Int32) (va : Int64) (st : Nat) (ep : Int32) (ti : Int32) (ad : Int32) (ob : Int64)  (hx : G.2.2.2 ≤ x) (hI : Im G x (rd, nw, fl, 0, le, nx, il, qu, kn, ec, nu, va, st, ep, ti, ad, ob) Φ) (hnw : ∀ f9 : Nat → Int32, nw f9 → NN f9) : Ct G l yX12_flush wsX12_flush ({ frames := 6, cells := 0, slots := 0, locals := 139 }) 0 0 [.ref x] Φ sz (fun v Φ1 sz1 => (∃ r9 : Int32, v = some (.int r9)) ∧ sz1 = sz ∧ (∃ (fl1 : Nat) (le1 : Nat) (qu1 : Nat), Im G x (rd, nw, fl1, 0, le1, nx, il, qu1, kn, ec, nu, va, st, ep, ti, ad, ob) Φ1) ∧ Fr x (fun j9 => j9 = 0 ∨ j9 = 3 ∨ j9 = 4 ∨ j9 = 5 ∨ j9 = 6 ∨ j9 = 7 ∨ j9 = 8 ∨ j9 = 9 ∨ j9 = 10) Φ Φ1) := by
  refine Ct.of (cc := cX12_flush) (maxL := 2) (ret := (some .int)) (by decide) rfl (Nat.le_of_ble_eq_true rfl) ?_
  intro p9 e9 s9 m9 w9 t9 k9 B
  show Z p9 l e9 _ s9 m9 _ w9 t9 k9 _ G 2 0 [(0, .ref x)] [] Φ sz 0 0
  refine z_aload_n B dX12_flush_0 rfl 0 rfl ?_
  refine z_iconst (v := 0) B dX12_flush_1 rfl ?_
  obtain ⟨v_1, v_2, n_1, v_3, v_4, v_5, v_6, v_7, v_8, v_9, n_2, v_10, n_3, n_4, h_1, b_13, b_1, b_2, b_3, b_4, b_5, b_6, b_7, b_8, b_9, b_10, b_11, b_12⟩ := im0 hI
  replace b_1 : 1 ≤ n_1 := b_1
  replace b_2 : n_1 ≤ 1024 := b_2
  replace b_3 : fl ≤ 12 := b_3
  replace b_4 : 0 ≤ 24 := b_4
  replace b_5 : le ≤ 700 := b_5
  replace b_6 : qu ≤ 12 := b_6
  replace b_7 : n_2 ≤ 8 := b_7
  replace b_8 : n_3 ≤ 24 := b_8
  replace b_9 : n_4 ≤ 24 := b_9
  replace b_10 : il ≤ 700 := b_10
  replace b_11 : nx ≤ 701 := b_11
  replace b_12 : st ≤ 701 := b_12
  have h_2 : Φ x = some (o_ 14 [.int v_1, .ref (x + 1), .ref (x + 2), .int ti, .int v_2, .int (nI n_1), .int v_3, .int ad, .ref (x + 3), .ref (x + 4), .int v_4, .long v_5, .ref (x + 5), .int (nI fl), .int v_6, .long ob, .long v_7, .long v_8, .long v_9, .ref (x + 6), .ref (x + 7), .int (nI 0), .ref (x + 8), .int (nI le), .ref (x + 9), .ref (x + 10), .int (nI qu), .ref (x + 11), .ref (x + 12), .ref (x + 13), .ref (x + 14), .ref (x + 15), .ref (x + 16), .int (nI n_2), .long v_10, .ref (x + 17), .ref (x + 18), .ref (x + 19), .ref (x + 20), .ref (x + 21), .ref (x + 22), .int (nI n_3), .ref (x + 23), .ref (x + 24), .int (nI n_4), .ref (x + 25), .int (nI il), .int (nI nx), .int ec, .int ep, .int kn, .int (nI st), .int nu, .long va]) := h_1
  refine z_put (ref := "FlowExporterModel") (C := RX12) (T := TX12) (N := 54) (ci := 14) (v := .int 0) B hu_X12_flush_X12 tyX12 tyX12_ok nmX12 rfl 0 (Nat.le_of_ble_eq_true rfl) hv_X12_flush_1 rfl (Or.inl rfl) h_2 hx rfl rfl (Nat.le_of_ble_eq_true rfl) dX12_flush_2 (fun Φ1 hΦ1 => ?_)
  have h_3 : Φ1 x = some (o_ 14 [.int 0, .ref (x + 1), .ref (x + 2), .int ti, .int v_2, .int (nI n_1), .int v_3, .int ad, .ref (x + 3), .ref (x + 4), .int v_4, .long v_5, .ref (x + 5), .int (nI fl), .int v_6, .long ob, .long v_7, .long v_8, .long v_9, .ref (x + 6), .ref (x + 7), .int (nI 0), .ref (x + 8), .int (nI le), .ref (x + 9), .ref (x + 10), .int (nI qu), .ref (x + 11), .ref (x + 12), .ref (x + 13), .ref (x + 14), .ref (x + 15), .ref (x + 16), .int (nI n_2), .long v_10, .ref (x + 17), .ref (x + 18), .ref (x + 19), .ref (x + 20), .ref (x + 21), .ref (x + 22), .int (nI n_3), .ref (x + 23), .ref (x + 24), .int (nI n_4), .ref (x + 25), .int (nI il), .int (nI nx), .int ec, .int ep, .int kn, .int (nI st), .int nu, .long va]) := fset_at hΦ1
  have hI1 : Im G x (rd, nw, fl, 0, le, nx, il, qu, kn, ec, nu, va, st, ep, ti, ad, ob) Φ1 := Im.put0 hI hΦ1 ⟨0, v_2, n_1, v_3, v_4, v_5, v_6, v_7, v_8, v_9, n_2, v_10, n_3, n_4, rfl, b_13, b_1, b_2, b_3, b_4, b_5, b_6, b_7, b_8, b_9, b_10, b_11, b_12⟩
  refine z_aload_n B dX12_flush_5 rfl 0 rfl ?_
  refine z_callV (As := []) (rest := []) B (r_exportAll G l Φ1 sz x rd nw fl 0 le nx il qu kn ec nu va st ep ti ad ob  hx hI1 (show 0 + fl ≤ 24 by omega) hnw) (cwV 0 B.1.2.2.2.2 gX12_flush_X12_exportAll rfl rfl rfl (by decide +kernel) ⟨Nat.le_of_ble_eq_true rfl, Nat.le_of_ble_eq_true rfl⟩) h_3 rfl rfl rfl rfl (Nat.le_of_ble_eq_true rfl) dX12_flush_6 ⟨Nat.le_of_ble_eq_true rfl, Nat.le_of_ble_eq_true rfl⟩ (fun r_1 Φ2 sz1 st1 hp1 hs1 => ?_)
  obtain ⟨⟨v_11, rfl⟩, hq1, ⟨n_5, n_6, b_14, b_15, hI2⟩, hF1⟩ := hp1
  subst sz1
  replace hs1 : st1 = [.int v_11] := hs1
  subst st1
  replace hI2 : Im G x (rd, nw, n_5, n_6, le, nx, il, qu, kn, ec, nu, va, st, ep, ti, ad, ob) Φ2 := hI2
  replace b_14 : n_5 = 0 := b_14
  replace b_15 : n_6 ≤ 0 + fl := b_15
  refine z_istore_n (lv' := [(1, .int v_11), (0, .ref x)]) B dX12_flush_9 rfl (Nat.le_of_ble_eq_true rfl) rfl ?_
  refine z_aload_n B dX12_flush_10 rfl 1 rfl ?_
  obtain ⟨v_12, v_13, n_7, v_14, v_15, v_16, v_17, v_18, v_19, v_20, n_8, v_21, n_9, n_10, h_4, b_28, b_16, b_17, b_18, b_19, b_20, b_21, b_22, b_23, b_24, b_25, b_26, b_27⟩ := im0 hI2
  replace b_16 : 1 ≤ n_7 := b_16
  replace b_17 : n_7 ≤ 1024 := b_17
  replace b_18 : n_5 ≤ 12 := b_18
  replace b_19 : n_6 ≤ 24 := b_19
  replace b_20 : le ≤ 700 := b_20
  replace b_21 : qu ≤ 12 := b_21
  replace b_22 : n_8 ≤ 8 := b_22
  replace b_23 : n_9 ≤ 24 := b_23
  replace b_24 : n_10 ≤ 24 := b_24
  replace b_25 : il ≤ 700 := b_25
  replace b_26 : nx ≤ 701 := b_26
  replace b_27 : st ≤ 701 := b_27
  have h_5 : Φ2 x = some (o_ 14 [.int v_12, .ref (x + 1), .ref (x + 2), .int ti, .int v_13, .int (nI n_7), .int v_14, .int ad, .ref (x + 3), .ref (x + 4), .int v_15, .long v_16, .ref (x + 5), .int (nI n_5), .int v_17, .long ob, .long v_18, .long v_19, .long v_20, .ref (x + 6), .ref (x + 7), .int (nI n_6), .ref (x + 8), .int (nI le), .ref (x + 9), .ref (x + 10), .int (nI qu), .ref (x + 11), .ref (x + 12), .ref (x + 13), .ref (x + 14), .ref (x + 15), .ref (x + 16), .int (nI n_8), .long v_21, .ref (x + 17), .ref (x + 18), .ref (x + 19), .ref (x + 20), .ref (x + 21), .ref (x + 22), .int (nI n_9), .ref (x + 23), .ref (x + 24), .int (nI n_10), .ref (x + 25), .int (nI il), .int (nI nx), .int ec, .int ep, .int kn, .int (nI st), .int nu, .long va]) := h_4
  refine z_callV (As := []) (rest := []) B (r_sendPending G l Φ2 sz x rd nw n_5 n_6 le nx il qu kn ec nu va st ep ti ad ob  hx hI2 hnw) (cwV 0 B.1.2.2.2.2 gX12_flush_X12_sendPending rfl rfl rfl (by decide +kernel) ⟨Nat.le_of_ble_eq_true rfl, Nat.le_of_ble_eq_true rfl⟩) h_5 rfl rfl rfl rfl (Nat.le_of_ble_eq_true rfl) dX12_flush_11 ⟨Nat.le_of_ble_eq_true rfl, Nat.le_of_ble_eq_true rfl⟩ (fun r_2 Φ3 sz2 st2 hp2 hs2 => ?_)
  obtain ⟨rfl, hq2, ⟨n_11, n_12, hI3⟩, hF2⟩ := hp2
  subst sz2
  replace hs2 : st2 = [] := hs2
  subst st2
  replace hI3 : Im G x (rd, nw, n_5, 0, n_11, nx, il, n_12, kn, ec, nu, va, st, ep, ti, ad, ob) Φ3 := hI3
  refine z_iload_n B dX12_flush_14 rfl 0 rfl ?_
  exact z_ret_i B dX12_flush_15 ⟨⟨_, rfl⟩, rfl, ⟨n_5, n_11, n_12, hI3⟩, (fun b9 h9 => ((hF2 b9 (fun j9 h8 h7 => h9 j9 h8 (fq_974 j9 h7))).trans ((hF1 b9 (fun j9 h8 h7 => h9 j9 h8 (fq_973 j9 h7))).trans ((fset_fr hΦ1 (fun h8 => h9 (0) h8 (show 0 = 0 ∨ 0 = 3 ∨ 0 = 4 ∨ 0 = 5 ∨ 0 = 6 ∨ 0 = 7 ∨ 0 = 8 ∨ 0 = 9 ∨ 0 = 10 by decide))).trans rfl))))⟩

theorem hu_X12_isOver_X12 : ∀ w ∈ u_ws RX12 TX12 54, w ∈ wsX12_isOver := fun _ h => List.mem_cons_of_mem _ (List.mem_append_left _ (List.mem_append_right _ (h)))

theorem hv_X12_isOver_101 : Cond.fieldLink RX12 101 "FlowExporterModel" (TX12 3).2.1 (TX12 3).2.2.1 ∈ wsX12_isOver := List.mem_cons_of_mem _ (List.mem_append_left _ (List.mem_append_left _ (List.mem_of_getElem? (i := 0) rfl)))

theorem hv_X12_isOver_26 : Cond.fieldLink RX12 26 "FlowExporterModel" (TX12 12).2.1 (TX12 12).2.2.1 ∈ wsX12_isOver := List.mem_cons_of_mem _ (List.mem_append_left _ (List.mem_append_left _ (List.mem_of_getElem? (i := 1) rfl)))

theorem hv_X12_isOver_17 : Cond.fieldLink RX12 17 "FlowExporterModel" (TX12 2).2.1 (TX12 2).2.2.1 ∈ wsX12_isOver := List.mem_cons_of_mem _ (List.mem_append_left _ (List.mem_append_left _ (List.mem_of_getElem? (i := 2) rfl)))

set_option maxHeartbeats 4000000 in
set_option maxRecDepth 100000 in
theorem r_isOver (G : EnvG) (l : Launch) (Φ : Hm) (sz x : Nat) (rd : (Nat → Int32) → Prop) (nw : (Nat → Int32) → Prop) (fl : Nat) (pe : Nat) (le : Nat) (nx : Nat) (il : Nat) (qu : Nat) (kn : Int32) (ec : Int32) (nu : Int32) (va : Int64) (st : Nat) (ep : Int32) (ti : Int32) (ad : Int32) (ob : Int64) (f : Nat) (hx : G.2.2.2 ≤ x) (hI : Im G x (rd, nw, fl, pe, le, nx, il, qu, kn, ec, nu, va, st, ep, ti, ad, ob) Φ) (hf : f < 12) (hnw : ∀ f9 : Nat → Int32, nw f9 → NN f9) : Ct G l yX12_isOver wsX12_isOver ({ frames := 0, cells := 0, slots := 0, locals := 0 }) 0 0 [.ref x, .int (nI f)] Φ sz (fun v Φ1 sz1 => (∃ r9 : Int32, v = some (.int r9) ∧ (r9 = 0 ∨ r9 = 1)) ∧ sz1 = sz ∧ (Im G x (rd, nw, fl, pe, le, nx, il, qu, kn, ec, nu, va, st, ep, ti, ad, ob) Φ1) ∧ Fr x (fun j9 => False) Φ Φ1) := by
  refine Ct.of (cc := cX12_isOver) (maxL := 2) (ret := (some .boolean)) (by decide) rfl (Nat.le_of_ble_eq_true rfl) ?_
  intro p9 e9 s9 m9 w9 t9 k9 B
  show Z p9 l e9 _ s9 m9 _ w9 t9 k9 _ G 2 0 [(0, .ref x), (1, .int (nI f))] [] Φ sz 0 0
  refine z_aload_n B dX12_isOver_0 rfl 0 rfl ?_
  obtain ⟨v_1, v_2, n_1, v_3, v_4, v_5, v_6, v_7, v_8, v_9, n_2, v_10, n_3, n_4, h_1, b_13, b_1, b_2, b_3, b_4, b_5, b_6, b_7, b_8, b_9, b_10, b_11, b_12⟩ := im0 hI
  replace b_1 : 1 ≤ n_1 := b_1
  replace b_2 : n_1 ≤ 1024 := b_2
  replace b_3 : fl ≤ 12 := b_3
  replace b_4 : pe ≤ 24 := b_4
  replace b_5 : le ≤ 700 := b_5
  replace b_6 : qu ≤ 12 := b_6
  replace b_7 : n_2 ≤ 8 := b_7
  replace b_8 : n_3 ≤ 24 := b_8
  replace b_9 : n_4 ≤ 24 := b_9
  replace b_10 : il ≤ 700 := b_10
  replace b_11 : nx ≤ 701 := b_11
  replace b_12 : st ≤ 701 := b_12
  have h_2 : Φ x = some (o_ 14 [.int v_1, .ref (x + 1), .ref (x + 2), .int ti, .int v_2, .int (nI n_1), .int v_3, .int ad, .ref (x + 3), .ref (x + 4), .int v_4, .long v_5, .ref (x + 5), .int (nI fl), .int v_6, .long ob, .long v_7, .long v_8, .long v_9, .ref (x + 6), .ref (x + 7), .int (nI pe), .ref (x + 8), .int (nI le), .ref (x + 9), .ref (x + 10), .int (nI qu), .ref (x + 11), .ref (x + 12), .ref (x + 13), .ref (x + 14), .ref (x + 15), .ref (x + 16), .int (nI n_2), .long v_10, .ref (x + 17), .ref (x + 18), .ref (x + 19), .ref (x + 20), .ref (x + 21), .ref (x + 22), .int (nI n_3), .ref (x + 23), .ref (x + 24), .int (nI n_4), .ref (x + 25), .int (nI il), .int (nI nx), .int ec, .int ep, .int kn, .int (nI st), .int nu, .long va]) := h_1
  refine z_get (ref := "FlowExporterModel") (C := RX12) (T := TX12) (N := 54) (ci := 14) (v := .int ti) B hu_X12_isOver_X12 rfl 3 (Nat.le_of_ble_eq_true rfl) hv_X12_isOver_101 rfl h_2 rfl dX12_isOver_1 ?_
  refine z_i2l (v := ti.toInt64) B dX12_isOver_4 rfl ?_
  refine z_aload_n B dX12_isOver_5 rfl 0 rfl ?_
  refine z_get (ref := "FlowExporterModel") (C := RX12) (T := TX12) (N := 54) (ci := 14) (v := .ref (x + 5)) B hu_X12_isOver_X12 rfl 12 (Nat.le_of_ble_eq_true rfl) hv_X12_isOver_26 rfl h_2 rfl dX12_isOver_6 ?_
  refine z_bipush (v := 8) B dX12_isOver_9 rfl ?_
  refine z_iload_n B dX12_isOver_11 rfl 1 rfl ?_
  refine z_imul B dX12_isOver_12 ?_
  refine z_top (st1 := [.int (nI (8 * f)), .ref (x + 5), .long ti.toInt64]) (congrArg (fun w9 : Int32 => ([.int w9, .ref (x + 5), .long ti.toInt64] : List Value)) (nI_mul 8 f)) ?_
  refine z_bipush (v := 6) B dX12_isOver_13 rfl ?_
  refine z_iadd B dX12_isOver_15 ?_
  refine z_top (st1 := [.int (nI (8 * f + 6)), .ref (x + 5), .long ti.toInt64]) (congrArg (fun w9 : Int32 => ([.int w9, .ref (x + 5), .long ti.toInt64] : List Value)) (nI_add (8 * f) 6)) ?_
  obtain ⟨f_1, h_3, r_1⟩ := imk (k := 5) hI
  replace r_1 : CC f_1 := r_1
  have h_4 : Φ (x + 5) = some (al_ G 96 f_1) := h_3
  refine z_lald B h_4 (vp_in_nI (by omega) (by omega)) dX12_isOver_16 ?_
  refine z_fl (fun v_11 => ?_)
  refine z_lsub B dX12_isOver_17 ?_
  refine z_fl (fun v_12 => ?_)
  refine z_aload_n B dX12_isOver_18 rfl 0 rfl ?_
  refine z_get (ref := "FlowExporterModel") (C := RX12) (T := TX12) (N := 54) (ci := 14) (v := .ref (x + 2)) B hu_X12_isOver_X12 rfl 2 (Nat.le_of_ble_eq_true rfl) hv_X12_isOver_17 rfl h_2 rfl dX12_isOver_19 ?_
  refine z_iconst (v := 2) B dX12_isOver_22 rfl ?_
  obtain ⟨f_2, h_5, r_2⟩ := imk (k := 2) hI
  replace r_2 : nw f_2 := r_2
  have r_3 : NN f_2 := hnw f_2 r_2
  have h_6 : Φ (x + 2) = some (ai_ G 307 f_2) := h_5
  refine z_iald B h_6 (vin rfl) dX12_isOver_23 ?_
  refine z_fi (fun v_13 => ?_)
  refine z_i2l (v := v_13.toInt64) B dX12_isOver_24 rfl ?_
  refine z_lcmp B dX12_isOver_25 ?_
  refine z_fi (fun v_14 => ?_)
  refine z_if_ge (tgt := 58) B dX12_isOver_26 rfl (fun c_1 => ?_) (fun c_1 => ?_)
  · obtain ⟨n_5, e_1, rfl⟩ := nI_of (Int32.not_lt.mpr c_1)
    refine z_iconst (v := 1) B dX12_isOver_58 rfl ?_
    refine z_goto (tgt := 63) B dX12_isOver_59 rfl ?_
    exact z_ret_z B dX12_isOver_63 (by decide) ⟨⟨_, rfl, by decide⟩, rfl, hI, (fun b9 h9 => rfl)⟩
  · refine z_aload_n B dX12_isOver_29 rfl 0 rfl ?_
    refine z_get (ref := "FlowExporterModel") (C := RX12) (T := TX12) (N := 54) (ci := 14) (v := .int ti) B hu_X12_isOver_X12 rfl 3 (Nat.le_of_ble_eq_true rfl) hv_X12_isOver_101 rfl h_2 rfl dX12_isOver_30 ?_
    refine z_i2l (v := ti.toInt64) B dX12_isOver_33 rfl ?_
    refine z_aload_n B dX12_isOver_34 rfl 0 rfl ?_
    refine z_get (ref := "FlowExporterModel") (C := RX12) (T := TX12) (N := 54) (ci := 14) (v := .ref (x + 5)) B hu_X12_isOver_X12 rfl 12 (Nat.le_of_ble_eq_true rfl) hv_X12_isOver_26 rfl h_2 rfl dX12_isOver_35 ?_
    refine z_bipush (v := 8) B dX12_isOver_38 rfl ?_
    refine z_iload_n B dX12_isOver_40 rfl 1 rfl ?_
    refine z_imul B dX12_isOver_41 ?_
    refine z_top (st1 := [.int (nI (8 * f)), .ref (x + 5), .long ti.toInt64]) (congrArg (fun w9 : Int32 => ([.int w9, .ref (x + 5), .long ti.toInt64] : List Value)) (nI_mul 8 f)) ?_
    refine z_bipush (v := 7) B dX12_isOver_42 rfl ?_
    refine z_iadd B dX12_isOver_44 ?_
    refine z_top (st1 := [.int (nI (8 * f + 7)), .ref (x + 5), .long ti.toInt64]) (congrArg (fun w9 : Int32 => ([.int w9, .ref (x + 5), .long ti.toInt64] : List Value)) (nI_add (8 * f) 7)) ?_
    refine z_lald B h_4 (vp_in_nI (by omega) (by omega)) dX12_isOver_45 ?_
    refine z_fl (fun v_15 => ?_)
    refine z_lsub B dX12_isOver_46 ?_
    refine z_fl (fun v_16 => ?_)
    refine z_aload_n B dX12_isOver_47 rfl 0 rfl ?_
    refine z_get (ref := "FlowExporterModel") (C := RX12) (T := TX12) (N := 54) (ci := 14) (v := .ref (x + 2)) B hu_X12_isOver_X12 rfl 2 (Nat.le_of_ble_eq_true rfl) hv_X12_isOver_17 rfl h_2 rfl dX12_isOver_48 ?_
    refine z_iconst (v := 3) B dX12_isOver_51 rfl ?_
    refine z_iald B h_6 (vin rfl) dX12_isOver_52 ?_
    refine z_fi (fun v_17 => ?_)
    refine z_i2l (v := v_17.toInt64) B dX12_isOver_53 rfl ?_
    refine z_lcmp B dX12_isOver_54 ?_
    refine z_fi (fun v_18 => ?_)
    refine z_if_lt (tgt := 62) B dX12_isOver_55 rfl (fun c_2 => ?_) (fun c_2 => ?_)
    · refine z_iconst (v := 0) B dX12_isOver_62 rfl ?_
      exact z_ret_z B dX12_isOver_63 (by decide) ⟨⟨_, rfl, by decide⟩, rfl, hI, (fun b9 h9 => rfl)⟩
    · obtain ⟨n_6, e_2, rfl⟩ := nI_of c_2
      refine z_iconst (v := 1) B dX12_isOver_58 rfl ?_
      refine z_goto (tgt := 63) B dX12_isOver_59 rfl ?_
      exact z_ret_z B dX12_isOver_63 (by decide) ⟨⟨_, rfl, by decide⟩, rfl, hI, (fun b9 h9 => rfl)⟩

theorem hu_X12_adapt_X12 : ∀ w ∈ u_ws RX12 TX12 54, w ∈ wsX12_adapt := fun _ h => List.mem_cons_of_mem _ (List.mem_append_left _ (List.mem_append_right _ (h)))

theorem hv_X12_adapt_114 : Cond.fieldLink RX12 114 "FlowExporterModel" (TX12 6).2.1 (TX12 6).2.2.1 ∈ wsX12_adapt := List.mem_cons_of_mem _ (List.mem_append_left _ (List.mem_append_left _ (List.mem_append_left _ (List.mem_of_getElem? (i := 0) rfl))))

theorem hv_X12_adapt_110 : Cond.fieldLink RX12 110 "FlowExporterModel" (TX12 7).2.1 (TX12 7).2.2.1 ∈ wsX12_adapt := List.mem_cons_of_mem _ (List.mem_append_left _ (List.mem_append_left _ (List.mem_append_left _ (List.mem_of_getElem? (i := 1) rfl))))

theorem hv_X12_adapt_17 : Cond.fieldLink RX12 17 "FlowExporterModel" (TX12 2).2.1 (TX12 2).2.2.1 ∈ wsX12_adapt := List.mem_cons_of_mem _ (List.mem_append_left _ (List.mem_append_left _ (List.mem_append_left _ (List.mem_of_getElem? (i := 2) rfl))))

theorem hv_X12_adapt_107 : Cond.fieldLink RX12 107 "FlowExporterModel" (TX12 5).2.1 (TX12 5).2.2.1 ∈ wsX12_adapt := List.mem_cons_of_mem _ (List.mem_append_left _ (List.mem_append_left _ (List.mem_append_left _ (List.mem_of_getElem? (i := 3) rfl))))

set_option maxHeartbeats 4000000 in
set_option maxRecDepth 100000 in
theorem r_adapt (G : EnvG) (l : Launch) (Φ : Hm) (sz x : Nat) (rd : (Nat → Int32) → Prop) (nw : (Nat → Int32) → Prop) (fl : Nat) (pe : Nat) (le : Nat) (nx : Nat) (il : Nat) (qu : Nat) (kn : Int32) (ec : Int32) (nu : Int32) (va : Int64) (st : Nat) (ep : Int32) (ti : Int32) (ad : Int32) (ob : Int64)  (hx : G.2.2.2 ≤ x) (hI : Im G x (rd, nw, fl, pe, le, nx, il, qu, kn, ec, nu, va, st, ep, ti, ad, ob) Φ) (hp : pe + fl ≤ 24) (hnw : ∀ f9 : Nat → Int32, nw f9 → NN f9) : Ct G l yX12_adapt wsX12_adapt ({ frames := 7, cells := 0, slots := 0, locals := 154 }) 0 0 [.ref x] Φ sz (fun v Φ1 sz1 => (∃ r9 : Int32, v = some (.int r9)) ∧ sz1 = sz ∧ (∃ (fl1 : Nat) (pe1 : Nat), (fl1 ≤ fl) ∧ (pe1 ≤ pe + fl) ∧ Im G x (rd, nw, fl1, pe1, le, nx, il, qu, kn, ec, nu, va, st, ep, ti, ad, ob) Φ1) ∧ Fr x (fun j9 => j9 = 0 ∨ j9 = 5 ∨ j9 = 6 ∨ j9 = 7) Φ Φ1) := by
  refine Ct.of (cc := cX12_adapt) (maxL := 2) (ret := (some .int)) (by decide) rfl (Nat.le_of_ble_eq_true rfl) ?_
  intro p9 e9 s9 m9 w9 t9 k9 B
  show Z p9 l e9 _ s9 m9 _ w9 t9 k9 _ G 2 0 [(0, .ref x)] [] Φ sz 0 0
  refine z_aload_n B dX12_adapt_0 rfl 0 rfl ?_
  obtain ⟨v_1, v_2, n_1, v_3, v_4, v_5, v_6, v_7, v_8, v_9, n_2, v_10, n_3, n_4, h_1, b_13, b_1, b_2, b_3, b_4, b_5, b_6, b_7, b_8, b_9, b_10, b_11, b_12⟩ := im0 hI
  replace b_1 : 1 ≤ n_1 := b_1
  replace b_2 : n_1 ≤ 1024 := b_2
  replace b_3 : fl ≤ 12 := b_3
  replace b_4 : pe ≤ 24 := b_4
  replace b_5 : le ≤ 700 := b_5
  replace b_6 : qu ≤ 12 := b_6
  replace b_7 : n_2 ≤ 8 := b_7
  replace b_8 : n_3 ≤ 24 := b_8
  replace b_9 : n_4 ≤ 24 := b_9
  replace b_10 : il ≤ 700 := b_10
  replace b_11 : nx ≤ 701 := b_11
  replace b_12 : st ≤ 701 := b_12
  have h_2 : Φ x = some (o_ 14 [.int v_1, .ref (x + 1), .ref (x + 2), .int ti, .int v_2, .int (nI n_1), .int v_3, .int ad, .ref (x + 3), .ref (x + 4), .int v_4, .long v_5, .ref (x + 5), .int (nI fl), .int v_6, .long ob, .long v_7, .long v_8, .long v_9, .ref (x + 6), .ref (x + 7), .int (nI pe), .ref (x + 8), .int (nI le), .ref (x + 9), .ref (x + 10), .int (nI qu), .ref (x + 11), .ref (x + 12), .ref (x + 13), .ref (x + 14), .ref (x + 15), .ref (x + 16), .int (nI n_2), .long v_10, .ref (x + 17), .ref (x + 18), .ref (x + 19), .ref (x + 20), .ref (x + 21), .ref (x + 22), .int (nI n_3), .ref (x + 23), .ref (x + 24), .int (nI n_4), .ref (x + 25), .int (nI il), .int (nI nx), .int ec, .int ep, .int kn, .int (nI st), .int nu, .long va]) := h_1
  refine z_get (ref := "FlowExporterModel") (C := RX12) (T := TX12) (N := 54) (ci := 14) (v := .int v_3) B hu_X12_adapt_X12 rfl 6 (Nat.le_of_ble_eq_true rfl) hv_X12_adapt_114 rfl h_2 rfl dX12_adapt_1 ?_
  refine z_istore_n (lv' := [(1, .int v_3), (0, .ref x)]) B dX12_adapt_4 rfl (Nat.le_of_ble_eq_true rfl) rfl ?_
  refine z_aload_n B dX12_adapt_5 rfl 1 rfl ?_
  refine z_iconst (v := 0) B dX12_adapt_6 rfl ?_
  refine z_put (ref := "FlowExporterModel") (C := RX12) (T := TX12) (N := 54) (ci := 14) (v := .int 0) B hu_X12_adapt_X12 tyX12 tyX12_ok nmX12 rfl 6 (Nat.le_of_ble_eq_true rfl) hv_X12_adapt_114 rfl (Or.inl rfl) h_2 hx rfl rfl (Nat.le_of_ble_eq_true rfl) dX12_adapt_7 (fun Φ1 hΦ1 => ?_)
  have h_3 : Φ1 x = some (o_ 14 [.int v_1, .ref (x + 1), .ref (x + 2), .int ti, .int v_2, .int (nI n_1), .int 0, .int ad, .ref (x + 3), .ref (x + 4), .int v_4, .long v_5, .ref (x + 5), .int (nI fl), .int v_6, .long ob, .long v_7, .long v_8, .long v_9, .ref (x + 6), .ref (x + 7), .int (nI pe), .ref (x + 8), .int (nI le), .ref (x + 9), .ref (x + 10), .int (nI qu), .ref (x + 11), .ref (x + 12), .ref (x + 13), .ref (x + 14), .ref (x + 15), .ref (x + 16), .int (nI n_2), .long v_10, .ref (x + 17), .ref (x + 18), .ref (x + 19), .ref (x + 20), .ref (x + 21), .ref (x + 22), .int (nI n_3), .ref (x + 23), .ref (x + 24), .int (nI n_4), .ref (x + 25), .int (nI il), .int (nI nx), .int ec, .int ep, .int kn, .int (nI st), .int nu, .long va]) := fset_at hΦ1
  have hI1 : Im G x (rd, nw, fl, pe, le, nx, il, qu, kn, ec, nu, va, st, ep, ti, ad, ob) Φ1 := Im.put0 hI hΦ1 ⟨v_1, v_2, n_1, 0, v_4, v_5, v_6, v_7, v_8, v_9, n_2, v_10, n_3, n_4, rfl, b_13, b_1, b_2, b_3, b_4, b_5, b_6, b_7, b_8, b_9, b_10, b_11, b_12⟩
  refine z_aload_n B dX12_adapt_10 rfl 1 rfl ?_
  refine z_get (ref := "FlowExporterModel") (C := RX12) (T := TX12) (N := 54) (ci := 14) (v := .int ad) B hu_X12_adapt_X12 rfl 7 (Nat.le_of_ble_eq_true rfl) hv_X12_adapt_110 rfl h_3 rfl dX12_adapt_11 ?_
  refine z_if_ne (tgt := 19) B dX12_adapt_14 rfl (fun c_1 => ?_) (fun c_1 => ?_)
  · refine z_iload_n B dX12_adapt_19 rfl 0 rfl ?_
    refine z_aload_n B dX12_adapt_20 rfl 1 rfl ?_
    refine z_get (ref := "FlowExporterModel") (C := RX12) (T := TX12) (N := 54) (ci := 14) (v := .ref (x + 2)) B hu_X12_adapt_X12 rfl 2 (Nat.le_of_ble_eq_true rfl) hv_X12_adapt_17 rfl h_3 rfl dX12_adapt_21 ?_
    refine z_iconst (v := 1) B dX12_adapt_24 rfl ?_
    obtain ⟨f_1, h_4, r_1⟩ := imk (k := 2) hI1
    replace r_1 : nw f_1 := r_1
    have r_2 : NN f_1 := hnw f_1 r_1
    have h_5 : Φ1 (x + 2) = some (ai_ G 307 f_1) := h_4
    refine z_iald B h_5 (vin rfl) dX12_adapt_25 ?_
    refine z_fi (fun v_11 => ?_)
    refine z_icmp_le (tgt := 50) B dX12_adapt_26 rfl (fun c_2 => ?_) (fun c_2 => ?_)
    · refine z_iconst (v := 2) B dX12_adapt_50 rfl ?_
      refine z_iload_n B dX12_adapt_51 rfl 0 rfl ?_
      refine z_imul B dX12_adapt_52 ?_
      refine z_fi (fun v_12 => ?_)
      refine z_aload_n B dX12_adapt_53 rfl 1 rfl ?_
      refine z_get (ref := "FlowExporterModel") (C := RX12) (T := TX12) (N := 54) (ci := 14) (v := .ref (x + 2)) B hu_X12_adapt_X12 rfl 2 (Nat.le_of_ble_eq_true rfl) hv_X12_adapt_17 rfl h_3 rfl dX12_adapt_54 ?_
      refine z_iconst (v := 1) B dX12_adapt_57 rfl ?_
      refine z_iald B h_5 (vin rfl) dX12_adapt_58 ?_
      refine z_fi (fun v_13 => ?_)
      refine z_icmp_ge (tgt := 83) B dX12_adapt_59 rfl (fun c_3 => ?_) (fun c_3 => ?_)
      · refine z_iconst (v := 0) B dX12_adapt_83 rfl ?_
        exact z_ret_i B dX12_adapt_84 ⟨⟨_, rfl⟩, rfl, ⟨fl, pe, (show fl ≤ fl by omega), (show pe ≤ pe + fl by omega), hI1⟩, (fun b9 h9 => ((fset_fr hΦ1 (fun h8 => h9 (0) h8 (show 0 = 0 ∨ 0 = 5 ∨ 0 = 6 ∨ 0 = 7 by decide))).trans rfl))⟩
      · refine z_aload_n B dX12_adapt_62 rfl 1 rfl ?_
        refine z_get (ref := "FlowExporterModel") (C := RX12) (T := TX12) (N := 54) (ci := 14) (v := .int (nI n_1)) B hu_X12_adapt_X12 rfl 5 (Nat.le_of_ble_eq_true rfl) hv_X12_adapt_107 rfl h_3 rfl dX12_adapt_63 ?_
        refine z_iconst (v := 2) B dX12_adapt_66 rfl ?_
        refine z_icmp_lt (tgt := 83) B dX12_adapt_67 rfl (fun c_4 => ?_) (fun c_4 => ?_)
        · have e_1 : n_1 < 2 := (nI_ltI (a := n_1) (b := 2) (by omega) (by omega)).mp c_4
          refine z_iconst (v := 0) B dX12_adapt_83 rfl ?_
          exact z_ret_i B dX12_adapt_84 ⟨⟨_, rfl⟩, rfl, ⟨fl, pe, (show fl ≤ fl by omega), (show pe ≤ pe + fl by omega), hI1⟩, (fun b9 h9 => ((fset_fr hΦ1 (fun h8 => h9 (0) h8 (show 0 = 0 ∨ 0 = 5 ∨ 0 = 6 ∨ 0 = 7 by decide))).trans rfl))⟩
        · have e_2 : ¬ (n_1 < 2) := fun h9 => c_4 ((nI_ltI (a := n_1) (b := 2) (by omega) (by omega)).mpr h9)
          refine z_aload_n B dX12_adapt_70 rfl 1 rfl ?_
          refine z_aload_n B dX12_adapt_71 rfl 1 rfl ?_
          refine z_get (ref := "FlowExporterModel") (C := RX12) (T := TX12) (N := 54) (ci := 14) (v := .int (nI n_1)) B hu_X12_adapt_X12 rfl 5 (Nat.le_of_ble_eq_true rfl) hv_X12_adapt_107 rfl h_3 rfl dX12_adapt_72 ?_
          refine z_iconst (v := 2) B dX12_adapt_75 rfl ?_
          refine z_idiv B dX12_adapt_76 (by decide) ?_
          refine z_top (st1 := [.int (nI (n_1 / 2)), .ref x]) (congrArg (fun w9 : Int32 => ([.int w9, .ref x] : List Value)) (pk_div (d := 2) (show n_1 < 2 ^ 31 by omega) (by decide) (by decide))) ?_
          refine z_callV (As := [.int (nI (n_1 / 2))]) (rest := []) B (r_changeRate G l Φ1 sz x rd nw fl pe le nx il qu kn ec nu va st ep ti ad ob (n_1 / 2) hx hI1 (show 1 ≤ (n_1 / 2) by omega) (show (n_1 / 2) ≤ 1024 by omega) (show pe + fl ≤ 24 by omega) hnw) (cwV 1 B.1.2.2.2.2 gX12_adapt_X12_changeRate rfl rfl rfl (by decide +kernel) ⟨Nat.le_of_ble_eq_true rfl, Nat.le_of_ble_eq_true rfl⟩) h_3 rfl rfl rfl rfl (Nat.le_of_ble_eq_true rfl) dX12_adapt_77 ⟨Nat.le_of_ble_eq_true rfl, Nat.le_of_ble_eq_true rfl⟩ (fun r_3 Φ2 sz1 st1 hp1 hs1 => ?_)
          obtain ⟨⟨v_14, rfl⟩, hq1, ⟨n_5, n_6, b_14, b_15, hI2⟩, hF1⟩ := hp1
          subst sz1
          replace hs1 : st1 = [.int v_14] := hs1
          subst st1
          replace hI2 : Im G x (rd, nw, n_5, n_6, le, nx, il, qu, kn, ec, nu, va, st, ep, ti, ad, ob) Φ2 := hI2
          replace b_14 : n_5 ≤ fl := b_14
          replace b_15 : n_6 ≤ pe + fl := b_15
          refine z_goto (tgt := 84) B dX12_adapt_80 rfl ?_
          exact z_ret_i B dX12_adapt_84 ⟨⟨_, rfl⟩, rfl, ⟨n_5, n_6, (show n_5 ≤ fl by omega), (show n_6 ≤ pe + fl by omega), hI2⟩, (fun b9 h9 => ((hF1 b9 h9).trans ((fset_fr hΦ1 (fun h8 => h9 (0) h8 (show 0 = 0 ∨ 0 = 5 ∨ 0 = 6 ∨ 0 = 7 by decide))).trans rfl)))⟩
    · refine z_aload_n B dX12_adapt_29 rfl 1 rfl ?_
      refine z_get (ref := "FlowExporterModel") (C := RX12) (T := TX12) (N := 54) (ci := 14) (v := .int (nI n_1)) B hu_X12_adapt_X12 rfl 5 (Nat.le_of_ble_eq_true rfl) hv_X12_adapt_107 rfl h_3 rfl dX12_adapt_30 ?_
      refine z_sipush (v := 512) B dX12_adapt_33 rfl ?_
      refine z_icmp_gt (tgt := 50) B dX12_adapt_36 rfl (fun c_5 => ?_) (fun c_5 => ?_)
      · have e_3 : 512 < n_1 := (nI_ltI (a := 512) (b := n_1) (by omega) (by omega)).mp c_5
        refine z_iconst (v := 2) B dX12_adapt_50 rfl ?_
        refine z_iload_n B dX12_adapt_51 rfl 0 rfl ?_
        refine z_imul B dX12_adapt_52 ?_
        refine z_fi (fun v_15 => ?_)
        refine z_aload_n B dX12_adapt_53 rfl 1 rfl ?_
        refine z_get (ref := "FlowExporterModel") (C := RX12) (T := TX12) (N := 54) (ci := 14) (v := .ref (x + 2)) B hu_X12_adapt_X12 rfl 2 (Nat.le_of_ble_eq_true rfl) hv_X12_adapt_17 rfl h_3 rfl dX12_adapt_54 ?_
        refine z_iconst (v := 1) B dX12_adapt_57 rfl ?_
        refine z_iald B h_5 (vin rfl) dX12_adapt_58 ?_
        refine z_fi (fun v_16 => ?_)
        refine z_icmp_ge (tgt := 83) B dX12_adapt_59 rfl (fun c_6 => ?_) (fun c_6 => ?_)
        · refine z_iconst (v := 0) B dX12_adapt_83 rfl ?_
          exact z_ret_i B dX12_adapt_84 ⟨⟨_, rfl⟩, rfl, ⟨fl, pe, (show fl ≤ fl by omega), (show pe ≤ pe + fl by omega), hI1⟩, (fun b9 h9 => ((fset_fr hΦ1 (fun h8 => h9 (0) h8 (show 0 = 0 ∨ 0 = 5 ∨ 0 = 6 ∨ 0 = 7 by decide))).trans rfl))⟩
        · refine z_aload_n B dX12_adapt_62 rfl 1 rfl ?_
          refine z_get (ref := "FlowExporterModel") (C := RX12) (T := TX12) (N := 54) (ci := 14) (v := .int (nI n_1)) B hu_X12_adapt_X12 rfl 5 (Nat.le_of_ble_eq_true rfl) hv_X12_adapt_107 rfl h_3 rfl dX12_adapt_63 ?_
          refine z_iconst (v := 2) B dX12_adapt_66 rfl ?_
          refine z_icmp_lt (tgt := 83) B dX12_adapt_67 rfl (fun c_7 => ?_) (fun c_7 => ?_)
          · have e_4 : n_1 < 2 := (nI_ltI (a := n_1) (b := 2) (by omega) (by omega)).mp c_7
            refine z_iconst (v := 0) B dX12_adapt_83 rfl ?_
            exact z_ret_i B dX12_adapt_84 ⟨⟨_, rfl⟩, rfl, ⟨fl, pe, (show fl ≤ fl by omega), (show pe ≤ pe + fl by omega), hI1⟩, (fun b9 h9 => ((fset_fr hΦ1 (fun h8 => h9 (0) h8 (show 0 = 0 ∨ 0 = 5 ∨ 0 = 6 ∨ 0 = 7 by decide))).trans rfl))⟩
          · have e_5 : ¬ (n_1 < 2) := fun h9 => c_7 ((nI_ltI (a := n_1) (b := 2) (by omega) (by omega)).mpr h9)
            refine z_aload_n B dX12_adapt_70 rfl 1 rfl ?_
            refine z_aload_n B dX12_adapt_71 rfl 1 rfl ?_
            refine z_get (ref := "FlowExporterModel") (C := RX12) (T := TX12) (N := 54) (ci := 14) (v := .int (nI n_1)) B hu_X12_adapt_X12 rfl 5 (Nat.le_of_ble_eq_true rfl) hv_X12_adapt_107 rfl h_3 rfl dX12_adapt_72 ?_
            refine z_iconst (v := 2) B dX12_adapt_75 rfl ?_
            refine z_idiv B dX12_adapt_76 (by decide) ?_
            refine z_top (st1 := [.int (nI (n_1 / 2)), .ref x]) (congrArg (fun w9 : Int32 => ([.int w9, .ref x] : List Value)) (pk_div (d := 2) (show n_1 < 2 ^ 31 by omega) (by decide) (by decide))) ?_
            refine z_callV (As := [.int (nI (n_1 / 2))]) (rest := []) B (r_changeRate G l Φ1 sz x rd nw fl pe le nx il qu kn ec nu va st ep ti ad ob (n_1 / 2) hx hI1 (show 1 ≤ (n_1 / 2) by omega) (show (n_1 / 2) ≤ 1024 by omega) (show pe + fl ≤ 24 by omega) hnw) (cwV 1 B.1.2.2.2.2 gX12_adapt_X12_changeRate rfl rfl rfl (by decide +kernel) ⟨Nat.le_of_ble_eq_true rfl, Nat.le_of_ble_eq_true rfl⟩) h_3 rfl rfl rfl rfl (Nat.le_of_ble_eq_true rfl) dX12_adapt_77 ⟨Nat.le_of_ble_eq_true rfl, Nat.le_of_ble_eq_true rfl⟩ (fun r_4 Φ3 sz2 st2 hp2 hs2 => ?_)
            obtain ⟨⟨v_17, rfl⟩, hq2, ⟨n_7, n_8, b_16, b_17, hI3⟩, hF2⟩ := hp2
            subst sz2
            replace hs2 : st2 = [.int v_17] := hs2
            subst st2
            replace hI3 : Im G x (rd, nw, n_7, n_8, le, nx, il, qu, kn, ec, nu, va, st, ep, ti, ad, ob) Φ3 := hI3
            replace b_16 : n_7 ≤ fl := b_16
            replace b_17 : n_8 ≤ pe + fl := b_17
            refine z_goto (tgt := 84) B dX12_adapt_80 rfl ?_
            exact z_ret_i B dX12_adapt_84 ⟨⟨_, rfl⟩, rfl, ⟨n_7, n_8, (show n_7 ≤ fl by omega), (show n_8 ≤ pe + fl by omega), hI3⟩, (fun b9 h9 => ((hF2 b9 h9).trans ((fset_fr hΦ1 (fun h8 => h9 (0) h8 (show 0 = 0 ∨ 0 = 5 ∨ 0 = 6 ∨ 0 = 7 by decide))).trans rfl)))⟩
      · have e_6 : ¬ (512 < n_1) := fun h9 => c_5 ((nI_ltI (a := 512) (b := n_1) (by omega) (by omega)).mpr h9)
        refine z_aload_n B dX12_adapt_39 rfl 1 rfl ?_
        refine z_iconst (v := 2) B dX12_adapt_40 rfl ?_
        refine z_aload_n B dX12_adapt_41 rfl 1 rfl ?_
        refine z_get (ref := "FlowExporterModel") (C := RX12) (T := TX12) (N := 54) (ci := 14) (v := .int (nI n_1)) B hu_X12_adapt_X12 rfl 5 (Nat.le_of_ble_eq_true rfl) hv_X12_adapt_107 rfl h_3 rfl dX12_adapt_42 ?_
        refine z_imul B dX12_adapt_45 ?_
        refine z_top (st1 := [.int (nI (2 * n_1)), .ref x]) (congrArg (fun w9 : Int32 => ([.int w9, .ref x] : List Value)) (nI_mul 2 n_1)) ?_
        refine z_callV (As := [.int (nI (2 * n_1))]) (rest := []) B (r_changeRate G l Φ1 sz x rd nw fl pe le nx il qu kn ec nu va st ep ti ad ob (2 * n_1) hx hI1 (show 1 ≤ (2 * n_1) by omega) (show (2 * n_1) ≤ 1024 by omega) (show pe + fl ≤ 24 by omega) hnw) (cwV 1 B.1.2.2.2.2 gX12_adapt_X12_changeRate rfl rfl rfl (by decide +kernel) ⟨Nat.le_of_ble_eq_true rfl, Nat.le_of_ble_eq_true rfl⟩) h_3 rfl rfl rfl rfl (Nat.le_of_ble_eq_true rfl) dX12_adapt_46 ⟨Nat.le_of_ble_eq_true rfl, Nat.le_of_ble_eq_true rfl⟩ (fun r_5 Φ4 sz3 st3 hp3 hs3 => ?_)
        obtain ⟨⟨v_18, rfl⟩, hq3, ⟨n_9, n_10, b_18, b_19, hI4⟩, hF3⟩ := hp3
        subst sz3
        replace hs3 : st3 = [.int v_18] := hs3
        subst st3
        replace hI4 : Im G x (rd, nw, n_9, n_10, le, nx, il, qu, kn, ec, nu, va, st, ep, ti, ad, ob) Φ4 := hI4
        replace b_18 : n_9 ≤ fl := b_18
        replace b_19 : n_10 ≤ pe + fl := b_19
        exact z_ret_i B dX12_adapt_49 ⟨⟨_, rfl⟩, rfl, ⟨n_9, n_10, (show n_9 ≤ fl by omega), (show n_10 ≤ pe + fl by omega), hI4⟩, (fun b9 h9 => ((hF3 b9 h9).trans ((fset_fr hΦ1 (fun h8 => h9 (0) h8 (show 0 = 0 ∨ 0 = 5 ∨ 0 = 6 ∨ 0 = 7 by decide))).trans rfl)))⟩
  · refine z_iconst (v := 0) B dX12_adapt_17 rfl ?_
    exact z_ret_i B dX12_adapt_18 ⟨⟨_, rfl⟩, rfl, ⟨fl, pe, (show fl ≤ fl by omega), (show pe ≤ pe + fl by omega), hI1⟩, (fun b9 h9 => ((fset_fr hΦ1 (fun h8 => h9 (0) h8 (show 0 = 0 ∨ 0 = 5 ∨ 0 = 6 ∨ 0 = 7 by decide))).trans rfl))⟩

theorem hu_X12_tick_X12 : ∀ w ∈ u_ws RX12 TX12 54, w ∈ wsX12_tick := fun _ h => List.mem_cons_of_mem _ (List.mem_append_left _ (List.mem_append_right _ (h)))

theorem hv_X12_tick_101 : Cond.fieldLink RX12 101 "FlowExporterModel" (TX12 3).2.1 (TX12 3).2.2.1 ∈ wsX12_tick := List.mem_cons_of_mem _ (List.mem_append_left _ (List.mem_append_left _ (List.mem_append_left _ (List.mem_of_getElem? (i := 0) rfl))))

theorem hv_X12_tick_133 : Cond.fieldLink RX12 133 "FlowExporterModel" (TX12 13).2.1 (TX12 13).2.2.1 ∈ wsX12_tick := List.mem_cons_of_mem _ (List.mem_append_left _ (List.mem_append_left _ (List.mem_append_left _ (List.mem_of_getElem? (i := 1) rfl))))

set_option maxHeartbeats 4000000 in
set_option maxRecDepth 100000 in
theorem r_tick (G : EnvG) (l : Launch) (Φ : Hm) (sz x : Nat) (rd : (Nat → Int32) → Prop) (nw : (Nat → Int32) → Prop) (fl : Nat) (le : Nat) (nx : Nat) (il : Nat) (qu : Nat) (kn : Int32) (ec : Int32) (nu : Int32) (va : Int64) (st : Nat) (ep : Int32) (ti : Int32) (ad : Int32) (ob : Int64)  (hx : G.2.2.2 ≤ x) (hI : Im G x (rd, nw, fl, 0, le, nx, il, qu, kn, ec, nu, va, st, ep, ti, ad, ob) Φ) (hnw : ∀ f9 : Nat → Int32, nw f9 → NN f9) : Ct G l yX12_tick wsX12_tick ({ frames := 8, cells := 0, slots := 0, locals := 175 }) 0 0 [.ref x] Φ sz (fun v Φ1 sz1 => (∃ r9 : Int32, v = some (.int r9)) ∧ sz1 = sz ∧ (∃ (fl1 : Nat) (le1 : Nat) (qu1 : Nat), Im G x (rd, nw, fl1, 0, le1, nx, il, qu1, kn, ec, nu, va, st, ep, ti + 1, ad, ob) Φ1) ∧ Fr x (fun j9 => j9 = 0 ∨ j9 = 3 ∨ j9 = 4 ∨ j9 = 5 ∨ j9 = 6 ∨ j9 = 7 ∨ j9 = 8 ∨ j9 = 9 ∨ j9 = 10) Φ Φ1) := by
  refine Ct.of (cc := cX12_tick) (maxL := 3) (ret := (some .int)) (by decide) rfl (Nat.le_of_ble_eq_true rfl) ?_
  intro p9 e9 s9 m9 w9 t9 k9 B
  show Z p9 l e9 _ s9 m9 _ w9 t9 k9 _ G 3 0 [(0, .ref x)] [] Φ sz 0 0
  refine z_aload_n B dX12_tick_0 rfl 0 rfl ?_
  refine z_dup B dX12_tick_1 rfl ?_
  obtain ⟨v_1, v_2, n_1, v_3, v_4, v_5, v_6, v_7, v_8, v_9, n_2, v_10, n_3, n_4, h_1, b_13, b_1, b_2, b_3, b_4, b_5, b_6, b_7, b_8, b_9, b_10, b_11, b_12⟩ := im0 hI
  replace b_1 : 1 ≤ n_1 := b_1
  replace b_2 : n_1 ≤ 1024 := b_2
  replace b_3 : fl ≤ 12 := b_3
  replace b_4 : 0 ≤ 24 := b_4
  replace b_5 : le ≤ 700 := b_5
  replace b_6 : qu ≤ 12 := b_6
  replace b_7 : n_2 ≤ 8 := b_7
  replace b_8 : n_3 ≤ 24 := b_8
  replace b_9 : n_4 ≤ 24 := b_9
  replace b_10 : il ≤ 700 := b_10
  replace b_11 : nx ≤ 701 := b_11
  replace b_12 : st ≤ 701 := b_12
  have h_2 : Φ x = some (o_ 14 [.int v_1, .ref (x + 1), .ref (x + 2), .int ti, .int v_2, .int (nI n_1), .int v_3, .int ad, .ref (x + 3), .ref (x + 4), .int v_4, .long v_5, .ref (x + 5), .int (nI fl), .int v_6, .long ob, .long v_7, .long v_8, .long v_9, .ref (x + 6), .ref (x + 7), .int (nI 0), .ref (x + 8), .int (nI le), .ref (x + 9), .ref (x + 10), .int (nI qu), .ref (x + 11), .ref (x + 12), .ref (x + 13), .ref (x + 14), .ref (x + 15), .ref (x + 16), .int (nI n_2), .long v_10, .ref (x + 17), .ref (x + 18), .ref (x + 19), .ref (x + 20), .ref (x + 21), .ref (x + 22), .int (nI n_3), .ref (x + 23), .ref (x + 24), .int (nI n_4), .ref (x + 25), .int (nI il), .int (nI nx), .int ec, .int ep, .int kn, .int (nI st), .int nu, .long va]) := h_1
  refine z_get (ref := "FlowExporterModel") (C := RX12) (T := TX12) (N := 54) (ci := 14) (v := .int ti) B hu_X12_tick_X12 rfl 3 (Nat.le_of_ble_eq_true rfl) hv_X12_tick_101 rfl h_2 rfl dX12_tick_2 ?_
  refine z_iconst (v := 1) B dX12_tick_5 rfl ?_
  refine z_iadd B dX12_tick_6 ?_
  refine z_put (ref := "FlowExporterModel") (C := RX12) (T := TX12) (N := 54) (ci := 14) (v := .int (ti + 1)) B hu_X12_tick_X12 tyX12 tyX12_ok nmX12 rfl 3 (Nat.le_of_ble_eq_true rfl) hv_X12_tick_101 rfl (Or.inl rfl) h_2 hx rfl rfl (Nat.le_of_ble_eq_true rfl) dX12_tick_7 (fun Φ1 hΦ1 => ?_)
  have h_3 : Φ1 x = some (o_ 14 [.int v_1, .ref (x + 1), .ref (x + 2), .int (ti + 1), .int v_2, .int (nI n_1), .int v_3, .int ad, .ref (x + 3), .ref (x + 4), .int v_4, .long v_5, .ref (x + 5), .int (nI fl), .int v_6, .long ob, .long v_7, .long v_8, .long v_9, .ref (x + 6), .ref (x + 7), .int (nI 0), .ref (x + 8), .int (nI le), .ref (x + 9), .ref (x + 10), .int (nI qu), .ref (x + 11), .ref (x + 12), .ref (x + 13), .ref (x + 14), .ref (x + 15), .ref (x + 16), .int (nI n_2), .long v_10, .ref (x + 17), .ref (x + 18), .ref (x + 19), .ref (x + 20), .ref (x + 21), .ref (x + 22), .int (nI n_3), .ref (x + 23), .ref (x + 24), .int (nI n_4), .ref (x + 25), .int (nI il), .int (nI nx), .int ec, .int ep, .int kn, .int (nI st), .int nu, .long va]) := fset_at hΦ1
  have hI1 : Im G x (rd, nw, fl, 0, le, nx, il, qu, kn, ec, nu, va, st, ep, ti + 1, ad, ob) Φ1 := Im.put0 hI hΦ1 ⟨v_1, v_2, n_1, v_3, v_4, v_5, v_6, v_7, v_8, v_9, n_2, v_10, n_3, n_4, rfl, b_13, b_1, b_2, b_3, b_4, b_5, b_6, b_7, b_8, b_9, b_10, b_11, b_12⟩
  refine z_iconst (v := 0) B dX12_tick_10 rfl ?_
  refine z_istore_n (lv' := [(1, .int 0), (0, .ref x)]) B dX12_tick_11 rfl (Nat.le_of_ble_eq_true rfl) rfl ?_
  refine z_iconst (v := 0) B dX12_tick_12 rfl ?_
  refine z_istore_n (lv' := [(2, .int 0), (1, .int 0), (0, .ref x)]) B dX12_tick_13 rfl (Nat.le_of_ble_eq_true rfl) rfl ?_
  refine z_lv [0, 1, 2] rfl ?_
  refine z_loop (α := Nat × Int32 × Nat × Nat) (fun (a9 : Nat × Int32 × Nat × Nat) Φi => Im G x (rd, nw, a9.2.2.1, a9.2.2.2, le, nx, il, qu, kn, ec, nu, va, st, ep, ti + 1, ad, ob) Φi ∧ Fr x (fun j9 => j9 = 0 ∨ j9 = 5 ∨ j9 = 6 ∨ j9 = 7) Φ1 Φi ∧ (a9.1 ≤ 12) ∧ (a9.2.2.2 + a9.2.2.1 ≤ 12) ∧ True) (fun a9 => [(2, .int (nI (a9.1))), (1, .int a9.2.1), (0, .ref x)]) (fun a9 => a9.2.2.1 - a9.1) ?_ (0, 0, fl, 0) ⟨hI1, fun _ _ => rfl, (show 0 ≤ 12 by omega), (show 0 + fl ≤ 12 by omega), trivial⟩
  rintro ⟨i_1, i_2, i_3, i_4⟩ Φl1 ⟨hI2, hF1, b_14, b_15, -⟩ ih1
  replace hI2 : Im G x (rd, nw, i_3, i_4, le, nx, il, qu, kn, ec, nu, va, st, ep, ti + 1, ad, ob) Φl1 := hI2
  replace b_14 : i_1 ≤ 12 := b_14
  replace b_15 : i_4 + i_3 ≤ 12 := b_15
  show Z p9 l e9 _ s9 m9 _ w9 t9 k9 _ G 3 14 [(2, .int (nI i_1)), (1, .int i_2), (0, .ref x)] [] Φl1 _ _ _
  refine z_iload_n B dX12_tick_14 rfl 0 rfl ?_
  refine z_aload_n B dX12_tick_15 rfl 2 rfl ?_
  obtain ⟨v_11, v_12, n_5, v_13, v_14, v_15, v_16, v_17, v_18, v_19, n_6, v_20, n_7, n_8, h_4, b_28, b_16, b_17, b_18, b_19, b_20, b_21, b_22, b_23, b_24, b_25, b_26, b_27⟩ := im0 hI2
  replace b_16 : 1 ≤ n_5 := b_16
  replace b_17 : n_5 ≤ 1024 := b_17
  replace b_18 : i_3 ≤ 12 := b_18
  replace b_19 : i_4 ≤ 24 := b_19
  replace b_20 : le ≤ 700 := b_20
  replace b_21 : qu ≤ 12 := b_21
  replace b_22 : n_6 ≤ 8 := b_22
  replace b_23 : n_7 ≤ 24 := b_23
  replace b_24 : n_8 ≤ 24 := b_24
  replace b_25 : il ≤ 700 := b_25
  replace b_26 : nx ≤ 701 := b_26
  replace b_27 : st ≤ 701 := b_27
  have h_5 : Φl1 x = some (o_ 14 [.int v_11, .ref (x + 1), .ref (x + 2), .int (ti + 1), .int v_12, .int (nI n_5), .int v_13, .int ad, .ref (x + 3), .ref (x + 4), .int v_14, .long v_15, .ref (x + 5), .int (nI i_3), .int v_16, .long ob, .long v_17, .long v_18, .long v_19, .ref (x + 6), .ref (x + 7), .int (nI i_4), .ref (x + 8), .int (nI le), .ref (x + 9), .ref (x + 10), .int (nI qu), .ref (x + 11), .ref (x + 12), .ref (x + 13), .ref (x + 14), .ref (x + 15), .ref (x + 16), .int (nI n_6), .long v_20, .ref (x + 17), .ref (x + 18), .ref (x + 19), .ref (x + 20), .ref (x + 21), .ref (x + 22), .int (nI n_7), .ref (x + 23), .ref (x + 24), .int (nI n_8), .ref (x + 25), .int (nI il), .int (nI nx), .int ec, .int ep, .int kn, .int (nI st), .int nu, .long va]) := h_4
  refine z_get (ref := "FlowExporterModel") (C := RX12) (T := TX12) (N := 54) (ci := 14) (v := .int (nI i_3)) B hu_X12_tick_X12 rfl 13 (Nat.le_of_ble_eq_true rfl) hv_X12_tick_133 rfl h_5 rfl dX12_tick_16 ?_
  refine z_icmp_ge (tgt := 47) B dX12_tick_19 rfl (fun c_1 => ?_) (fun c_1 => ?_)
  · have e_1 : i_3 ≤ i_1 := (nI_leI (a := i_3) (b := i_1) (by omega) (by omega)).mp c_1
    refine z_aload_n B dX12_tick_47 rfl 2 rfl ?_
    refine z_get (ref := "FlowExporterModel") (C := RX12) (T := TX12) (N := 54) (ci := 14) (v := .int (ti + 1)) B hu_X12_tick_X12 rfl 3 (Nat.le_of_ble_eq_true rfl) hv_X12_tick_101 rfl h_5 rfl dX12_tick_48 ?_
    refine z_bipush (v := 100) B dX12_tick_51 rfl ?_
    refine z_irem B dX12_tick_53 (by decide) ?_
    refine z_fi (fun v_21 => ?_)
    refine z_if_ne (tgt := 64) B dX12_tick_54 rfl (fun c_2 => ?_) (fun c_2 => ?_)
    · refine z_aload_n B dX12_tick_64 rfl 2 rfl ?_
      refine z_callV (As := []) (rest := []) B (r_sendPending G l Φl1 sz x rd nw i_3 i_4 le nx il qu kn ec nu va st ep (ti + 1) ad ob  hx hI2 hnw) (cwV 0 B.1.2.2.2.2 gX12_tick_X12_sendPending rfl rfl rfl (by decide +kernel) ⟨Nat.le_of_ble_eq_true rfl, Nat.le_of_ble_eq_true rfl⟩) h_5 rfl rfl rfl rfl (Nat.le_of_ble_eq_true rfl) dX12_tick_65 ⟨Nat.le_of_ble_eq_true rfl, Nat.le_of_ble_eq_true rfl⟩ (fun r_1 Φ2 sz1 st1 hp1 hs1 => ?_)
      obtain ⟨rfl, hq1, ⟨n_9, n_10, hI3⟩, hF2⟩ := hp1
      subst sz1
      replace hs1 : st1 = [] := hs1
      subst st1
      replace hI3 : Im G x (rd, nw, i_3, 0, n_9, nx, il, n_10, kn, ec, nu, va, st, ep, ti + 1, ad, ob) Φ2 := hI3
      refine z_iload_n B dX12_tick_68 rfl 1 rfl ?_
      exact z_ret_i B dX12_tick_69 ⟨⟨_, rfl⟩, rfl, ⟨i_3, n_9, n_10, hI3⟩, (fun b9 h9 => ((hF2 b9 (fun j9 h8 h7 => h9 j9 h8 (fq_974 j9 h7))).trans ((hF1 b9 (fun j9 h8 h7 => h9 j9 h8 (fq_973 j9 h7))).trans ((fset_fr hΦ1 (fun h8 => h9 (0) h8 (show 0 = 0 ∨ 0 = 3 ∨ 0 = 4 ∨ 0 = 5 ∨ 0 = 6 ∨ 0 = 7 ∨ 0 = 8 ∨ 0 = 9 ∨ 0 = 10 by decide))).trans rfl))))⟩
    · refine z_iload_n B dX12_tick_57 rfl 1 rfl ?_
      refine z_aload_n B dX12_tick_58 rfl 2 rfl ?_
      refine z_callV (As := []) (rest := [.int i_2]) B (r_adapt G l Φl1 sz x rd nw i_3 i_4 le nx il qu kn ec nu va st ep (ti + 1) ad ob  hx hI2 (show i_4 + i_3 ≤ 24 by omega) hnw) (cwV 0 B.1.2.2.2.2 gX12_tick_X12_adapt rfl rfl rfl (by decide +kernel) ⟨Nat.le_of_ble_eq_true rfl, Nat.le_of_ble_eq_true rfl⟩) h_5 rfl rfl rfl rfl (Nat.le_of_ble_eq_true rfl) dX12_tick_59 ⟨Nat.le_of_ble_eq_true rfl, Nat.le_of_ble_eq_true rfl⟩ (fun r_2 Φ3 sz2 st2 hp2 hs2 => ?_)
      obtain ⟨⟨v_22, rfl⟩, hq2, ⟨n_11, n_12, b_29, b_30, hI4⟩, hF3⟩ := hp2
      subst sz2
      replace hs2 : st2 = [.int v_22, .int i_2] := hs2
      subst st2
      replace hI4 : Im G x (rd, nw, n_11, n_12, le, nx, il, qu, kn, ec, nu, va, st, ep, ti + 1, ad, ob) Φ3 := hI4
      replace b_29 : n_11 ≤ i_3 := b_29
      replace b_30 : n_12 ≤ i_4 + i_3 := b_30
      refine z_iadd B dX12_tick_62 ?_
      refine z_fi (fun v_23 => ?_)
      refine z_istore_n (lv' := [(1, .int v_23), (2, .int (nI i_1)), (0, .ref x)]) B dX12_tick_63 rfl (Nat.le_of_ble_eq_true rfl) rfl ?_
      refine z_aload_n B dX12_tick_64 rfl 2 rfl ?_
      obtain ⟨v_24, v_25, n_13, v_26, v_27, v_28, v_29, v_30, v_31, v_32, n_14, v_33, n_15, n_16, h_6, b_43, b_31, b_32, b_33, b_34, b_35, b_36, b_37, b_38, b_39, b_40, b_41, b_42⟩ := im0 hI4
      replace b_31 : 1 ≤ n_13 := b_31
      replace b_32 : n_13 ≤ 1024 := b_32
      replace b_33 : n_11 ≤ 12 := b_33
      replace b_34 : n_12 ≤ 24 := b_34
      replace b_35 : le ≤ 700 := b_35
      replace b_36 : qu ≤ 12 := b_36
      replace b_37 : n_14 ≤ 8 := b_37
      replace b_38 : n_15 ≤ 24 := b_38
      replace b_39 : n_16 ≤ 24 := b_39
      replace b_40 : il ≤ 700 := b_40
      replace b_41 : nx ≤ 701 := b_41
      replace b_42 : st ≤ 701 := b_42
      have h_7 : Φ3 x = some (o_ 14 [.int v_24, .ref (x + 1), .ref (x + 2), .int (ti + 1), .int v_25, .int (nI n_13), .int v_26, .int ad, .ref (x + 3), .ref (x + 4), .int v_27, .long v_28, .ref (x + 5), .int (nI n_11), .int v_29, .long ob, .long v_30, .long v_31, .long v_32, .ref (x + 6), .ref (x + 7), .int (nI n_12), .ref (x + 8), .int (nI le), .ref (x + 9), .ref (x + 10), .int (nI qu), .ref (x + 11), .ref (x + 12), .ref (x + 13), .ref (x + 14), .ref (x + 15), .ref (x + 16), .int (nI n_14), .long v_33, .ref (x + 17), .ref (x + 18), .ref (x + 19), .ref (x + 20), .ref (x + 21), .ref (x + 22), .int (nI n_15), .ref (x + 23), .ref (x + 24), .int (nI n_16), .ref (x + 25), .int (nI il), .int (nI nx), .int ec, .int ep, .int kn, .int (nI st), .int nu, .long va]) := h_6
      refine z_callV (As := []) (rest := []) B (r_sendPending G l Φ3 sz x rd nw n_11 n_12 le nx il qu kn ec nu va st ep (ti + 1) ad ob  hx hI4 hnw) (cwV 0 B.1.2.2.2.2 gX12_tick_X12_sendPending rfl rfl rfl (by decide +kernel) ⟨Nat.le_of_ble_eq_true rfl, Nat.le_of_ble_eq_true rfl⟩) h_7 rfl rfl rfl rfl (Nat.le_of_ble_eq_true rfl) dX12_tick_65 ⟨Nat.le_of_ble_eq_true rfl, Nat.le_of_ble_eq_true rfl⟩ (fun r_3 Φ4 sz3 st3 hp3 hs3 => ?_)
      obtain ⟨rfl, hq3, ⟨n_17, n_18, hI5⟩, hF4⟩ := hp3
      subst sz3
      replace hs3 : st3 = [] := hs3
      subst st3
      replace hI5 : Im G x (rd, nw, n_11, 0, n_17, nx, il, n_18, kn, ec, nu, va, st, ep, ti + 1, ad, ob) Φ4 := hI5
      refine z_iload_n B dX12_tick_68 rfl 0 rfl ?_
      exact z_ret_i B dX12_tick_69 ⟨⟨_, rfl⟩, rfl, ⟨n_11, n_17, n_18, hI5⟩, (fun b9 h9 => ((hF4 b9 (fun j9 h8 h7 => h9 j9 h8 (fq_974 j9 h7))).trans ((hF3 b9 (fun j9 h8 h7 => h9 j9 h8 (fq_973 j9 h7))).trans ((hF1 b9 (fun j9 h8 h7 => h9 j9 h8 (fq_973 j9 h7))).trans ((fset_fr hΦ1 (fun h8 => h9 (0) h8 (show 0 = 0 ∨ 0 = 3 ∨ 0 = 4 ∨ 0 = 5 ∨ 0 = 6 ∨ 0 = 7 ∨ 0 = 8 ∨ 0 = 9 ∨ 0 = 10 by decide))).trans rfl)))))⟩
  · have e_2 : ¬ (i_3 ≤ i_1) := fun h9 => c_1 ((nI_leI (a := i_3) (b := i_1) (by omega) (by omega)).mpr h9)
    refine z_aload_n B dX12_tick_22 rfl 2 rfl ?_
    refine z_iload_n B dX12_tick_23 rfl 0 rfl ?_
    refine z_callV (As := [.int (nI i_1)]) (rest := []) B (r_isOver G l Φl1 sz x rd nw i_3 i_4 le nx il qu kn ec nu va st ep (ti + 1) ad ob i_1 hx hI2 (show i_1 < 12 by omega) hnw) (cwV 1 B.1.2.2.2.2 gX12_tick_X12_isOver rfl rfl rfl (by decide +kernel) ⟨Nat.le_of_ble_eq_true rfl, Nat.le_of_ble_eq_true rfl⟩) h_5 rfl rfl rfl rfl (Nat.le_of_ble_eq_true rfl) dX12_tick_24 ⟨Nat.le_of_ble_eq_true rfl, Nat.le_of_ble_eq_true rfl⟩ (fun r_4 Φ5 sz4 st4 hp4 hs4 => ?_)
    obtain ⟨⟨v_34, rfl, b_44⟩, hq4, hI6, hF5⟩ := hp4
    subst sz4
    replace hs4 : st4 = [.int v_34] := hs4
    subst st4
    replace hI6 : Im G x (rd, nw, i_3, i_4, le, nx, il, qu, kn, ec, nu, va, st, ep, ti + 1, ad, ob) Φ5 := hI6
    refine z_if_eq (tgt := 41) B dX12_tick_27 rfl (fun c_3 => ?_) (fun c_3 => ?_)
    · refine z_iinc (k := 0) (v := nI (i_1 + 1)) (lv' := [(2, .int (nI (i_1 + 1))), (1, .int i_2), (0, .ref x)]) B dX12_tick_41 rfl (nI_add i_1 1) (Nat.le_of_ble_eq_true rfl) rfl ?_
      refine z_goto (tgt := 14) B dX12_tick_44 rfl ?_
      refine z_lv [0, 1, 2] rfl ?_
      exact ih1 (i_1 + 1, i_2, i_3, i_4) Φ5 (show i_3 - (i_1 + 1) < i_3 - i_1 by omega) ⟨hI6, (fun b9 h9 => ((hF5 b9 (fun j9 h8 h7 => (show False from h7).elim)).trans ((hF1 b9 h9).trans rfl))), (show (i_1 + 1) ≤ 12 by omega), (show i_4 + i_3 ≤ 12 by omega), trivial⟩
    · refine z_aload_n B dX12_tick_30 rfl 2 rfl ?_
      refine z_iload_n B dX12_tick_31 rfl 0 rfl ?_
      have h_8 : Φ5 x = some (o_ 14 [.int v_11, .ref (x + 1), .ref (x + 2), .int (ti + 1), .int v_12, .int (nI n_5), .int v_13, .int ad, .ref (x + 3), .ref (x + 4), .int v_14, .long v_15, .ref (x + 5), .int (nI i_3), .int v_16, .long ob, .long v_17, .long v_18, .long v_19, .ref (x + 6), .ref (x + 7), .int (nI i_4), .ref (x + 8), .int (nI le), .ref (x + 9), .ref (x + 10), .int (nI qu), .ref (x + 11), .ref (x + 12), .ref (x + 13), .ref (x + 14), .ref (x + 15), .ref (x + 16), .int (nI n_6), .long v_20, .ref (x + 17), .ref (x + 18), .ref (x + 19), .ref (x + 20), .ref (x + 21), .ref (x + 22), .int (nI n_7), .ref (x + 23), .ref (x + 24), .int (nI n_8), .ref (x + 25), .int (nI il), .int (nI nx), .int ec, .int ep, .int kn, .int (nI st), .int nu, .long va]) := ((hF5 x (fun j9 h8 h7 => (show False from h7).elim)).trans h_5)
      refine z_callV (As := [.int (nI i_1)]) (rest := []) B (r_export G l Φ5 sz x rd nw i_3 i_4 le nx il qu kn ec nu va st ep (ti + 1) ad ob i_1 hx hI6 (show i_1 < i_3 by omega) (show i_4 < 24 by omega) hnw) (cwV 1 B.1.2.2.2.2 gX12_tick_X12_export rfl rfl rfl (by decide +kernel) ⟨Nat.le_of_ble_eq_true rfl, Nat.le_of_ble_eq_true rfl⟩) h_8 rfl rfl rfl rfl (Nat.le_of_ble_eq_true rfl) dX12_tick_32 ⟨Nat.le_of_ble_eq_true rfl, Nat.le_of_ble_eq_true rfl⟩ (fun r_5 Φ6 sz5 st5 hp5 hs5 => ?_)
      obtain ⟨rfl, hq5, ⟨n_19, n_20, b_45, b_46, hI7⟩, hF6⟩ := hp5
      subst sz5
      replace hs5 : st5 = [] := hs5
      subst st5
      replace hI7 : Im G x (rd, nw, n_19, n_20, le, nx, il, qu, kn, ec, nu, va, st, ep, ti + 1, ad, ob) Φ6 := hI7
      replace b_45 : n_19 + 1 = i_3 := b_45
      replace b_46 : n_20 ≤ i_4 + 1 := b_46
      refine z_iinc (k := 1) (v := i_2 + 1) (lv' := [(1, .int (i_2 + 1)), (2, .int (nI i_1)), (0, .ref x)]) B dX12_tick_35 rfl rfl (Nat.le_of_ble_eq_true rfl) rfl ?_
      refine z_goto (tgt := 14) B dX12_tick_38 rfl ?_
      refine z_lv [1, 0, 2] rfl ?_
      exact ih1 (i_1, i_2 + 1, n_19, n_20) Φ6 (show n_19 - i_1 < i_3 - i_1 by omega) ⟨hI7, (fun b9 h9 => ((hF6 b9 h9).trans ((hF5 b9 (fun j9 h8 h7 => (show False from h7).elim)).trans ((hF1 b9 h9).trans rfl)))), (show i_1 ≤ 12 by omega), (show n_20 + n_19 ≤ 12 by omega), trivial⟩

theorem hu_X12_advance_X12 : ∀ w ∈ u_ws RX12 TX12 54, w ∈ wsX12_advance := fun _ h => List.mem_cons_of_mem _ (List.mem_append_left _ (List.mem_append_right _ (h)))

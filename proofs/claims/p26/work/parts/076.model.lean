theorem dX12_setSeed_0 : decode cX12_setSeed 0 = .ok (.aload_n 0, 1) := by decide +kernel
theorem dX12_setSeed_1 : decode cX12_setSeed 1 = .ok (.iconst 0, 1) := by decide +kernel
theorem dX12_setSeed_2 : decode cX12_setSeed 2 = .ok (.putfield 1, 3) := by decide +kernel
theorem dX12_setSeed_5 : decode cX12_setSeed 5 = .ok (.iload_n 1, 1) := by decide +kernel
theorem dX12_setSeed_6 : decode cX12_setSeed 6 = .ok (.ifCond .ge 5, 3) := by decide +kernel
theorem dX12_setSeed_9 : decode cX12_setSeed 9 = .ok (.iconst 0, 1) := by decide +kernel
theorem dX12_setSeed_10 : decode cX12_setSeed 10 = .ok (.ireturn, 1) := by decide +kernel
theorem dX12_setSeed_11 : decode cX12_setSeed 11 = .ok (.aload_n 0, 1) := by decide +kernel
theorem dX12_setSeed_12 : decode cX12_setSeed 12 = .ok (.iload_n 1, 1) := by decide +kernel
theorem dX12_setSeed_13 : decode cX12_setSeed 13 = .ok (.putfield 104, 3) := by decide +kernel
theorem dX12_setSeed_16 : decode cX12_setSeed 16 = .ok (.iconst 1, 1) := by decide +kernel
theorem dX12_setSeed_17 : decode cX12_setSeed 17 = .ok (.ireturn, 1) := by decide +kernel
set_option maxRecDepth 20000 in
theorem ggX12_setRate_X12_inRange : GoodIn wsX12_setRate wsX12_inRange := (goodIn_r _ [6] rfl (by decide +kernel))
set_option maxRecDepth 20000 in
theorem gX12_setRate_X12_inRange : GoodIn wsX12_setRate (va_wsS RX12 169 yX12_inRange wsX12_inRange) := goodIn_app (goodIn_m (mem_cA (List.mem_cons_of_mem _ (List.mem_append_left _ (List.mem_append_left _ (List.mem_append_left _ (List.mem_of_getElem? (i := 2) rfl))))) (mem_cA (List.mem_cons_of_mem _ (List.mem_append_left _ (List.mem_append_left _ (List.mem_append_left _ (List.mem_of_getElem? (i := 3) rfl))))) (mem_cA (List.mem_cons_of_mem _ (List.mem_append_left _ (List.mem_append_left _ (List.mem_append_left _ (List.mem_of_getElem? (i := 4) rfl))))) mem_cZ))) (by decide +kernel)) ggX12_setRate_X12_inRange
set_option maxRecDepth 20000 in
theorem ggX12_setRate_X12_changeRate : GoodIn wsX12_setRate wsX12_changeRate := goodIn_ca ((goodIn_ca (goodIn_r _ [10, 11, 12, 13, 14, 5, 15, 16, 17, 18, 19, 20, 21, 22, 23, 24, 25, 26, 27, 28, 29, 30, 31, 32, 33, 34, 35, 36, 37, 38, 39, 40, 41, 42, 43, 44, 45, 46, 47, 48, 49, 50, 51, 52, 53, 54, 55, 56, 57, 58, 59, 60, 61, 62, 63, 64, 65, 66, 67, 68, 69, 70, 71] rfl (by decide +kernel)) (goodIn_sub (fun _ h => List.mem_cons_of_mem _ (List.mem_append_left _ (List.mem_append_right _ h))) gw_wsX120))) (goodIn_sub (fun _ h => List.mem_cons_of_mem _ (List.mem_append_right _ h)) (all_fg _))
set_option maxRecDepth 20000 in
theorem gX12_setRate_X12_changeRate : GoodIn wsX12_setRate (wsV RX12 265 RX12 yX12_changeRate wsX12_changeRate) := goodIn_app (goodIn_m (mem_cA (List.mem_cons_of_mem _ (List.mem_append_left _ (List.mem_append_left _ (List.mem_append_left _ (List.mem_of_getElem? (i := 6) rfl))))) (mem_cA (List.mem_cons_of_mem _ (List.mem_append_left _ (List.mem_append_left _ (List.mem_append_left _ (List.mem_of_getElem? (i := 7) rfl))))) (mem_cA (List.mem_cons_of_mem _ (List.mem_append_left _ (List.mem_append_left _ (List.mem_append_left _ (List.mem_of_getElem? (i := 8) rfl))))) (mem_cA (List.mem_cons_of_mem _ (List.mem_append_left _ (List.mem_append_left _ (List.mem_append_left _ (List.mem_of_getElem? (i := 4) rfl))))) mem_cZ)))) (by decide +kernel)) ggX12_setRate_X12_changeRate
set_option maxRecDepth 20000 in
theorem ggX12_setRate_X12_sendPending : GoodIn wsX12_setRate wsX12_sendPending := goodIn_ca ((goodIn_ca (goodIn_r _ [75, 45, 76, 77, 78, 79, 80, 81, 82, 83, 84, 85, 5, 86, 87, 47, 88, 89, 90, 91, 21, 92, 93, 94, 95, 96, 97, 98, 25, 26, 27, 28, 29, 30, 31, 32, 33, 34, 35, 36, 37, 38, 39, 40, 99, 100, 101, 102, 103, 104, 105, 49, 50, 51, 52, 53, 54, 55, 106, 107, 108, 109, 110, 111, 112, 113, 48, 46, 114, 115, 116, 117, 118, 119, 120, 121, 122, 123, 124, 125] rfl (by decide +kernel)) (goodIn_sub (fun _ h => List.mem_cons_of_mem _ (List.mem_append_left _ (List.mem_append_right _ h))) gw_wsX120))) (goodIn_sub (fun _ h => List.mem_cons_of_mem _ (List.mem_append_right _ h)) (all_fg _))
set_option maxRecDepth 20000 in
theorem gX12_setRate_X12_sendPending : GoodIn wsX12_setRate (wsV RX12 254 RX12 yX12_sendPending wsX12_sendPending) := goodIn_app (goodIn_m (mem_cA (List.mem_cons_of_mem _ (List.mem_append_left _ (List.mem_append_left _ (List.mem_append_right _ (List.mem_append_right _ (List.mem_append_left _ (List.mem_of_getElem? (i := 23) rfl))))))) (mem_cA (List.mem_cons_of_mem _ (List.mem_append_left _ (List.mem_append_left _ (List.mem_append_right _ (List.mem_append_right _ (List.mem_append_right _ (List.mem_append_left _ (List.mem_of_getElem? (i := 0) rfl)))))))) (mem_cA (List.mem_cons_of_mem _ (List.mem_append_left _ (List.mem_append_left _ (List.mem_append_right _ (List.mem_append_right _ (List.mem_append_right _ (List.mem_append_left _ (List.mem_of_getElem? (i := 1) rfl)))))))) (mem_cA (List.mem_cons_of_mem _ (List.mem_append_left _ (List.mem_append_left _ (List.mem_append_left _ (List.mem_of_getElem? (i := 4) rfl))))) mem_cZ)))) (by decide +kernel)) ggX12_setRate_X12_sendPending
theorem dX12_setRate_0 : decode cX12_setRate 0 = .ok (.aload_n 0, 1) := by decide +kernel
theorem dX12_setRate_1 : decode cX12_setRate 1 = .ok (.iconst 0, 1) := by decide +kernel
theorem dX12_setRate_2 : decode cX12_setRate 2 = .ok (.putfield 1, 3) := by decide +kernel
theorem dX12_setRate_5 : decode cX12_setRate 5 = .ok (.iload_n 1, 1) := by decide +kernel
theorem dX12_setRate_6 : decode cX12_setRate 6 = .ok (.i2l, 1) := by decide +kernel
theorem dX12_setRate_7 : decode cX12_setRate 7 = .ok (.lconst 1, 1) := by decide +kernel
theorem dX12_setRate_8 : decode cX12_setRate 8 = .ok (.ldc2_w 263, 3) := by decide +kernel
theorem dX12_setRate_11 : decode cX12_setRate 11 = .ok (.invokestatic 169, 3) := by decide +kernel
theorem dX12_setRate_14 : decode cX12_setRate 14 = .ok (.ifCond .ne 5, 3) := by decide +kernel
theorem dX12_setRate_17 : decode cX12_setRate 17 = .ok (.iconst (-1), 1) := by decide +kernel
theorem dX12_setRate_18 : decode cX12_setRate 18 = .ok (.ireturn, 1) := by decide +kernel
theorem dX12_setRate_19 : decode cX12_setRate 19 = .ok (.aload_n 0, 1) := by decide +kernel
theorem dX12_setRate_20 : decode cX12_setRate 20 = .ok (.iload_n 1, 1) := by decide +kernel
theorem dX12_setRate_21 : decode cX12_setRate 21 = .ok (.invokevirtual 265, 3) := by decide +kernel
theorem dX12_setRate_24 : decode cX12_setRate 24 = .ok (.istore_n 2, 1) := by decide +kernel
theorem dX12_setRate_25 : decode cX12_setRate 25 = .ok (.aload_n 0, 1) := by decide +kernel
theorem dX12_setRate_26 : decode cX12_setRate 26 = .ok (.invokevirtual 254, 3) := by decide +kernel
theorem dX12_setRate_29 : decode cX12_setRate 29 = .ok (.iload_n 2, 1) := by decide +kernel
theorem dX12_setRate_30 : decode cX12_setRate 30 = .ok (.ireturn, 1) := by decide +kernel
set_option maxRecDepth 20000 in
theorem ggX12_flush_X12_exportAll : GoodIn wsX12_flush wsX12_exportAll := goodIn_ca ((goodIn_ca (goodIn_r _ [6, 7, 8, 9, 10, 5, 11, 12, 13, 14, 15, 16, 17, 18, 19, 20, 21, 22, 23, 24, 25, 26, 27, 28, 29, 30, 31, 32, 33, 34, 35, 36, 37, 38, 39, 40, 41, 42, 43, 44, 45, 46, 47, 48, 49, 50, 51, 52, 53, 54, 55, 56, 57, 58, 59, 60, 61, 62, 63] rfl (by decide +kernel)) (goodIn_sub (fun _ h => List.mem_cons_of_mem _ (List.mem_append_left _ (List.mem_append_right _ h))) gw_wsX120))) (goodIn_sub (fun _ h => List.mem_cons_of_mem _ (List.mem_append_right _ h)) (all_fg _))
set_option maxRecDepth 20000 in
theorem gX12_flush_X12_exportAll : GoodIn wsX12_flush (wsV RX12 259 RX12 yX12_exportAll wsX12_exportAll) := goodIn_app (goodIn_m (mem_cA (List.mem_cons_of_mem _ (List.mem_append_left _ (List.mem_append_left _ (List.mem_append_left _ (List.mem_of_getElem? (i := 1) rfl))))) (mem_cA (List.mem_cons_of_mem _ (List.mem_append_left _ (List.mem_append_left _ (List.mem_append_left _ (List.mem_of_getElem? (i := 2) rfl))))) (mem_cA (List.mem_cons_of_mem _ (List.mem_append_left _ (List.mem_append_left _ (List.mem_append_left _ (List.mem_of_getElem? (i := 3) rfl))))) (mem_cA (List.mem_cons_of_mem _ (List.mem_append_left _ (List.mem_append_left _ (List.mem_append_left _ (List.mem_of_getElem? (i := 4) rfl))))) mem_cZ)))) (by decide +kernel)) ggX12_flush_X12_exportAll
set_option maxRecDepth 20000 in
theorem ggX12_flush_X12_sendPending : GoodIn wsX12_flush wsX12_sendPending := goodIn_ca ((goodIn_ca (goodIn_r _ [67, 36, 68, 69, 70, 71, 72, 73, 74, 75, 76, 77, 5, 78, 79, 38, 80, 81, 82, 83, 12, 84, 85, 86, 87, 88, 89, 90, 16, 17, 18, 19, 20, 21, 22, 23, 24, 25, 26, 27, 28, 29, 30, 31, 91, 92, 93, 94, 95, 96, 97, 40, 41, 42, 43, 44, 45, 46, 98, 99, 100, 101, 102, 103, 104, 105, 39, 37, 106, 107, 108, 109, 110, 111, 112, 113, 114, 115, 116, 117] rfl (by decide +kernel)) (goodIn_sub (fun _ h => List.mem_cons_of_mem _ (List.mem_append_left _ (List.mem_append_right _ h))) gw_wsX120))) (goodIn_sub (fun _ h => List.mem_cons_of_mem _ (List.mem_append_right _ h)) (all_fg _))
set_option maxRecDepth 20000 in
theorem gX12_flush_X12_sendPending : GoodIn wsX12_flush (wsV RX12 254 RX12 yX12_sendPending wsX12_sendPending) := goodIn_app (goodIn_m (mem_cA (List.mem_cons_of_mem _ (List.mem_append_left _ (List.mem_append_left _ (List.mem_append_right _ (List.mem_append_right _ (List.mem_append_left _ (List.mem_of_getElem? (i := 15) rfl))))))) (mem_cA (List.mem_cons_of_mem _ (List.mem_append_left _ (List.mem_append_left _ (List.mem_append_right _ (List.mem_append_right _ (List.mem_append_left _ (List.mem_of_getElem? (i := 16) rfl))))))) (mem_cA (List.mem_cons_of_mem _ (List.mem_append_left _ (List.mem_append_left _ (List.mem_append_right _ (List.mem_append_right _ (List.mem_append_left _ (List.mem_of_getElem? (i := 17) rfl))))))) (mem_cA (List.mem_cons_of_mem _ (List.mem_append_left _ (List.mem_append_left _ (List.mem_append_left _ (List.mem_of_getElem? (i := 4) rfl))))) mem_cZ)))) (by decide +kernel)) ggX12_flush_X12_sendPending
theorem dX12_flush_0 : decode cX12_flush 0 = .ok (.aload_n 0, 1) := by decide +kernel
theorem dX12_flush_1 : decode cX12_flush 1 = .ok (.iconst 0, 1) := by decide +kernel
theorem dX12_flush_2 : decode cX12_flush 2 = .ok (.putfield 1, 3) := by decide +kernel
theorem dX12_flush_5 : decode cX12_flush 5 = .ok (.aload_n 0, 1) := by decide +kernel
theorem dX12_flush_6 : decode cX12_flush 6 = .ok (.invokevirtual 259, 3) := by decide +kernel
theorem dX12_flush_9 : decode cX12_flush 9 = .ok (.istore_n 1, 1) := by decide +kernel
theorem dX12_flush_10 : decode cX12_flush 10 = .ok (.aload_n 0, 1) := by decide +kernel
theorem dX12_flush_11 : decode cX12_flush 11 = .ok (.invokevirtual 254, 3) := by decide +kernel
theorem dX12_flush_14 : decode cX12_flush 14 = .ok (.iload_n 1, 1) := by decide +kernel
theorem dX12_flush_15 : decode cX12_flush 15 = .ok (.ireturn, 1) := by decide +kernel
set_option maxRecDepth 20000 in
theorem ggX12_tick_X12_isOver : GoodIn wsX12_tick wsX12_isOver := goodIn_ca ((goodIn_ca (goodIn_r _ [7, 1, 8, 9] rfl (by decide +kernel)) (goodIn_sub (fun _ h => List.mem_cons_of_mem _ (List.mem_append_left _ (List.mem_append_right _ h))) gw_wsX120))) (goodIn_sub (fun _ h => List.mem_cons_of_mem _ (List.mem_append_right _ h)) (all_fg _))
set_option maxRecDepth 20000 in
theorem gX12_tick_X12_isOver : GoodIn wsX12_tick (wsV RX12 268 RX12 yX12_isOver wsX12_isOver) := goodIn_app (goodIn_m (mem_cA (List.mem_cons_of_mem _ (List.mem_append_left _ (List.mem_append_left _ (List.mem_append_left _ (List.mem_of_getElem? (i := 2) rfl))))) (mem_cA (List.mem_cons_of_mem _ (List.mem_append_left _ (List.mem_append_left _ (List.mem_append_left _ (List.mem_of_getElem? (i := 3) rfl))))) (mem_cA (List.mem_cons_of_mem _ (List.mem_append_left _ (List.mem_append_left _ (List.mem_append_left _ (List.mem_of_getElem? (i := 4) rfl))))) (mem_cA (List.mem_cons_of_mem _ (List.mem_append_left _ (List.mem_append_left _ (List.mem_append_left _ (List.mem_of_getElem? (i := 5) rfl))))) mem_cZ)))) (by decide +kernel)) ggX12_tick_X12_isOver
set_option maxRecDepth 20000 in
theorem ggX12_tick_X12_export : GoodIn wsX12_tick wsX12_export := goodIn_ca ((goodIn_ca (goodIn_r _ [13, 9, 8, 14, 15, 2, 16, 17, 18, 6, 19, 20, 21, 22, 23, 24, 25, 26, 27, 28, 29, 30, 31, 32, 33, 34, 35, 36, 37, 38, 39, 40, 41, 42, 43, 44, 45, 46, 47, 48, 49, 50, 51, 52, 53, 54, 55, 56, 57, 58, 59, 60, 61, 62, 63] rfl (by decide +kernel)) (goodIn_sub (fun _ h => List.mem_cons_of_mem _ (List.mem_append_left _ (List.mem_append_right _ h))) gw_wsX120))) (goodIn_sub (fun _ h => List.mem_cons_of_mem _ (List.mem_append_right _ h)) (all_fg _))
set_option maxRecDepth 20000 in
theorem gX12_tick_X12_export : GoodIn wsX12_tick (wsV RX12 224 RX12 yX12_export wsX12_export) := goodIn_app (goodIn_m (mem_cA (List.mem_cons_of_mem _ (List.mem_append_left _ (List.mem_append_left _ (List.mem_append_left _ (List.mem_of_getElem? (i := 9) rfl))))) (mem_cA (List.mem_cons_of_mem _ (List.mem_append_left _ (List.mem_append_left _ (List.mem_append_left _ (List.mem_of_getElem? (i := 10) rfl))))) (mem_cA (List.mem_cons_of_mem _ (List.mem_append_left _ (List.mem_append_left _ (List.mem_append_left _ (List.mem_of_getElem? (i := 11) rfl))))) (mem_cA (List.mem_cons_of_mem _ (List.mem_append_left _ (List.mem_append_left _ (List.mem_append_left _ (List.mem_of_getElem? (i := 5) rfl))))) mem_cZ)))) (by decide +kernel)) ggX12_tick_X12_export
set_option maxRecDepth 20000 in
theorem ggX12_tick_X12_adapt : GoodIn wsX12_tick wsX12_adapt := goodIn_ca ((goodIn_ca (goodIn_r _ [67, 15, 68, 9, 51, 69, 70, 71, 6, 72, 73, 74, 75, 76, 2, 10, 11, 12, 13, 8, 14, 16, 17, 18, 19, 20, 21, 22, 23, 24, 25, 26, 27, 28, 29, 30, 31, 32, 33, 34, 35, 36, 37, 38, 39, 40, 41, 42, 43, 44, 45, 46, 47, 48, 49, 50, 52, 53, 54, 55, 56, 57, 58, 59, 60, 61, 62, 63] rfl (by decide +kernel)) (goodIn_sub (fun _ h => List.mem_cons_of_mem _ (List.mem_append_left _ (List.mem_append_right _ h))) gw_wsX120))) (goodIn_sub (fun _ h => List.mem_cons_of_mem _ (List.mem_append_right _ h)) (all_fg _))
set_option maxRecDepth 20000 in
theorem gX12_tick_X12_adapt : GoodIn wsX12_tick (wsV RX12 271 RX12 yX12_adapt wsX12_adapt) := goodIn_app (goodIn_m (mem_cA (List.mem_cons_of_mem _ (List.mem_append_left _ (List.mem_append_left _ (List.mem_append_right _ (List.mem_append_right _ (List.mem_append_left _ (List.mem_of_getElem? (i := 15) rfl))))))) (mem_cA (List.mem_cons_of_mem _ (List.mem_append_left _ (List.mem_append_left _ (List.mem_append_right _ (List.mem_append_right _ (List.mem_append_left _ (List.mem_of_getElem? (i := 16) rfl))))))) (mem_cA (List.mem_cons_of_mem _ (List.mem_append_left _ (List.mem_append_left _ (List.mem_append_right _ (List.mem_append_right _ (List.mem_append_left _ (List.mem_of_getElem? (i := 17) rfl))))))) (mem_cA (List.mem_cons_of_mem _ (List.mem_append_left _ (List.mem_append_left _ (List.mem_append_left _ (List.mem_of_getElem? (i := 5) rfl))))) mem_cZ)))) (by decide +kernel)) ggX12_tick_X12_adapt
set_option maxRecDepth 20000 in
theorem ggX12_tick_X12_sendPending : GoodIn wsX12_tick wsX12_sendPending := goodIn_ca ((goodIn_ca (goodIn_r _ [80, 36, 81, 82, 1, 83, 84, 85, 86, 87, 88, 89, 6, 90, 91, 38, 92, 93, 94, 95, 9, 96, 97, 98, 99, 100, 101, 102, 16, 17, 18, 19, 20, 21, 22, 23, 24, 25, 26, 27, 28, 29, 30, 31, 103, 104, 105, 106, 107, 108, 109, 40, 41, 42, 43, 44, 45, 46, 110, 111, 112, 113, 114, 115, 116, 117, 39, 37, 118, 119, 120, 121, 122, 123, 124, 125, 126, 127, 128, 129] rfl (by decide +kernel)) (goodIn_sub (fun _ h => List.mem_cons_of_mem _ (List.mem_append_left _ (List.mem_append_right _ h))) gw_wsX120))) (goodIn_sub (fun _ h => List.mem_cons_of_mem _ (List.mem_append_right _ h)) (all_fg _))
set_option maxRecDepth 20000 in
theorem gX12_tick_X12_sendPending : GoodIn wsX12_tick (wsV RX12 254 RX12 yX12_sendPending wsX12_sendPending) := goodIn_app (goodIn_m (mem_cA (List.mem_cons_of_mem _ (List.mem_append_left _ (List.mem_append_left _ (List.mem_append_right _ (List.mem_append_right _ (List.mem_append_right _ (List.mem_append_left _ (List.mem_of_getElem? (i := 4) rfl)))))))) (mem_cA (List.mem_cons_of_mem _ (List.mem_append_left _ (List.mem_append_left _ (List.mem_append_right _ (List.mem_append_right _ (List.mem_append_right _ (List.mem_append_left _ (List.mem_of_getElem? (i := 5) rfl)))))))) (mem_cA (List.mem_cons_of_mem _ (List.mem_append_left _ (List.mem_append_left _ (List.mem_append_right _ (List.mem_append_right _ (List.mem_append_right _ (List.mem_append_left _ (List.mem_of_getElem? (i := 6) rfl)))))))) (mem_cA (List.mem_cons_of_mem _ (List.mem_append_left _ (List.mem_append_left _ (List.mem_append_left _ (List.mem_of_getElem? (i := 5) rfl))))) mem_cZ)))) (by decide +kernel)) ggX12_tick_X12_sendPending
theorem dX12_tick_0 : decode cX12_tick 0 = .ok (.aload_n 0, 1) := by decide +kernel
theorem dX12_tick_1 : decode cX12_tick 1 = .ok (.dup, 1) := by decide +kernel
theorem dX12_tick_2 : decode cX12_tick 2 = .ok (.getfield 101, 3) := by decide +kernel
theorem dX12_tick_5 : decode cX12_tick 5 = .ok (.iconst 1, 1) := by decide +kernel
theorem dX12_tick_6 : decode cX12_tick 6 = .ok (.iadd, 1) := by decide +kernel
theorem dX12_tick_7 : decode cX12_tick 7 = .ok (.putfield 101, 3) := by decide +kernel
theorem dX12_tick_10 : decode cX12_tick 10 = .ok (.iconst 0, 1) := by decide +kernel
theorem dX12_tick_11 : decode cX12_tick 11 = .ok (.istore_n 1, 1) := by decide +kernel
theorem dX12_tick_12 : decode cX12_tick 12 = .ok (.iconst 0, 1) := by decide +kernel
theorem dX12_tick_13 : decode cX12_tick 13 = .ok (.istore_n 2, 1) := by decide +kernel
theorem dX12_tick_14 : decode cX12_tick 14 = .ok (.iload_n 2, 1) := by decide +kernel
theorem dX12_tick_15 : decode cX12_tick 15 = .ok (.aload_n 0, 1) := by decide +kernel
theorem dX12_tick_16 : decode cX12_tick 16 = .ok (.getfield 133, 3) := by decide +kernel
theorem dX12_tick_19 : decode cX12_tick 19 = .ok (.if_icmp .ge 28, 3) := by decide +kernel
theorem dX12_tick_22 : decode cX12_tick 22 = .ok (.aload_n 0, 1) := by decide +kernel
theorem dX12_tick_23 : decode cX12_tick 23 = .ok (.iload_n 2, 1) := by decide +kernel
theorem dX12_tick_24 : decode cX12_tick 24 = .ok (.invokevirtual 268, 3) := by decide +kernel
theorem dX12_tick_27 : decode cX12_tick 27 = .ok (.ifCond .eq 14, 3) := by decide +kernel
theorem dX12_tick_30 : decode cX12_tick 30 = .ok (.aload_n 0, 1) := by decide +kernel
theorem dX12_tick_31 : decode cX12_tick 31 = .ok (.iload_n 2, 1) := by decide +kernel
theorem dX12_tick_32 : decode cX12_tick 32 = .ok (.invokevirtual 224, 3) := by decide +kernel
theorem dX12_tick_35 : decode cX12_tick 35 = .ok (.iinc 1 1, 3) := by decide +kernel
theorem dX12_tick_38 : decode cX12_tick 38 = .ok (.goto (-24), 3) := by decide +kernel
theorem dX12_tick_41 : decode cX12_tick 41 = .ok (.iinc 2 1, 3) := by decide +kernel
theorem dX12_tick_44 : decode cX12_tick 44 = .ok (.goto (-30), 3) := by decide +kernel
theorem dX12_tick_47 : decode cX12_tick 47 = .ok (.aload_n 0, 1) := by decide +kernel
theorem dX12_tick_48 : decode cX12_tick 48 = .ok (.getfield 101, 3) := by decide +kernel
theorem dX12_tick_51 : decode cX12_tick 51 = .ok (.bipush 100, 2) := by decide +kernel
theorem dX12_tick_53 : decode cX12_tick 53 = .ok (.irem, 1) := by decide +kernel
theorem dX12_tick_54 : decode cX12_tick 54 = .ok (.ifCond .ne 10, 3) := by decide +kernel
theorem dX12_tick_57 : decode cX12_tick 57 = .ok (.iload_n 1, 1) := by decide +kernel
theorem dX12_tick_58 : decode cX12_tick 58 = .ok (.aload_n 0, 1) := by decide +kernel
theorem dX12_tick_59 : decode cX12_tick 59 = .ok (.invokevirtual 271, 3) := by decide +kernel
theorem dX12_tick_62 : decode cX12_tick 62 = .ok (.iadd, 1) := by decide +kernel
theorem dX12_tick_63 : decode cX12_tick 63 = .ok (.istore_n 1, 1) := by decide +kernel
theorem dX12_tick_64 : decode cX12_tick 64 = .ok (.aload_n 0, 1) := by decide +kernel
theorem dX12_tick_65 : decode cX12_tick 65 = .ok (.invokevirtual 254, 3) := by decide +kernel
theorem dX12_tick_68 : decode cX12_tick 68 = .ok (.iload_n 1, 1) := by decide +kernel
theorem dX12_tick_69 : decode cX12_tick 69 = .ok (.ireturn, 1) := by decide +kernel
set_option maxHeartbeats 4000000 in
set_option maxRecDepth 100000 in
theorem r_tick (G : EnvG) (l : Launch) (Φ : Hm) (sz x : Nat) (rd : (Nat → Int32) → Prop) (tp : (Nat → Int32) → Prop) (tt : (Nat → Int64) → Prop) (fl : Nat) (le : Nat) (nx : Nat) (il : Nat) (qu : Nat) (kn : Int32) (ec : Int32) (nu : Int32) (va : Int64) (st : Nat) (ep : Int32) (ad : Int32) (ob : Int64) (ra : Int32) (rt : Nat) (ex : Int32) (sa : Int64) (us : Int64) (tk : Nat) (th : Int32) (me : Int32) (dr : Int32) (se : Int64) (sn : Int64) (c : Cf) (Fs : Nat → Fl) (tm : Nat) (fa : Nat → Int32) (fb : Nat → Int32) (L : Nat → Nat) (sq : Int32) (hx : G.2.2.2 ≤ x) (hI : Im G x (rd, (NNq c), (CaQ fl Fs), tp, tt, (SiQ fa), (AtQ fb), (PtQ 0 (fun _ => 0)), (QlQ qu L), fl, 0, le, nx, il, qu, kn, ec, nu, va, st, ep, (nI tm), ad, ob, ra, rt, ex, sa, us, tk, th, me, dr, se, sn) Φ) (htm : tm < 1000000) (hcw : CfW c) (hg : CfG c) (hcr : CfR c) (hse : se = sq.toInt64 &&& 4294967295) : Ct G l yX12_tick wsX12_tick ({ frames := 8, cells := 0, slots := 0, locals := 175 }) 0 0 [.ref x] Φ sz (fun v Φ1 sz1 => (∃ r9 : Int32, v = some (.int r9)) ∧ sz1 = sz ∧ (∃ (u1 : UN) (fl1 : Nat) (ex1 : Int32) (F1 : Nat → Fl) (fa1 : Nat → Int32) (fb1 : Nat → Int32) (L1 : Nat → Nat) (me1 : Int32) (dr1 : Int32) (se1 : Int64) (sn1 : Int64) (sq1 : Int32) (le1 : Nat) (qu1 : Nat) (rt1 : Nat) (k1 : Nat) (pt1 : (Nat → Int32) → Prop), (fl1 ≤ 12) ∧ (k1 ≤ 24) ∧ (v = some (.int (nI k1)) ∧ tiS c ad (tm + 1) ((fl, Fs, us, 0, fun _ => 0), rt, ex, 0) = ((fl1, F1, u1), rt1, ex1, k1)) ∧ (spS c (nI (tm + 1)) u1.2.2 u1.2.1 (fa, fb, me, sn, sq) (qu, L, dr) = ((fa1, fb1, me1, sn1, sq1), (qu1, L1, dr1))) ∧ (se1 = sq1.toInt64 &&& 4294967295) ∧ Im G x (rd, (NNq c), (CaQ fl1 F1), tp, tt, (SiQ fa1), (AtQ fb1), pt1, (QlQ qu1 L1), fl1, 0, le1, nx, il, qu1, kn, ec, nu, va, st, ep, nI (tm + 1), ad, ob, ra, rt1, ex1, sa, u1.1, tk, th, me1, dr1, se1, sn1) Φ1) ∧ Fr x (fun j9 => j9 = 0 ∨ j9 = 3 ∨ j9 = 4 ∨ j9 = 5 ∨ j9 = 6 ∨ j9 = 7 ∨ j9 = 8 ∨ j9 = 9 ∨ j9 = 10) Φ Φ1) := by
  refine Ct.of (cc := cX12_tick) (maxL := 3) (ret := (some .int)) (by decide) rfl (Nat.le_of_ble_eq_true rfl) ?_
  intro p9 e9 s9 m9 w9 t9 k9 B
  show Z p9 l e9 _ s9 m9 _ w9 t9 k9 _ G 3 0 [(0, .ref x)] [] Φ sz 0 0
  refine z_aload_n B dX12_tick_0 rfl 0 rfl ?_
  refine z_dup B dX12_tick_1 rfl ?_
  obtain ⟨n_1, v_1, n_2, h_1, b_13, b_1, b_2, b_3, b_4, b_5, b_6, b_7, b_8, b_9, b_10, b_11, b_12⟩ := im0 hI
  replace b_1 : 1 ≤ rt := b_1
  replace b_2 : rt ≤ 1024 := b_2
  replace b_3 : fl ≤ 12 := b_3
  replace b_4 : 0 ≤ 24 := b_4
  replace b_5 : le ≤ 700 := b_5
  replace b_6 : qu ≤ 12 := b_6
  replace b_7 : n_1 ≤ 8 := b_7
  replace b_8 : n_2 ≤ 24 := b_8
  replace b_9 : tk ≤ 24 := b_9
  replace b_10 : il ≤ 700 := b_10
  replace b_11 : nx ≤ 701 := b_11
  replace b_12 : st ≤ 701 := b_12
  have h_2 : Φ x = some (o_ 14 [.int th, .ref (x + 1), .ref (x + 2), .int (nI tm), .int ra, .int (nI rt), .int ex, .int ad, .ref (x + 3), .ref (x + 4), .int me, .long se, .ref (x + 5), .int (nI fl), .int dr, .long ob, .long sa, .long sn, .long us, .ref (x + 6), .ref (x + 7), .int (nI 0), .ref (x + 8), .int (nI le), .ref (x + 9), .ref (x + 10), .int (nI qu), .ref (x + 11), .ref (x + 12), .ref (x + 13), .ref (x + 14), .ref (x + 15), .ref (x + 16), .int (nI n_1), .long v_1, .ref (x + 17), .ref (x + 18), .ref (x + 19), .ref (x + 20), .ref (x + 21), .ref (x + 22), .int (nI n_2), .ref (x + 23), .ref (x + 24), .int (nI tk), .ref (x + 25), .int (nI il), .int (nI nx), .int ec, .int ep, .int kn, .int (nI st), .int nu, .long va]) := h_1
  refine z_get (ref := "FlowExporterModel") (C := RX12) (T := TX12) (N := 54) (ci := 14) (v := .int (nI tm)) B hu_X12_tick_X12 rfl 3 (Nat.le_of_ble_eq_true rfl) hv_X12_tick_101 rfl h_2 rfl dX12_tick_2 ?_
  refine z_iconst (v := 1) B dX12_tick_5 rfl ?_
  refine z_iadd B dX12_tick_6 ?_
  refine z_top (st1 := [.int (nI (tm + 1)), .ref x]) (congrArg (fun w9 : Int32 => ([.int w9, .ref x] : List Value)) (nI_add tm 1)) ?_
  refine z_put (ref := "FlowExporterModel") (C := RX12) (T := TX12) (N := 54) (ci := 14) (v := .int (nI (tm + 1))) B hu_X12_tick_X12 tyX12 tyX12_ok nmX12 rfl 3 (Nat.le_of_ble_eq_true rfl) hv_X12_tick_101 rfl (Or.inl rfl) h_2 hx rfl rfl (Nat.le_of_ble_eq_true rfl) dX12_tick_7 (fun Φ1 hΦ1 => ?_)
  have h_3 : Φ1 x = some (o_ 14 [.int th, .ref (x + 1), .ref (x + 2), .int (nI (tm + 1)), .int ra, .int (nI rt), .int ex, .int ad, .ref (x + 3), .ref (x + 4), .int me, .long se, .ref (x + 5), .int (nI fl), .int dr, .long ob, .long sa, .long sn, .long us, .ref (x + 6), .ref (x + 7), .int (nI 0), .ref (x + 8), .int (nI le), .ref (x + 9), .ref (x + 10), .int (nI qu), .ref (x + 11), .ref (x + 12), .ref (x + 13), .ref (x + 14), .ref (x + 15), .ref (x + 16), .int (nI n_1), .long v_1, .ref (x + 17), .ref (x + 18), .ref (x + 19), .ref (x + 20), .ref (x + 21), .ref (x + 22), .int (nI n_2), .ref (x + 23), .ref (x + 24), .int (nI tk), .ref (x + 25), .int (nI il), .int (nI nx), .int ec, .int ep, .int kn, .int (nI st), .int nu, .long va]) := fset_at hΦ1
  have hI1 : Im G x (rd, (NNq c), (CaQ fl Fs), tp, tt, (SiQ fa), (AtQ fb), (PtQ 0 (fun _ => 0)), (QlQ qu L), fl, 0, le, nx, il, qu, kn, ec, nu, va, st, ep, nI (tm + 1), ad, ob, ra, rt, ex, sa, us, tk, th, me, dr, se, sn) Φ1 := Im.put0 hI hΦ1 ⟨n_1, v_1, n_2, rfl, b_13, b_1, b_2, b_3, b_4, b_5, b_6, b_7, b_8, b_9, b_10, b_11, b_12⟩
  refine z_iconst (v := 0) B dX12_tick_10 rfl ?_
  refine z_istore_n (lv' := [(1, .int 0), (0, .ref x)]) B dX12_tick_11 rfl (Nat.le_of_ble_eq_true rfl) rfl ?_
  refine z_iconst (v := 0) B dX12_tick_12 rfl ?_
  refine z_istore_n (lv' := [(2, .int 0), (1, .int 0), (0, .ref x)]) B dX12_tick_13 rfl (Nat.le_of_ble_eq_true rfl) rfl ?_
  refine z_lv [0, 1, 2] rfl ?_
  refine z_loop (α := Nat × Nat × Nat × Nat × Int64 × Int32 × (Nat → Fl) × (Nat → Nat)) (fun (a9 : Nat × Nat × Nat × Nat × Int64 × Int32 × (Nat → Fl) × (Nat → Nat)) Φi => Im G x (rd, (NNq c), (CaQ a9.2.2.1 a9.2.2.2.2.2.2.1), tp, tt, (SiQ fa), (AtQ fb), (PtQ a9.2.2.2.1 a9.2.2.2.2.2.2.2), (QlQ qu L), a9.2.2.1, a9.2.2.2.1, le, nx, il, qu, kn, ec, nu, va, st, ep, nI (tm + 1), ad, ob, ra, rt, a9.2.2.2.2.2.1, sa, a9.2.2.2.2.1, tk, th, me, dr, se, sn) Φi ∧ Fr x (fun j9 => j9 = 0 ∨ j9 = 5 ∨ j9 = 6 ∨ j9 = 7) Φ1 Φi ∧ (a9.1 ≤ 12) ∧ (a9.2.1 ≤ 12) ∧ (a9.1 ≤ a9.2.2.1) ∧ (a9.2.2.1 + a9.2.1 = fl) ∧ (a9.2.2.2.1 ≤ a9.2.1) ∧ (olI c (tm + 1) ((fl, Fs, us, 0, fun _ => 0), 0, 0) (a9.1 + a9.2.1) = ((a9.2.2.1, a9.2.2.2.2.2.2.1, a9.2.2.2.2.1, a9.2.2.2.1, a9.2.2.2.2.2.2.2), a9.1, a9.2.1)) ∧ (a9.2.2.2.2.2.1 = ex + nI a9.2.1) ∧ True) (fun a9 => [(2, .int (nI (a9.1))), (1, .int (nI (a9.2.1))), (0, .ref x)]) (fun a9 => a9.2.2.1 - a9.1) ?_ (0, 0, fl, 0, us, ex, Fs, (fun _ => 0)) ⟨(Im.weak5 hI1 (fun _ q9 => q9) (fun _ q9 => q9) (fun _ q9 => q9) (fun _ q9 => q9) (fun _ q9 => q9) (fun _ q9 => q9) (fun _ q9 => q9) (fun _ q9 => q9) (fun _ q9 => q9)), fun _ _ => rfl, (show 0 ≤ 12 by omega), (show 0 ≤ 12 by omega), (show 0 ≤ fl by omega), (show fl + 0 = fl by omega), (show 0 ≤ 0 by omega), rfl, nadd_0, trivial⟩
  rintro ⟨i_1, i_2, i_3, i_4, i_5, i_6, i_7, i_8⟩ Φl1 ⟨hI2, hF1, b_14, b_15, b_16, b_17, b_18, b_19, b_20, -⟩ ih1
  replace hI2 : Im G x (rd, (NNq c), (CaQ i_3 i_7), tp, tt, (SiQ fa), (AtQ fb), (PtQ i_4 i_8), (QlQ qu L), i_3, i_4, le, nx, il, qu, kn, ec, nu, va, st, ep, nI (tm + 1), ad, ob, ra, rt, i_6, sa, i_5, tk, th, me, dr, se, sn) Φl1 := hI2
  replace b_14 : i_1 ≤ 12 := b_14
  replace b_15 : i_2 ≤ 12 := b_15
  replace b_16 : i_1 ≤ i_3 := b_16
  replace b_17 : i_3 + i_2 = fl := b_17
  replace b_18 : i_4 ≤ i_2 := b_18
  replace b_19 : olI c (tm + 1) ((fl, Fs, us, 0, fun _ => 0), 0, 0) (i_1 + i_2) = ((i_3, i_7, i_5, i_4, i_8), i_1, i_2) := b_19
  replace b_20 : i_6 = ex + nI i_2 := b_20
  show Z p9 l e9 _ s9 m9 _ w9 t9 k9 _ G 3 14 [(2, .int (nI i_1)), (1, .int (nI i_2)), (0, .ref x)] [] Φl1 _ _ _
  refine z_iload_n B dX12_tick_14 rfl 0 rfl ?_
  refine z_aload_n B dX12_tick_15 rfl 2 rfl ?_
  obtain ⟨n_3, v_2, n_4, h_4, b_33, b_21, b_22, b_23, b_24, b_25, b_26, b_27, b_28, b_29, b_30, b_31, b_32⟩ := im0 hI2
  replace b_21 : 1 ≤ rt := b_21
  replace b_22 : rt ≤ 1024 := b_22
  replace b_23 : i_3 ≤ 12 := b_23
  replace b_24 : i_4 ≤ 24 := b_24
  replace b_25 : le ≤ 700 := b_25
  replace b_26 : qu ≤ 12 := b_26
  replace b_27 : n_3 ≤ 8 := b_27
  replace b_28 : n_4 ≤ 24 := b_28
  replace b_29 : tk ≤ 24 := b_29
  replace b_30 : il ≤ 700 := b_30
  replace b_31 : nx ≤ 701 := b_31
  replace b_32 : st ≤ 701 := b_32
  have h_5 : Φl1 x = some (o_ 14 [.int th, .ref (x + 1), .ref (x + 2), .int (nI (tm + 1)), .int ra, .int (nI rt), .int i_6, .int ad, .ref (x + 3), .ref (x + 4), .int me, .long se, .ref (x + 5), .int (nI i_3), .int dr, .long ob, .long sa, .long sn, .long i_5, .ref (x + 6), .ref (x + 7), .int (nI i_4), .ref (x + 8), .int (nI le), .ref (x + 9), .ref (x + 10), .int (nI qu), .ref (x + 11), .ref (x + 12), .ref (x + 13), .ref (x + 14), .ref (x + 15), .ref (x + 16), .int (nI n_3), .long v_2, .ref (x + 17), .ref (x + 18), .ref (x + 19), .ref (x + 20), .ref (x + 21), .ref (x + 22), .int (nI n_4), .ref (x + 23), .ref (x + 24), .int (nI tk), .ref (x + 25), .int (nI il), .int (nI nx), .int ec, .int ep, .int kn, .int (nI st), .int nu, .long va]) := h_4
  refine z_get (ref := "FlowExporterModel") (C := RX12) (T := TX12) (N := 54) (ci := 14) (v := .int (nI i_3)) B hu_X12_tick_X12 rfl 13 (Nat.le_of_ble_eq_true rfl) hv_X12_tick_133 rfl h_5 rfl dX12_tick_16 ?_
  refine z_icmp_ge (tgt := 47) B dX12_tick_19 rfl (fun c_1 => ?_) (fun c_1 => ?_)
  · have e_1 : i_3 ≤ i_1 := (nI_leI (a := i_3) (b := i_1) (by omega) (by omega)).mp c_1
    have hk9 : i_1 = i_3 := by omega
    have hq9 : olI c (tm + 1) ((fl, Fs, us, 0, fun _ => 0), 0, 0) fl = ((i_3, i_7, i_5, i_4, i_8), i_1, i_2) := (congrArg (olI c (tm + 1) ((fl, Fs, us, 0, fun _ => 0), 0, 0)) (show fl = i_1 + i_2 by omega)).trans b_19
    have he9 : i_6 = ex + nI i_2 := b_20
    subst he9
    refine z_aload_n B dX12_tick_47 rfl 2 rfl ?_
    refine z_get (ref := "FlowExporterModel") (C := RX12) (T := TX12) (N := 54) (ci := 14) (v := .int (nI (tm + 1))) B hu_X12_tick_X12 rfl 3 (Nat.le_of_ble_eq_true rfl) hv_X12_tick_101 rfl h_5 rfl dX12_tick_48 ?_
    refine z_bipush (v := 100) B dX12_tick_51 rfl ?_
    refine z_irem B dX12_tick_53 (by decide) ?_
    refine z_top (st1 := [.int (nI ((tm + 1) % 100))]) (congrArg (fun w9 : Int32 => ([.int w9] : List Value)) (pk_rem (a := tm + 1) (d := 100) (by omega) (by decide) (by decide))) ?_
    refine z_if_ne (tgt := 64) B dX12_tick_54 rfl (fun c_2 => ?_) (fun c_2 => ?_)
    · have e_2 : ¬ ((tm + 1) % 100 = 0) := fun h9 => c_2 ((nI_eq (a := (tm + 1) % 100) (b := 0) (by omega) (by omega)).mpr h9)
      refine z_aload_n B dX12_tick_64 rfl 2 rfl ?_
      refine z_callV (As := []) (rest := []) B (r_sendPending G l Φl1 sz x rd (CaQ i_3 i_7) tp tt i_3 i_4 le nx il qu kn ec nu va st ep (nI (tm + 1)) ad ob ra rt (ex + nI i_2) sa i_5 tk th me dr se sn c fa fb i_8 L sq hx hI2 hcw hg hcr hse) (cwV 0 B.1.2.2.2.2 gX12_tick_X12_sendPending rfl rfl rfl (by decide +kernel) ⟨Nat.le_of_ble_eq_true rfl, Nat.le_of_ble_eq_true rfl⟩) h_5 rfl rfl rfl rfl (Nat.le_of_ble_eq_true rfl) dX12_tick_65 ⟨Nat.le_of_ble_eq_true rfl, Nat.le_of_ble_eq_true rfl⟩ (fun r_1 Φ2 sz1 st1 hp1 hs1 => ?_)
      obtain ⟨rfl, hq1, ⟨n_5, n_6, v_3, v_4, n_7, v_5, v_6, v_7, v_8, v_9, b_34, b_35, hI3⟩, hF2⟩ := hp1
      subst sz1
      replace hs1 : st1 = [] := hs1
      subst st1
      replace hI3 : Im G x (rd, (NNq c), (CaQ i_3 i_7), tp, tt, SiQ v_3, AtQ v_4, PtQ 0 P, QlQ n_6 n_7, i_3, 0, n_5, nx, il, n_6, kn, ec, nu, va, st, ep, nI (tm + 1), ad, ob, ra, rt, ex + nI i_2, sa, i_5, tk, th, v_5, v_6, v_7, v_8) Φ2 := hI3
      replace b_34 : spS c (nI (tm + 1)) i_8 i_4 (fa, fb, me, sn, sq) (qu, L, dr) = ((v_3, v_4, v_5, v_8, v_9), (n_6, n_7, v_6)) := b_34
      replace b_35 : v_7 = v_9.toInt64 &&& 4294967295 := b_35
      have hI4 : Im G x (rd, (NNq c), (CaQ i_3 i_7), tp, tt, SiQ v_3, AtQ v_4, (PtQ 0 (fun _ => 0)), QlQ n_6 n_7, i_3, 0, n_5, nx, il, n_6, kn, ec, nu, va, st, ep, nI (tm + 1), ad, ob, ra, rt, ex + nI i_2, sa, i_5, tk, th, v_5, v_6, v_7, v_8) Φ2 := Im.weak5 hI3 (fun _ q9 => q9) (fun _ q9 => q9) (fun _ q9 => q9) (fun _ q9 => q9) (fun _ q9 => q9) (fun _ q9 => q9) (fun _ q9 => q9) (fun _ _ => PtQ.z) (fun _ q9 => q9)
      refine z_iload_n B dX12_tick_68 rfl 1 rfl ?_
      exact z_ret_i B dX12_tick_69 ⟨⟨_, rfl⟩, rfl, ⟨(i_5, i_4, i_8), i_3, ex + nI i_2, i_7, v_3, v_4, n_7, v_5, v_6, v_7, v_8, v_9, n_5, n_6, rt, 0 + i_2, (PtQ 0 (fun _ => 0)), (show i_3 ≤ 12 by omega), (show (0 + i_2) ≤ 24 by omega), ⟨congrArg (fun w8 : Nat => some (Value.int (nI w8))) (Nat.zero_add i_2).symm, tiS_0 hq9 (by omega)⟩, b_34, b_35, hI4⟩, (fun b9 h9 => ((hF2 b9 (fun j9 h8 h7 => h9 j9 h8 (fq_1033 j9 h7))).trans ((hF1 b9 (fun j9 h8 h7 => h9 j9 h8 (fq_1032 j9 h7))).trans ((fset_fr hΦ1 (fun h8 => h9 (0) h8 (show 0 = 0 ∨ 0 = 3 ∨ 0 = 4 ∨ 0 = 5 ∨ 0 = 6 ∨ 0 = 7 ∨ 0 = 8 ∨ 0 = 9 ∨ 0 = 10 by decide))).trans rfl))))⟩
    · have e_3 : (tm + 1) % 100 = 0 := (nI_eq (a := (tm + 1) % 100) (b := 0) (by omega) (by omega)).mp c_2
      refine z_iload_n B dX12_tick_57 rfl 1 rfl ?_
      refine z_aload_n B dX12_tick_58 rfl 2 rfl ?_
      refine z_callV (As := []) (rest := [.int (nI i_2)]) B (r_adapt G l Φl1 sz x rd tp tt (SiQ fa) (AtQ fb) (QlQ qu L) i_3 i_4 le nx il qu kn ec nu va st ep (nI (tm + 1)) ad ob ra rt (ex + nI i_2) sa i_5 tk th me dr se sn c i_7 i_8 hx hI2 (show i_4 + i_3 ≤ 12 by omega)) (cwV 0 B.1.2.2.2.2 gX12_tick_X12_adapt rfl rfl rfl (by decide +kernel) ⟨Nat.le_of_ble_eq_true rfl, Nat.le_of_ble_eq_true rfl⟩) h_5 rfl rfl rfl rfl (Nat.le_of_ble_eq_true rfl) dX12_tick_59 ⟨Nat.le_of_ble_eq_true rfl, Nat.le_of_ble_eq_true rfl⟩ (fun r_2 Φ3 sz2 st2 hp2 hs2 => ?_)
      obtain ⟨⟨v_11, rfl⟩, hq2, ⟨n_8, n_9, v_10, n_10, n_11, n_12, b_36, b_37, b_38, hI5⟩, hF3⟩ := hp2
      subst sz2
      replace hs2 : st2 = [.int v_11, .int (nI i_2)] := hs2
      subst st2
      replace hI5 : Im G x (rd, (NNq c), CaQ n_9 n_10, tp, tt, (SiQ fa), (AtQ fb), PtQ n_8.2.1 n_8.2.2, (QlQ qu L), n_9, n_8.2.1, le, nx, il, qu, kn, ec, nu, va, st, ep, nI (tm + 1), ad, ob, ra, n_11, v_10, sa, n_8.1, tk, th, me, dr, se, sn) Φ3 := hI5
      replace b_36 : n_9 ≤ i_3 := b_36
      replace b_37 : n_8.2.1 ≤ i_4 + i_3 := b_37
      replace b_38 : (some (Value.int v_11)) = some (.int (nI n_12)) ∧ adF c ad (i_3, i_7, i_5, i_4, i_8) (ex + nI i_2) rt = (n_12, (n_9, n_10, n_8), v_10, n_11) := b_38
      obtain ⟨hv1, ha1⟩ := b_38
      have hq3 : v_11 = nI n_12 := Value.int.inj (Option.some.inj hv1)
      subst hq3
      have := adF_k ha1
      refine z_iadd B dX12_tick_62 ?_
      refine z_top (st1 := [.int (nI (i_2 + n_12))]) (congrArg (fun w9 : Int32 => ([.int w9] : List Value)) (nI_add i_2 n_12)) ?_
      refine z_istore_n (lv' := [(1, .int (nI (i_2 + n_12))), (2, .int (nI i_1)), (0, .ref x)]) B dX12_tick_63 rfl (Nat.le_of_ble_eq_true rfl) rfl ?_
      refine z_aload_n B dX12_tick_64 rfl 2 rfl ?_
      obtain ⟨n_13, v_12, n_14, h_6, b_51, b_39, b_40, b_41, b_42, b_43, b_44, b_45, b_46, b_47, b_48, b_49, b_50⟩ := im0 hI5
      replace b_39 : 1 ≤ n_11 := b_39
      replace b_40 : n_11 ≤ 1024 := b_40
      replace b_41 : n_9 ≤ 12 := b_41
      replace b_42 : n_8.2.1 ≤ 24 := b_42
      replace b_43 : le ≤ 700 := b_43
      replace b_44 : qu ≤ 12 := b_44
      replace b_45 : n_13 ≤ 8 := b_45
      replace b_46 : n_14 ≤ 24 := b_46
      replace b_47 : tk ≤ 24 := b_47
      replace b_48 : il ≤ 700 := b_48
      replace b_49 : nx ≤ 701 := b_49
      replace b_50 : st ≤ 701 := b_50
      have h_7 : Φ3 x = some (o_ 14 [.int th, .ref (x + 1), .ref (x + 2), .int (nI (tm + 1)), .int ra, .int (nI n_11), .int v_10, .int ad, .ref (x + 3), .ref (x + 4), .int me, .long se, .ref (x + 5), .int (nI n_9), .int dr, .long ob, .long sa, .long sn, .long n_8.1, .ref (x + 6), .ref (x + 7), .int (nI n_8.2.1), .ref (x + 8), .int (nI le), .ref (x + 9), .ref (x + 10), .int (nI qu), .ref (x + 11), .ref (x + 12), .ref (x + 13), .ref (x + 14), .ref (x + 15), .ref (x + 16), .int (nI n_13), .long v_12, .ref (x + 17), .ref (x + 18), .ref (x + 19), .ref (x + 20), .ref (x + 21), .ref (x + 22), .int (nI n_14), .ref (x + 23), .ref (x + 24), .int (nI tk), .ref (x + 25), .int (nI il), .int (nI nx), .int ec, .int ep, .int kn, .int (nI st), .int nu, .long va]) := h_6
      refine z_callV (As := []) (rest := []) B (r_sendPending G l Φ3 sz x rd (CaQ n_9 n_10) tp tt n_9 n_8.2.1 le nx il qu kn ec nu va st ep (nI (tm + 1)) ad ob ra n_11 v_10 sa n_8.1 tk th me dr se sn c fa fb n_8.2.2 L sq hx hI5 hcw hg hcr hse) (cwV 0 B.1.2.2.2.2 gX12_tick_X12_sendPending rfl rfl rfl (by decide +kernel) ⟨Nat.le_of_ble_eq_true rfl, Nat.le_of_ble_eq_true rfl⟩) h_7 rfl rfl rfl rfl (Nat.le_of_ble_eq_true rfl) dX12_tick_65 ⟨Nat.le_of_ble_eq_true rfl, Nat.le_of_ble_eq_true rfl⟩ (fun r_3 Φ4 sz3 st3 hp3 hs3 => ?_)
      obtain ⟨rfl, hq4, ⟨n_15, n_16, v_13, v_14, n_17, v_15, v_16, v_17, v_18, v_19, b_52, b_53, hI6⟩, hF4⟩ := hp3
      subst sz3
      replace hs3 : st3 = [] := hs3
      subst st3
      replace hI6 : Im G x (rd, (NNq c), CaQ n_9 n_10, tp, tt, SiQ v_13, AtQ v_14, PtQ 0 P, QlQ n_16 n_17, n_9, 0, n_15, nx, il, n_16, kn, ec, nu, va, st, ep, nI (tm + 1), ad, ob, ra, n_11, v_10, sa, n_8.1, tk, th, v_15, v_16, v_17, v_18) Φ4 := hI6
      replace b_52 : spS c (nI (tm + 1)) (n_8.2.2) (n_8.2.1) (fa, fb, me, sn, sq) (qu, L, dr) = ((v_13, v_14, v_15, v_18, v_19), (n_16, n_17, v_16)) := b_52
      replace b_53 : v_17 = v_19.toInt64 &&& 4294967295 := b_53
      have hI7 : Im G x (rd, (NNq c), CaQ n_9 n_10, tp, tt, SiQ v_13, AtQ v_14, (PtQ 0 (fun _ => 0)), QlQ n_16 n_17, n_9, 0, n_15, nx, il, n_16, kn, ec, nu, va, st, ep, nI (tm + 1), ad, ob, ra, n_11, v_10, sa, n_8.1, tk, th, v_15, v_16, v_17, v_18) Φ4 := Im.weak5 hI6 (fun _ q9 => q9) (fun _ q9 => q9) (fun _ q9 => q9) (fun _ q9 => q9) (fun _ q9 => q9) (fun _ q9 => q9) (fun _ q9 => q9) (fun _ _ => PtQ.z) (fun _ q9 => q9)
      refine z_iload_n B dX12_tick_68 rfl 0 rfl ?_
      exact z_ret_i B dX12_tick_69 ⟨⟨_, rfl⟩, rfl, ⟨n_8, n_9, v_10, n_10, v_13, v_14, n_17, v_15, v_16, v_17, v_18, v_19, n_15, n_16, n_11, 0 + (i_2 + n_12), (PtQ 0 (fun _ => 0)), (show n_9 ≤ 12 by omega), (show (0 + (i_2 + n_12)) ≤ 24 by omega), ⟨congrArg (fun w8 : Nat => some (Value.int (nI w8))) (Nat.zero_add (i_2 + n_12)).symm, tiS_a hq9 (by omega) ha1⟩, b_52, b_53, hI7⟩, (fun b9 h9 => ((hF4 b9 (fun j9 h8 h7 => h9 j9 h8 (fq_1033 j9 h7))).trans ((hF3 b9 (fun j9 h8 h7 => h9 j9 h8 (fq_1032 j9 h7))).trans ((hF1 b9 (fun j9 h8 h7 => h9 j9 h8 (fq_1032 j9 h7))).trans ((fset_fr hΦ1 (fun h8 => h9 (0) h8 (show 0 = 0 ∨ 0 = 3 ∨ 0 = 4 ∨ 0 = 5 ∨ 0 = 6 ∨ 0 = 7 ∨ 0 = 8 ∨ 0 = 9 ∨ 0 = 10 by decide))).trans rfl)))))⟩
  · have e_4 : ¬ (i_3 ≤ i_1) := fun h9 => c_1 ((nI_leI (a := i_3) (b := i_1) (by omega) (by omega)).mpr h9)
    refine z_aload_n B dX12_tick_22 rfl 2 rfl ?_
    refine z_iload_n B dX12_tick_23 rfl 0 rfl ?_
    refine z_callV (As := [.int (nI i_1)]) (rest := []) B (r_isOver G l Φl1 sz x rd tp tt (SiQ fa) (AtQ fb) (PtQ i_4 i_8) (QlQ qu L) i_3 i_4 le nx il qu kn ec nu va st ep ad ob ra rt i_6 sa i_5 tk th me dr se sn c i_7 (tm + 1) i_1 hx hI2 (show i_1 < i_3 by omega) (show i_1 < 12 by omega) (show (tm + 1) ≤ 1000000 by omega)) (cwV 1 B.1.2.2.2.2 gX12_tick_X12_isOver rfl rfl rfl (by decide +kernel) ⟨Nat.le_of_ble_eq_true rfl, Nat.le_of_ble_eq_true rfl⟩) h_5 rfl rfl rfl rfl (Nat.le_of_ble_eq_true rfl) dX12_tick_24 ⟨Nat.le_of_ble_eq_true rfl, Nat.le_of_ble_eq_true rfl⟩ (fun r_4 Φ5 sz4 st4 hp4 hs4 => ?_)
    obtain ⟨ha2, hq5, hI8, hF5⟩ := hp4
    subst sz4
    replace hI8 : Im G x (rd, (NNq c), (CaQ i_3 i_7), tp, tt, (SiQ fa), (AtQ fb), (PtQ i_4 i_8), (QlQ qu L), i_3, i_4, le, nx, il, qu, kn, ec, nu, va, st, ep, nI (tm + 1), ad, ob, ra, rt, i_6, sa, i_5, tk, th, me, dr, se, sn) Φ5 := hI8
    rcases ha2 with ⟨rfl, e_5⟩ | ⟨rfl, e_6⟩
    · replace hs4 : st4 = [.int 1] := hs4
      subst st4
      replace e_5 : ovr c (tm + 1) (i_7 i_1) := e_5
      refine z_if_eq (tgt := 41) B dX12_tick_27 rfl (fun h9 => absurd h9 (by decide)) (fun c_3 => ?_)
      refine z_aload_n B dX12_tick_30 rfl 2 rfl ?_
      refine z_iload_n B dX12_tick_31 rfl 0 rfl ?_
      have h_8 : Φ5 x = some (o_ 14 [.int th, .ref (x + 1), .ref (x + 2), .int (nI (tm + 1)), .int ra, .int (nI rt), .int i_6, .int ad, .ref (x + 3), .ref (x + 4), .int me, .long se, .ref (x + 5), .int (nI i_3), .int dr, .long ob, .long sa, .long sn, .long i_5, .ref (x + 6), .ref (x + 7), .int (nI i_4), .ref (x + 8), .int (nI le), .ref (x + 9), .ref (x + 10), .int (nI qu), .ref (x + 11), .ref (x + 12), .ref (x + 13), .ref (x + 14), .ref (x + 15), .ref (x + 16), .int (nI n_3), .long v_2, .ref (x + 17), .ref (x + 18), .ref (x + 19), .ref (x + 20), .ref (x + 21), .ref (x + 22), .int (nI n_4), .ref (x + 23), .ref (x + 24), .int (nI tk), .ref (x + 25), .int (nI il), .int (nI nx), .int ec, .int ep, .int kn, .int (nI st), .int nu, .long va]) := ((hF5 x (fun j9 h8 h7 => (show False from h7).elim)).trans h_5)
      refine z_callV (As := [.int (nI i_1)]) (rest := []) B (r_export G l Φ5 sz x rd tp tt (SiQ fa) (AtQ fb) (QlQ qu L) i_3 i_4 le nx il qu kn ec nu va st ep (nI (tm + 1)) ad ob ra rt i_6 sa i_5 tk th me dr se sn c i_7 i_8 i_1 hx hI8 (show i_1 < i_3 by omega) (show i_4 < 12 by omega)) (cwV 1 B.1.2.2.2.2 gX12_tick_X12_export rfl rfl rfl (by decide +kernel) ⟨Nat.le_of_ble_eq_true rfl, Nat.le_of_ble_eq_true rfl⟩) h_8 rfl rfl rfl rfl (Nat.le_of_ble_eq_true rfl) dX12_tick_32 ⟨Nat.le_of_ble_eq_true rfl, Nat.le_of_ble_eq_true rfl⟩ (fun r_5 Φ6 sz5 st5 hp5 hs5 => ?_)
      obtain ⟨rfl, hq6, ⟨n_18, b_54, b_55, hI9⟩, hF6⟩ := hp5
      subst sz5
      replace hs5 : st5 = [] := hs5
      subst st5
      replace hI9 : Im G x (rd, (NNq c), CaQ (i_3 - 1) (shF i_7 i_1), tp, tt, (SiQ fa), (AtQ fb), PtQ n_18.2.1 n_18.2.2, (QlQ qu L), i_3 - 1, n_18.2.1, le, nx, il, qu, kn, ec, nu, va, st, ep, nI (tm + 1), ad, ob, ra, rt, i_6 + 1, sa, n_18.1, tk, th, me, dr, se, sn) Φ6 := hI9
      replace b_54 : n_18.2.1 ≤ i_4 + 1 := b_54
      replace b_55 : unE c (i_7 i_1).1 (i_5, i_4, i_8) = n_18 := b_55
      refine z_iinc (k := 1) (v := nI (i_2 + 1)) (lv' := [(1, .int (nI (i_2 + 1))), (2, .int (nI i_1)), (0, .ref x)]) B dX12_tick_35 rfl (nI_add i_2 1) (Nat.le_of_ble_eq_true rfl) rfl ?_
      refine z_goto (tgt := 14) B dX12_tick_38 rfl ?_
      refine z_lv [1, 0, 2] rfl ?_
      exact ih1 (i_1, i_2 + 1, i_3 - 1, n_18.2.1, n_18.1, i_6 + 1, (shF i_7 i_1), n_18.2.2) Φ6 (show (i_3 - 1) - i_1 < i_3 - i_1 by omega) ⟨(Im.weak5 hI9 (fun _ q9 => q9) (fun _ q9 => q9) (fun _ q9 => q9) (fun _ q9 => q9) (fun _ q9 => q9) (fun _ q9 => q9) (fun _ q9 => q9) (fun _ q9 => q9) (fun _ q9 => q9)), (fun b9 h9 => ((hF6 b9 h9).trans ((hF5 b9 (fun j9 h8 h7 => (show False from h7).elim)).trans ((hF1 b9 h9).trans rfl)))), (show i_1 ≤ 12 by omega), (show (i_2 + 1) ≤ 12 by omega), (show i_1 ≤ (i_3 - 1) by omega), (show (i_3 - 1) + (i_2 + 1) = fl by omega), (show (n_18.2.1) ≤ (i_2 + 1) by omega), ((olI_y b_19 e_5).trans (congrArg (fun w9 : UN => ((i_3 - 1, shF i_7 i_1, w9), i_1, i_2 + 1)) b_55)), ((congrArg (fun w9 : Int32 => w9 + 1) b_20).trans (nadd _ _)), trivial⟩
    · replace hs4 : st4 = [.int 0] := hs4
      subst st4
      replace e_6 : ¬ ovr c (tm + 1) (i_7 i_1) := e_6
      refine z_if_eq (tgt := 41) B dX12_tick_27 rfl (fun c_4 => ?_) (fun h9 => absurd (by decide) h9)
      refine z_iinc (k := 0) (v := nI (i_1 + 1)) (lv' := [(2, .int (nI (i_1 + 1))), (1, .int (nI i_2)), (0, .ref x)]) B dX12_tick_41 rfl (nI_add i_1 1) (Nat.le_of_ble_eq_true rfl) rfl ?_
      refine z_goto (tgt := 14) B dX12_tick_44 rfl ?_
      refine z_lv [0, 1, 2] rfl ?_
      exact ih1 (i_1 + 1, i_2, i_3, i_4, i_5, i_6, i_7, i_8) Φ5 (show i_3 - (i_1 + 1) < i_3 - i_1 by omega) ⟨(Im.weak5 hI8 (fun _ q9 => q9) (fun _ q9 => q9) (fun _ q9 => q9) (fun _ q9 => q9) (fun _ q9 => q9) (fun _ q9 => q9) (fun _ q9 => q9) (fun _ q9 => q9) (fun _ q9 => q9)), (fun b9 h9 => ((hF5 b9 (fun j9 h8 h7 => (show False from h7).elim)).trans ((hF1 b9 h9).trans rfl))), (show (i_1 + 1) ≤ 12 by omega), (show i_2 ≤ 12 by omega), (show (i_1 + 1) ≤ i_3 by omega), (show i_3 + i_2 = fl by omega), (show i_4 ≤ i_2 by omega), (show olI c (tm + 1) ((fl, Fs, us, 0, fun _ => 0), 0, 0) ((i_1 + 1) + i_2) = ((i_3, i_7, i_5, i_4, i_8), (i_1 + 1), i_2) from (by rw [show i_1 + 1 + i_2 = i_1 + i_2 + 1 by omega]; exact olI_n b_19 e_6)), b_20, trivial⟩

theorem hu_X12_flush_X12 : ∀ w ∈ u_ws RX12 TX12 54, w ∈ wsX12_flush := fun _ h => List.mem_cons_of_mem _ (List.mem_append_left _ (List.mem_append_right _ (h)))

theorem hv_X12_flush_1 : Cond.fieldLink RX12 1 "FlowExporterModel" (TX12 0).2.1 (TX12 0).2.2.1 ∈ wsX12_flush := List.mem_cons_of_mem _ (List.mem_append_left _ (List.mem_append_left _ (List.mem_append_left _ (List.mem_of_getElem? (i := 0) rfl))))

set_option maxHeartbeats 4000000 in
set_option maxRecDepth 100000 in
theorem r_flush (G : EnvG) (l : Launch) (Φ : Hm) (sz x : Nat) (rd : (Nat → Int32) → Prop) (tp : (Nat → Int32) → Prop) (tt : (Nat → Int64) → Prop) (fl : Nat) (le : Nat) (nx : Nat) (il : Nat) (qu : Nat) (kn : Int32) (ec : Int32) (nu : Int32) (va : Int64) (st : Nat) (ep : Int32) (ti : Int32) (ad : Int32) (ob : Int64) (ra : Int32) (rt : Nat) (ex : Int32) (sa : Int64) (us : Int64) (tk : Nat) (th : Int32) (me : Int32) (dr : Int32) (se : Int64) (sn : Int64) (c : Cf) (Fs : Nat → Fl) (fa : Nat → Int32) (fb : Nat → Int32) (L : Nat → Nat) (sq : Int32) (hx : G.2.2.2 ≤ x) (hI : Im G x (rd, (NNq c), (CaQ fl Fs), tp, tt, (SiQ fa), (AtQ fb), (PtQ 0 (fun _ => 0)), (QlQ qu L), fl, 0, le, nx, il, qu, kn, ec, nu, va, st, ep, ti, ad, ob, ra, rt, ex, sa, us, tk, th, me, dr, se, sn) Φ) (hcw : CfW c) (hg : CfG c) (hcr : CfR c) (hse : se = sq.toInt64 &&& 4294967295) : Ct G l yX12_flush wsX12_flush ({ frames := 6, cells := 0, slots := 0, locals := 139 }) 0 0 [.ref x] Φ sz (fun v Φ1 sz1 => (v = some (.int (nI fl))) ∧ sz1 = sz ∧ (∃ (fa1 : Nat → Int32) (fb1 : Nat → Int32) (L1 : Nat → Nat) (me1 : Int32) (dr1 : Int32) (se1 : Int64) (sn1 : Int64) (sq1 : Int32) (le1 : Nat) (qu1 : Nat) (u1 : UN) (F1 : Nat → Fl) (th1 : Int32) (pt1 : (Nat → Int32) → Prop), (exI c (fl, Fs, us, 0, fun _ => 0) fl = (0, F1, u1)) ∧ (spS c ti u1.2.2 u1.2.1 (fa, fb, me, sn, sq) (qu, L, dr) = ((fa1, fb1, me1, sn1, sq1), (qu1, L1, dr1))) ∧ (se1 = sq1.toInt64 &&& 4294967295) ∧ Im G x (rd, (NNq c), (CaQ 0 F1), tp, tt, (SiQ fa1), (AtQ fb1), pt1, (QlQ qu1 L1), 0, 0, le1, nx, il, qu1, kn, ec, nu, va, st, ep, ti, ad, ob, ra, rt, ex + nI fl, sa, u1.1, tk, th1, me1, dr1, se1, sn1) Φ1) ∧ Fr x (fun j9 => j9 = 0 ∨ j9 = 3 ∨ j9 = 4 ∨ j9 = 5 ∨ j9 = 6 ∨ j9 = 7 ∨ j9 = 8 ∨ j9 = 9 ∨ j9 = 10) Φ Φ1) := by
  refine Ct.of (cc := cX12_flush) (maxL := 2) (ret := (some .int)) (by decide) rfl (Nat.le_of_ble_eq_true rfl) ?_
  intro p9 e9 s9 m9 w9 t9 k9 B
  show Z p9 l e9 _ s9 m9 _ w9 t9 k9 _ G 2 0 [(0, .ref x)] [] Φ sz 0 0
  refine z_aload_n B dX12_flush_0 rfl 0 rfl ?_
  refine z_iconst (v := 0) B dX12_flush_1 rfl ?_
  obtain ⟨n_1, v_1, n_2, h_1, b_13, b_1, b_2, b_3, b_4, b_5, b_6, b_7, b_8, b_9, b_10, b_11, b_12⟩ := im0 hI
  replace b_1 : 1 ≤ rt := b_1
  replace b_2 : rt ≤ 1024 := b_2
  replace b_3 : fl ≤ 12 := b_3
  replace b_4 : 0 ≤ 24 := b_4
  replace b_5 : le ≤ 700 := b_5
  replace b_6 : qu ≤ 12 := b_6
  replace b_7 : n_1 ≤ 8 := b_7
  replace b_8 : n_2 ≤ 24 := b_8
  replace b_9 : tk ≤ 24 := b_9
  replace b_10 : il ≤ 700 := b_10
  replace b_11 : nx ≤ 701 := b_11
  replace b_12 : st ≤ 701 := b_12
  have h_2 : Φ x = some (o_ 14 [.int th, .ref (x + 1), .ref (x + 2), .int ti, .int ra, .int (nI rt), .int ex, .int ad, .ref (x + 3), .ref (x + 4), .int me, .long se, .ref (x + 5), .int (nI fl), .int dr, .long ob, .long sa, .long sn, .long us, .ref (x + 6), .ref (x + 7), .int (nI 0), .ref (x + 8), .int (nI le), .ref (x + 9), .ref (x + 10), .int (nI qu), .ref (x + 11), .ref (x + 12), .ref (x + 13), .ref (x + 14), .ref (x + 15), .ref (x + 16), .int (nI n_1), .long v_1, .ref (x + 17), .ref (x + 18), .ref (x + 19), .ref (x + 20), .ref (x + 21), .ref (x + 22), .int (nI n_2), .ref (x + 23), .ref (x + 24), .int (nI tk), .ref (x + 25), .int (nI il), .int (nI nx), .int ec, .int ep, .int kn, .int (nI st), .int nu, .long va]) := h_1
  refine z_put (ref := "FlowExporterModel") (C := RX12) (T := TX12) (N := 54) (ci := 14) (v := .int 0) B hu_X12_flush_X12 tyX12 tyX12_ok nmX12 rfl 0 (Nat.le_of_ble_eq_true rfl) hv_X12_flush_1 rfl (Or.inl rfl) h_2 hx rfl rfl (Nat.le_of_ble_eq_true rfl) dX12_flush_2 (fun Φ1 hΦ1 => ?_)
  have h_3 : Φ1 x = some (o_ 14 [.int 0, .ref (x + 1), .ref (x + 2), .int ti, .int ra, .int (nI rt), .int ex, .int ad, .ref (x + 3), .ref (x + 4), .int me, .long se, .ref (x + 5), .int (nI fl), .int dr, .long ob, .long sa, .long sn, .long us, .ref (x + 6), .ref (x + 7), .int (nI 0), .ref (x + 8), .int (nI le), .ref (x + 9), .ref (x + 10), .int (nI qu), .ref (x + 11), .ref (x + 12), .ref (x + 13), .ref (x + 14), .ref (x + 15), .ref (x + 16), .int (nI n_1), .long v_1, .ref (x + 17), .ref (x + 18), .ref (x + 19), .ref (x + 20), .ref (x + 21), .ref (x + 22), .int (nI n_2), .ref (x + 23), .ref (x + 24), .int (nI tk), .ref (x + 25), .int (nI il), .int (nI nx), .int ec, .int ep, .int kn, .int (nI st), .int nu, .long va]) := fset_at hΦ1
  have hI1 : Im G x (rd, (NNq c), (CaQ fl Fs), tp, tt, (SiQ fa), (AtQ fb), (PtQ 0 (fun _ => 0)), (QlQ qu L), fl, 0, le, nx, il, qu, kn, ec, nu, va, st, ep, ti, ad, ob, ra, rt, ex, sa, us, tk, 0, me, dr, se, sn) Φ1 := Im.put0 hI hΦ1 ⟨n_1, v_1, n_2, rfl, b_13, b_1, b_2, b_3, b_4, b_5, b_6, b_7, b_8, b_9, b_10, b_11, b_12⟩
  refine z_aload_n B dX12_flush_5 rfl 0 rfl ?_
  refine z_callV (As := []) (rest := []) B (r_exportAll G l Φ1 sz x rd tp tt (SiQ fa) (AtQ fb) (QlQ qu L) fl 0 le nx il qu kn ec nu va st ep ti ad ob ra rt ex sa us tk 0 me dr se sn c Fs (fun _ => 0) hx hI1 (show 0 + fl ≤ 12 by omega)) (cwV 0 B.1.2.2.2.2 gX12_flush_X12_exportAll rfl rfl rfl (by decide +kernel) ⟨Nat.le_of_ble_eq_true rfl, Nat.le_of_ble_eq_true rfl⟩) h_3 rfl rfl rfl rfl (Nat.le_of_ble_eq_true rfl) dX12_flush_6 ⟨Nat.le_of_ble_eq_true rfl, Nat.le_of_ble_eq_true rfl⟩ (fun r_1 Φ2 sz1 st1 hp1 hs1 => ?_)
  obtain ⟨rfl, hq1, ⟨n_3, n_4, b_14, b_15, hI2⟩, hF1⟩ := hp1
  subst sz1
  replace hs1 : st1 = [.int (nI fl)] := hs1
  subst st1
  replace hI2 : Im G x (rd, (NNq c), CaQ 0 n_4, tp, tt, (SiQ fa), (AtQ fb), PtQ n_3.2.1 n_3.2.2, (QlQ qu L), 0, n_3.2.1, le, nx, il, qu, kn, ec, nu, va, st, ep, ti, ad, ob, ra, rt, ex + nI fl, sa, n_3.1, tk, 0, me, dr, se, sn) Φ2 := hI2
  replace b_14 : n_3.2.1 ≤ 0 + fl := b_14
  replace b_15 : exI c (fl, Fs, us, 0, ((fun _ => 0))) fl = (0, n_4, n_3) := b_15
  refine z_istore_n (lv' := [(1, .int (nI fl)), (0, .ref x)]) B dX12_flush_9 rfl (Nat.le_of_ble_eq_true rfl) rfl ?_
  refine z_aload_n B dX12_flush_10 rfl 1 rfl ?_
  obtain ⟨n_5, v_2, n_6, h_4, b_28, b_16, b_17, b_18, b_19, b_20, b_21, b_22, b_23, b_24, b_25, b_26, b_27⟩ := im0 hI2
  replace b_16 : 1 ≤ rt := b_16
  replace b_17 : rt ≤ 1024 := b_17
  replace b_18 : 0 ≤ 12 := b_18
  replace b_19 : n_3.2.1 ≤ 24 := b_19
  replace b_20 : le ≤ 700 := b_20
  replace b_21 : qu ≤ 12 := b_21
  replace b_22 : n_5 ≤ 8 := b_22
  replace b_23 : n_6 ≤ 24 := b_23
  replace b_24 : tk ≤ 24 := b_24
  replace b_25 : il ≤ 700 := b_25
  replace b_26 : nx ≤ 701 := b_26
  replace b_27 : st ≤ 701 := b_27
  have h_5 : Φ2 x = some (o_ 14 [.int 0, .ref (x + 1), .ref (x + 2), .int ti, .int ra, .int (nI rt), .int (ex + nI fl), .int ad, .ref (x + 3), .ref (x + 4), .int me, .long se, .ref (x + 5), .int (nI 0), .int dr, .long ob, .long sa, .long sn, .long n_3.1, .ref (x + 6), .ref (x + 7), .int (nI n_3.2.1), .ref (x + 8), .int (nI le), .ref (x + 9), .ref (x + 10), .int (nI qu), .ref (x + 11), .ref (x + 12), .ref (x + 13), .ref (x + 14), .ref (x + 15), .ref (x + 16), .int (nI n_5), .long v_2, .ref (x + 17), .ref (x + 18), .ref (x + 19), .ref (x + 20), .ref (x + 21), .ref (x + 22), .int (nI n_6), .ref (x + 23), .ref (x + 24), .int (nI tk), .ref (x + 25), .int (nI il), .int (nI nx), .int ec, .int ep, .int kn, .int (nI st), .int nu, .long va]) := h_4
  refine z_callV (As := []) (rest := []) B (r_sendPending G l Φ2 sz x rd (CaQ 0 n_4) tp tt 0 n_3.2.1 le nx il qu kn ec nu va st ep ti ad ob ra rt (ex + nI fl) sa n_3.1 tk 0 me dr se sn c fa fb n_3.2.2 L sq hx hI2 hcw hg hcr hse) (cwV 0 B.1.2.2.2.2 gX12_flush_X12_sendPending rfl rfl rfl (by decide +kernel) ⟨Nat.le_of_ble_eq_true rfl, Nat.le_of_ble_eq_true rfl⟩) h_5 rfl rfl rfl rfl (Nat.le_of_ble_eq_true rfl) dX12_flush_11 ⟨Nat.le_of_ble_eq_true rfl, Nat.le_of_ble_eq_true rfl⟩ (fun r_2 Φ3 sz2 st2 hp2 hs2 => ?_)
  obtain ⟨rfl, hq2, ⟨n_7, n_8, v_3, v_4, n_9, v_5, v_6, v_7, v_8, v_9, b_29, b_30, hI3⟩, hF2⟩ := hp2
  subst sz2
  replace hs2 : st2 = [] := hs2
  subst st2
  replace hI3 : Im G x (rd, (NNq c), CaQ 0 n_4, tp, tt, SiQ v_3, AtQ v_4, PtQ 0 P, QlQ n_8 n_9, 0, 0, n_7, nx, il, n_8, kn, ec, nu, va, st, ep, ti, ad, ob, ra, rt, ex + nI fl, sa, n_3.1, tk, 0, v_5, v_6, v_7, v_8) Φ3 := hI3
  replace b_29 : spS c ti (n_3.2.2) (n_3.2.1) (fa, fb, me, sn, sq) (qu, L, dr) = ((v_3, v_4, v_5, v_8, v_9), (n_8, n_9, v_6)) := b_29
  replace b_30 : v_7 = v_9.toInt64 &&& 4294967295 := b_30
  have hI4 : Im G x (rd, (NNq c), CaQ 0 n_4, tp, tt, SiQ v_3, AtQ v_4, (PtQ 0 (fun _ => 0)), QlQ n_8 n_9, 0, 0, n_7, nx, il, n_8, kn, ec, nu, va, st, ep, ti, ad, ob, ra, rt, ex + nI fl, sa, n_3.1, tk, 0, v_5, v_6, v_7, v_8) Φ3 := Im.weak5 hI3 (fun _ q9 => q9) (fun _ q9 => q9) (fun _ q9 => q9) (fun _ q9 => q9) (fun _ q9 => q9) (fun _ q9 => q9) (fun _ q9 => q9) (fun _ _ => PtQ.z) (fun _ q9 => q9)
  refine z_iload_n B dX12_flush_14 rfl 0 rfl ?_
  exact z_ret_i B dX12_flush_15 ⟨rfl, rfl, ⟨v_3, v_4, n_9, v_5, v_6, v_7, v_8, v_9, n_7, n_8, n_3, n_4, 0, (PtQ 0 (fun _ => 0)), b_15, b_29, b_30, hI4⟩, (fun b9 h9 => ((hF2 b9 (fun j9 h8 h7 => h9 j9 h8 (fq_1033 j9 h7))).trans ((hF1 b9 (fun j9 h8 h7 => h9 j9 h8 (fq_1032 j9 h7))).trans ((fset_fr hΦ1 (fun h8 => h9 (0) h8 (show 0 = 0 ∨ 0 = 3 ∨ 0 = 4 ∨ 0 = 5 ∨ 0 = 6 ∨ 0 = 7 ∨ 0 = 8 ∨ 0 = 9 ∨ 0 = 10 by decide))).trans rfl))))⟩

theorem hu_X12_setRate_X12 : ∀ w ∈ u_ws RX12 TX12 54, w ∈ wsX12_setRate := fun _ h => List.mem_cons_of_mem _ (List.mem_append_left _ (List.mem_append_right _ (h)))

theorem hv_X12_setRate_1 : Cond.fieldLink RX12 1 "FlowExporterModel" (TX12 0).2.1 (TX12 0).2.2.1 ∈ wsX12_setRate := List.mem_cons_of_mem _ (List.mem_append_left _ (List.mem_append_left _ (List.mem_append_left _ (List.mem_of_getElem? (i := 0) rfl))))

set_option maxHeartbeats 4000000 in
set_option maxRecDepth 100000 in
theorem r_setRate (G : EnvG) (l : Launch) (Φ : Hm) (sz x : Nat) (rd : (Nat → Int32) → Prop) (tp : (Nat → Int32) → Prop) (tt : (Nat → Int64) → Prop) (fl : Nat) (le : Nat) (nx : Nat) (il : Nat) (qu : Nat) (kn : Int32) (ec : Int32) (nu : Int32) (va : Int64) (st : Nat) (ep : Int32) (ti : Int32) (ad : Int32) (ob : Int64) (ra : Int32) (rt : Nat) (ex : Int32) (sa : Int64) (us : Int64) (tk : Nat) (th : Int32) (me : Int32) (dr : Int32) (se : Int64) (sn : Int64) (c : Cf) (Fs : Nat → Fl) (fa : Nat → Int32) (fb : Nat → Int32) (L : Nat → Nat) (sq : Int32) (a : Int32) (hx : G.2.2.2 ≤ x) (hI : Im G x (rd, (NNq c), (CaQ fl Fs), tp, tt, (SiQ fa), (AtQ fb), (PtQ 0 (fun _ => 0)), (QlQ qu L), fl, 0, le, nx, il, qu, kn, ec, nu, va, st, ep, ti, ad, ob, ra, rt, ex, sa, us, tk, th, me, dr, se, sn) Φ) (hcw : CfW c) (hg : CfG c) (hcr : CfR c) (hse : se = sq.toInt64 &&& 4294967295) : Ct G l yX12_setRate wsX12_setRate ({ frames := 7, cells := 0, slots := 0, locals := 154 }) 0 0 [.ref x, .int a] Φ sz (fun v Φ1 sz1 => (∃ r9 : Int32, v = some (.int r9)) ∧ sz1 = sz ∧ (∃ (u1 : UN) (fl1 : Nat) (ex1 : Int32) (F1 : Nat → Fl) (fa1 : Nat → Int32) (fb1 : Nat → Int32) (L1 : Nat → Nat) (me1 : Int32) (dr1 : Int32) (se1 : Int64) (sn1 : Int64) (sq1 : Int32) (le1 : Nat) (qu1 : Nat) (rt1 : Nat) (v1 : Int32) (k1 : Nat) (th1 : Int32) (pt1 : (Nat → Int32) → Prop), (fl1 ≤ 12) ∧ (v = some (.int v1) ∧ srS c a (fl, Fs, us, 0, fun _ => 0) rt = (v1, (fl1, F1, u1), rt1, k1) ∧ ex1 = ex + nI k1) ∧ (spS c ti u1.2.2 u1.2.1 (fa, fb, me, sn, sq) (qu, L, dr) = ((fa1, fb1, me1, sn1, sq1), (qu1, L1, dr1))) ∧ (se1 = sq1.toInt64 &&& 4294967295) ∧ Im G x (rd, (NNq c), (CaQ fl1 F1), tp, tt, (SiQ fa1), (AtQ fb1), pt1, (QlQ qu1 L1), fl1, 0, le1, nx, il, qu1, kn, ec, nu, va, st, ep, ti, ad, ob, ra, rt1, ex1, sa, u1.1, tk, th1, me1, dr1, se1, sn1) Φ1) ∧ Fr x (fun j9 => j9 = 0 ∨ j9 = 3 ∨ j9 = 4 ∨ j9 = 5 ∨ j9 = 6 ∨ j9 = 7 ∨ j9 = 8 ∨ j9 = 9 ∨ j9 = 10) Φ Φ1) := by
  refine Ct.of (cc := cX12_setRate) (maxL := 3) (ret := (some .int)) (by decide) rfl (Nat.le_of_ble_eq_true rfl) ?_
  intro p9 e9 s9 m9 w9 t9 k9 B
  show Z p9 l e9 _ s9 m9 _ w9 t9 k9 _ G 3 0 [(0, .ref x), (1, .int a)] [] Φ sz 0 0
  refine z_aload_n B dX12_setRate_0 rfl 0 rfl ?_
  refine z_iconst (v := 0) B dX12_setRate_1 rfl ?_
  obtain ⟨n_1, v_1, n_2, h_1, b_13, b_1, b_2, b_3, b_4, b_5, b_6, b_7, b_8, b_9, b_10, b_11, b_12⟩ := im0 hI
  replace b_1 : 1 ≤ rt := b_1
  replace b_2 : rt ≤ 1024 := b_2
  replace b_3 : fl ≤ 12 := b_3
  replace b_4 : 0 ≤ 24 := b_4
  replace b_5 : le ≤ 700 := b_5
  replace b_6 : qu ≤ 12 := b_6
  replace b_7 : n_1 ≤ 8 := b_7
  replace b_8 : n_2 ≤ 24 := b_8
  replace b_9 : tk ≤ 24 := b_9
  replace b_10 : il ≤ 700 := b_10
  replace b_11 : nx ≤ 701 := b_11
  replace b_12 : st ≤ 701 := b_12
  have h_2 : Φ x = some (o_ 14 [.int th, .ref (x + 1), .ref (x + 2), .int ti, .int ra, .int (nI rt), .int ex, .int ad, .ref (x + 3), .ref (x + 4), .int me, .long se, .ref (x + 5), .int (nI fl), .int dr, .long ob, .long sa, .long sn, .long us, .ref (x + 6), .ref (x + 7), .int (nI 0), .ref (x + 8), .int (nI le), .ref (x + 9), .ref (x + 10), .int (nI qu), .ref (x + 11), .ref (x + 12), .ref (x + 13), .ref (x + 14), .ref (x + 15), .ref (x + 16), .int (nI n_1), .long v_1, .ref (x + 17), .ref (x + 18), .ref (x + 19), .ref (x + 20), .ref (x + 21), .ref (x + 22), .int (nI n_2), .ref (x + 23), .ref (x + 24), .int (nI tk), .ref (x + 25), .int (nI il), .int (nI nx), .int ec, .int ep, .int kn, .int (nI st), .int nu, .long va]) := h_1
  refine z_put (ref := "FlowExporterModel") (C := RX12) (T := TX12) (N := 54) (ci := 14) (v := .int 0) B hu_X12_setRate_X12 tyX12 tyX12_ok nmX12 rfl 0 (Nat.le_of_ble_eq_true rfl) hv_X12_setRate_1 rfl (Or.inl rfl) h_2 hx rfl rfl (Nat.le_of_ble_eq_true rfl) dX12_setRate_2 (fun Φ1 hΦ1 => ?_)
  have h_3 : Φ1 x = some (o_ 14 [.int 0, .ref (x + 1), .ref (x + 2), .int ti, .int ra, .int (nI rt), .int ex, .int ad, .ref (x + 3), .ref (x + 4), .int me, .long se, .ref (x + 5), .int (nI fl), .int dr, .long ob, .long sa, .long sn, .long us, .ref (x + 6), .ref (x + 7), .int (nI 0), .ref (x + 8), .int (nI le), .ref (x + 9), .ref (x + 10), .int (nI qu), .ref (x + 11), .ref (x + 12), .ref (x + 13), .ref (x + 14), .ref (x + 15), .ref (x + 16), .int (nI n_1), .long v_1, .ref (x + 17), .ref (x + 18), .ref (x + 19), .ref (x + 20), .ref (x + 21), .ref (x + 22), .int (nI n_2), .ref (x + 23), .ref (x + 24), .int (nI tk), .ref (x + 25), .int (nI il), .int (nI nx), .int ec, .int ep, .int kn, .int (nI st), .int nu, .long va]) := fset_at hΦ1
  have hI1 : Im G x (rd, (NNq c), (CaQ fl Fs), tp, tt, (SiQ fa), (AtQ fb), (PtQ 0 (fun _ => 0)), (QlQ qu L), fl, 0, le, nx, il, qu, kn, ec, nu, va, st, ep, ti, ad, ob, ra, rt, ex, sa, us, tk, 0, me, dr, se, sn) Φ1 := Im.put0 hI hΦ1 ⟨n_1, v_1, n_2, rfl, b_13, b_1, b_2, b_3, b_4, b_5, b_6, b_7, b_8, b_9, b_10, b_11, b_12⟩
  refine z_iload_n B dX12_setRate_5 rfl 1 rfl ?_
  refine z_i2l (v := a.toInt64) B dX12_setRate_6 rfl ?_
  refine z_lconst (v := 1) B dX12_setRate_7 rfl ?_
  refine z_ldc2 (v := 1024) B (by decide +kernel) dX12_setRate_8 ?_
  by_cases hR1 : inP a.toInt64 1 1024
  · obtain ⟨n_3, e_1, e_2, e_3, rfl⟩ := in_get (L := 1) (H := 1024) (by decide) (by decide) hR1
    refine z_callS (As := [.long ((nI n_3).toInt64), .long 1, .long 1024]) (rest := []) B (c_inR1 G l Φ1 sz ((nI n_3).toInt64) 1 1024 hR1 (fun v8 Φ8 sz8 => v8 = some (.int 1) ∧ sz8 = sz ∧ Im G x (rd, (NNq c), (CaQ fl Fs), tp, tt, (SiQ fa), (AtQ fb), (PtQ 0 (fun _ => 0)), (QlQ qu L), fl, 0, le, nx, il, qu, kn, ec, nu, va, st, ep, ti, ad, ob, ra, rt, ex, sa, us, tk, 0, me, dr, se, sn) Φ8 ∧ Fr x (fun j9 => False) Φ1 Φ8) ⟨rfl, rfl, hI1, fun _ _ => rfl⟩) (va_cwS 3 B.1.2.2.2.2 gX12_setRate_X12_inRange rfl rfl rfl (by decide +kernel) ⟨Nat.le_of_ble_eq_true rfl, Nat.le_of_ble_eq_true rfl⟩) rfl rfl (Nat.le_of_ble_eq_true rfl) dX12_setRate_11 ⟨Nat.le_of_ble_eq_true rfl, Nat.le_of_ble_eq_true rfl⟩ (fun r_1 Φ2 sz1 st1 hp1 hs1 => ?_)
    obtain ⟨rfl, hq1, hI2, hF1⟩ := hp1
    subst sz1
    replace hs1 : st1 = [.int 1] := hs1
    subst st1
    refine z_if_ne (tgt := 19) B dX12_setRate_14 rfl (fun c_1 => ?_) (fun h9 => absurd h9 (by decide))
    refine z_aload_n B dX12_setRate_19 rfl 0 rfl ?_
    refine z_iload_n B dX12_setRate_20 rfl 1 rfl ?_
    have h_4 : Φ2 x = some (o_ 14 [.int 0, .ref (x + 1), .ref (x + 2), .int ti, .int ra, .int (nI rt), .int ex, .int ad, .ref (x + 3), .ref (x + 4), .int me, .long se, .ref (x + 5), .int (nI fl), .int dr, .long ob, .long sa, .long sn, .long us, .ref (x + 6), .ref (x + 7), .int (nI 0), .ref (x + 8), .int (nI le), .ref (x + 9), .ref (x + 10), .int (nI qu), .ref (x + 11), .ref (x + 12), .ref (x + 13), .ref (x + 14), .ref (x + 15), .ref (x + 16), .int (nI n_1), .long v_1, .ref (x + 17), .ref (x + 18), .ref (x + 19), .ref (x + 20), .ref (x + 21), .ref (x + 22), .int (nI n_2), .ref (x + 23), .ref (x + 24), .int (nI tk), .ref (x + 25), .int (nI il), .int (nI nx), .int ec, .int ep, .int kn, .int (nI st), .int nu, .long va]) := ((hF1 x (fun j9 h8 h7 => (show False from h7).elim)).trans h_3)
    refine z_callV (As := [.int (nI n_3)]) (rest := []) B (r_changeRate G l Φ2 sz x rd tp tt (SiQ fa) (AtQ fb) (QlQ qu L) fl 0 le nx il qu kn ec nu va st ep ti ad ob ra rt ex sa us tk 0 me dr se sn c Fs (fun _ => 0) n_3 hx hI2 (show 1 ≤ n_3 by omega) (show n_3 ≤ 1024 by omega) (show 0 + fl ≤ 12 by omega)) (cwV 1 B.1.2.2.2.2 gX12_setRate_X12_changeRate rfl rfl rfl (by decide +kernel) ⟨Nat.le_of_ble_eq_true rfl, Nat.le_of_ble_eq_true rfl⟩) h_4 rfl rfl rfl rfl (Nat.le_of_ble_eq_true rfl) dX12_setRate_21 ⟨Nat.le_of_ble_eq_true rfl, Nat.le_of_ble_eq_true rfl⟩ (fun r_2 Φ3 sz2 st2 hp2 hs2 => ?_)
    obtain ⟨⟨v_3, rfl⟩, hq2, ⟨n_4, n_5, v_2, n_6, b_14, b_15, b_16, hI3⟩, hF2⟩ := hp2
    subst sz2
    replace hs2 : st2 = [.int v_3] := hs2
    subst st2
    replace hI3 : Im G x (rd, (NNq c), CaQ n_5 n_6, tp, tt, (SiQ fa), (AtQ fb), PtQ n_4.2.1 n_4.2.2, (QlQ qu L), n_5, n_4.2.1, le, nx, il, qu, kn, ec, nu, va, st, ep, ti, ad, ob, ra, n_3, v_2, sa, n_4.1, tk, 0, me, dr, se, sn) Φ3 := hI3
    replace b_14 : n_5 ≤ fl := b_14
    replace b_15 : n_4.2.1 ≤ 0 + fl := b_15
    replace b_16 : (n_3 = rt ∧ (some (Value.int v_3)) = some (.int 0) ∧ n_5 = fl ∧ n_6 = Fs ∧ n_4 = (us, 0, ((fun _ => 0))) ∧ v_2 = ex) ∨ (¬ n_3 = rt ∧ (some (Value.int v_3)) = some (.int (nI fl)) ∧ n_5 = 0 ∧ exI c (fl, Fs, us, 0, ((fun _ => 0))) fl = (0, n_6, n_4) ∧ v_2 = ex + nI fl) := b_16
    refine z_istore_n (lv' := [(2, .int v_3), (0, .ref x), (1, .int (nI n_3))]) B dX12_setRate_24 rfl (Nat.le_of_ble_eq_true rfl) rfl ?_
    refine z_aload_n B dX12_setRate_25 rfl 1 rfl ?_
    obtain ⟨n_7, v_4, n_8, h_5, b_29, b_17, b_18, b_19, b_20, b_21, b_22, b_23, b_24, b_25, b_26, b_27, b_28⟩ := im0 hI3
    replace b_17 : 1 ≤ n_3 := b_17
    replace b_18 : n_3 ≤ 1024 := b_18
    replace b_19 : n_5 ≤ 12 := b_19
    replace b_20 : n_4.2.1 ≤ 24 := b_20
    replace b_21 : le ≤ 700 := b_21
    replace b_22 : qu ≤ 12 := b_22
    replace b_23 : n_7 ≤ 8 := b_23
    replace b_24 : n_8 ≤ 24 := b_24
    replace b_25 : tk ≤ 24 := b_25
    replace b_26 : il ≤ 700 := b_26
    replace b_27 : nx ≤ 701 := b_27
    replace b_28 : st ≤ 701 := b_28
    have h_6 : Φ3 x = some (o_ 14 [.int 0, .ref (x + 1), .ref (x + 2), .int ti, .int ra, .int (nI n_3), .int v_2, .int ad, .ref (x + 3), .ref (x + 4), .int me, .long se, .ref (x + 5), .int (nI n_5), .int dr, .long ob, .long sa, .long sn, .long n_4.1, .ref (x + 6), .ref (x + 7), .int (nI n_4.2.1), .ref (x + 8), .int (nI le), .ref (x + 9), .ref (x + 10), .int (nI qu), .ref (x + 11), .ref (x + 12), .ref (x + 13), .ref (x + 14), .ref (x + 15), .ref (x + 16), .int (nI n_7), .long v_4, .ref (x + 17), .ref (x + 18), .ref (x + 19), .ref (x + 20), .ref (x + 21), .ref (x + 22), .int (nI n_8), .ref (x + 23), .ref (x + 24), .int (nI tk), .ref (x + 25), .int (nI il), .int (nI nx), .int ec, .int ep, .int kn, .int (nI st), .int nu, .long va]) := h_5
    refine z_callV (As := []) (rest := []) B (r_sendPending G l Φ3 sz x rd (CaQ n_5 n_6) tp tt n_5 n_4.2.1 le nx il qu kn ec nu va st ep ti ad ob ra n_3 v_2 sa n_4.1 tk 0 me dr se sn c fa fb n_4.2.2 L sq hx hI3 hcw hg hcr hse) (cwV 0 B.1.2.2.2.2 gX12_setRate_X12_sendPending rfl rfl rfl (by decide +kernel) ⟨Nat.le_of_ble_eq_true rfl, Nat.le_of_ble_eq_true rfl⟩) h_6 rfl rfl rfl rfl (Nat.le_of_ble_eq_true rfl) dX12_setRate_26 ⟨Nat.le_of_ble_eq_true rfl, Nat.le_of_ble_eq_true rfl⟩ (fun r_3 Φ4 sz3 st3 hp3 hs3 => ?_)
    obtain ⟨rfl, hq3, ⟨n_9, n_10, v_5, v_6, n_11, v_7, v_8, v_9, v_10, v_11, b_30, b_31, hI4⟩, hF3⟩ := hp3
    subst sz3
    replace hs3 : st3 = [] := hs3
    subst st3
    replace hI4 : Im G x (rd, (NNq c), CaQ n_5 n_6, tp, tt, SiQ v_5, AtQ v_6, PtQ 0 P, QlQ n_10 n_11, n_5, 0, n_9, nx, il, n_10, kn, ec, nu, va, st, ep, ti, ad, ob, ra, n_3, v_2, sa, n_4.1, tk, 0, v_7, v_8, v_9, v_10) Φ4 := hI4
    replace b_30 : spS c ti (n_4.2.2) (n_4.2.1) (fa, fb, me, sn, sq) (qu, L, dr) = ((v_5, v_6, v_7, v_10, v_11), (n_10, n_11, v_8)) := b_30
    replace b_31 : v_9 = v_11.toInt64 &&& 4294967295 := b_31
    have hI5 : Im G x (rd, (NNq c), CaQ n_5 n_6, tp, tt, SiQ v_5, AtQ v_6, (PtQ 0 (fun _ => 0)), QlQ n_10 n_11, n_5, 0, n_9, nx, il, n_10, kn, ec, nu, va, st, ep, ti, ad, ob, ra, n_3, v_2, sa, n_4.1, tk, 0, v_7, v_8, v_9, v_10) Φ4 := Im.weak5 hI4 (fun _ q9 => q9) (fun _ q9 => q9) (fun _ q9 => q9) (fun _ q9 => q9) (fun _ q9 => q9) (fun _ q9 => q9) (fun _ q9 => q9) (fun _ _ => PtQ.z) (fun _ q9 => q9)
    refine z_iload_n B dX12_setRate_29 rfl 0 rfl ?_
    have hS9 : ∃ k9 : Nat, srS c (nI n_3) (fl, Fs, us, 0, fun _ => 0) rt = (v_3, (n_5, n_6, n_4), n_3, k9) ∧ v_2 = ex + nI k9 := by
      rcases b_16 with ⟨q, hv, h1, h2, h3, h4⟩ | ⟨q, hv, h1, hx, h4⟩
      · have hv2 : v_3 = 0 := Value.int.inj (Option.some.inj hv)
        refine ⟨0, ?_, h4.trans nadd_0⟩
        rw [hv2, h1, h2, h3, srS_eq (by omega) (by omega), q]
      · have hv2 : v_3 = nI fl := Value.int.inj (Option.some.inj hv)
        refine ⟨fl, ?_, h4⟩
        rw [hv2, h1, srS_ne (by omega) (by omega) hx]
    obtain ⟨k_1, hS1, hE1⟩ := hS9
    exact z_ret_i B dX12_setRate_30 ⟨⟨_, rfl⟩, rfl, ⟨n_4, n_5, v_2, n_6, v_5, v_6, n_11, v_7, v_8, v_9, v_10, v_11, n_9, n_10, n_3, v_3, k_1, 0, (PtQ 0 (fun _ => 0)), (show n_5 ≤ 12 by omega), ⟨rfl, hS1, hE1⟩, b_30, b_31, hI5⟩, (fun b9 h9 => ((hF3 b9 (fun j9 h8 h7 => h9 j9 h8 (fq_1033 j9 h7))).trans ((hF2 b9 (fun j9 h8 h7 => h9 j9 h8 (fq_1032 j9 h7))).trans ((hF1 b9 (fun j9 h8 h7 => (show False from h7).elim)).trans ((fset_fr hΦ1 (fun h8 => h9 (0) h8 (show 0 = 0 ∨ 0 = 3 ∨ 0 = 4 ∨ 0 = 5 ∨ 0 = 6 ∨ 0 = 7 ∨ 0 = 8 ∨ 0 = 9 ∨ 0 = 10 by decide))).trans rfl)))))⟩
  · have q_1 : ¬ (1 ≤ a.toInt ∧ a.toInt ≤ 1024) := fun h9 => hR1 ((inP_i (by decide) (by decide)).mpr h9)
    refine z_callS (As := [.long a.toInt64, .long 1, .long 1024]) (rest := []) B (c_inR0 G l Φ1 sz a.toInt64 1 1024 hR1 (fun v8 Φ8 sz8 => v8 = some (.int 0) ∧ sz8 = sz ∧ Im G x (rd, (NNq c), (CaQ fl Fs), tp, tt, (SiQ fa), (AtQ fb), (PtQ 0 (fun _ => 0)), (QlQ qu L), fl, 0, le, nx, il, qu, kn, ec, nu, va, st, ep, ti, ad, ob, ra, rt, ex, sa, us, tk, 0, me, dr, se, sn) Φ8 ∧ Fr x (fun j9 => False) Φ1 Φ8) ⟨rfl, rfl, hI1, fun _ _ => rfl⟩) (va_cwS 3 B.1.2.2.2.2 gX12_setRate_X12_inRange rfl rfl rfl (by decide +kernel) ⟨Nat.le_of_ble_eq_true rfl, Nat.le_of_ble_eq_true rfl⟩) rfl rfl (Nat.le_of_ble_eq_true rfl) dX12_setRate_11 ⟨Nat.le_of_ble_eq_true rfl, Nat.le_of_ble_eq_true rfl⟩ (fun r_4 Φ5 sz4 st4 hp4 hs4 => ?_)
    obtain ⟨rfl, hq4, hI6, hF4⟩ := hp4
    subst sz4
    replace hs4 : st4 = [.int 0] := hs4
    subst st4
    refine z_if_ne (tgt := 19) B dX12_setRate_14 rfl (fun h9 => absurd (by decide) h9) (fun c_2 => ?_)
    refine z_iconst (v := (-1)) B dX12_setRate_17 rfl ?_
    have hN9 : ¬ (1 ≤ a.toInt ∧ a.toInt ≤ 1024) := fun h9 => hR1 ((inP_i (by decide) (by decide)).mpr h9)
    exact z_ret_i B dX12_setRate_18 ⟨⟨_, rfl⟩, rfl, ⟨(us, 0, fun _ => 0), fl, ex, Fs, fa, fb, L, me, dr, se, sn, sq, le, qu, rt, (-1), 0, 0, (PtQ 0 (fun _ => 0)), (show fl ≤ 12 by omega), ⟨rfl, srS_no hN9, nadd_0⟩, (spS_0 rfl), hse, hI6⟩, (fun b9 h9 => ((hF4 b9 (fun j9 h8 h7 => (show False from h7).elim)).trans ((fset_fr hΦ1 (fun h8 => h9 (0) h8 (show 0 = 0 ∨ 0 = 3 ∨ 0 = 4 ∨ 0 = 5 ∨ 0 = 6 ∨ 0 = 7 ∨ 0 = 8 ∨ 0 = 9 ∨ 0 = 10 by decide))).trans rfl)))⟩

theorem hu_X12_setSeed_X12 : ∀ w ∈ u_ws RX12 TX12 54, w ∈ wsX12_setSeed := fun _ h => List.mem_cons_of_mem _ (List.mem_append_right _ (h))

theorem hv_X12_setSeed_1 : Cond.fieldLink RX12 1 "FlowExporterModel" (TX12 0).2.1 (TX12 0).2.2.1 ∈ wsX12_setSeed := List.mem_cons_of_mem _ (List.mem_append_left _ (List.mem_of_getElem? (i := 0) rfl))

theorem hv_X12_setSeed_104 : Cond.fieldLink RX12 104 "FlowExporterModel" (TX12 4).2.1 (TX12 4).2.2.1 ∈ wsX12_setSeed := List.mem_cons_of_mem _ (List.mem_append_left _ (List.mem_of_getElem? (i := 1) rfl))

set_option maxHeartbeats 4000000 in
set_option maxRecDepth 100000 in
theorem r_setSeed (G : EnvG) (l : Launch) (Φ : Hm) (sz x : Nat) (rd : (Nat → Int32) → Prop) (nw : (Nat → Int32) → Prop) (cr : (Nat → Int64) → Prop) (tp : (Nat → Int32) → Prop) (tt : (Nat → Int64) → Prop) (sI : (Nat → Int32) → Prop) (sT : (Nat → Int32) → Prop) (pt : (Nat → Int32) → Prop) (ql : (Nat → Int32) → Prop) (fl : Nat) (pe : Nat) (le : Nat) (nx : Nat) (il : Nat) (qu : Nat) (kn : Int32) (ec : Int32) (nu : Int32) (va : Int64) (st : Nat) (ep : Int32) (ti : Int32) (ad : Int32) (ob : Int64) (rt : Nat) (ex : Int32) (sa : Int64) (us : Int64) (tk : Nat) (th : Int32) (me : Int32) (dr : Int32) (se : Int64) (sn : Int64) (w : Nat) (a : Int32) (hx : G.2.2.2 ≤ x) (hI : Im G x (rd, nw, cr, tp, tt, sI, sT, pt, ql, fl, pe, le, nx, il, qu, kn, ec, nu, va, st, ep, ti, ad, ob, (nI w), rt, ex, sa, us, tk, th, me, dr, se, sn) Φ) (hw : w < 2147483648) (hnw : ∀ f9 : Nat → Int32, nw f9 → NN f9) : Ct G l yX12_setSeed wsX12_setSeed ({ frames := 0, cells := 0, slots := 0, locals := 0 }) 0 0 [.ref x, .int a] Φ sz (fun v Φ1 sz1 => (∃ r9 : Int32, v = some (.int r9) ∧ (r9 = 0 ∨ r9 = 1)) ∧ sz1 = sz ∧ (∃ (th1 : Int32), Im G x (rd, nw, cr, tp, tt, sI, sT, pt, ql, fl, pe, le, nx, il, qu, kn, ec, nu, va, st, ep, ti, ad, ob, nI (sdN a w), rt, ex, sa, us, tk, th1, me, dr, se, sn) Φ1) ∧ Fr x (fun j9 => j9 = 0) Φ Φ1) := by
  refine Ct.of (cc := cX12_setSeed) (maxL := 2) (ret := (some .boolean)) (by decide) rfl (Nat.le_of_ble_eq_true rfl) ?_
  intro p9 e9 s9 m9 w9 t9 k9 B
  show Z p9 l e9 _ s9 m9 _ w9 t9 k9 _ G 2 0 [(0, .ref x), (1, .int a)] [] Φ sz 0 0
  refine z_aload_n B dX12_setSeed_0 rfl 0 rfl ?_
  refine z_iconst (v := 0) B dX12_setSeed_1 rfl ?_
  obtain ⟨n_1, v_1, n_2, h_1, b_13, b_1, b_2, b_3, b_4, b_5, b_6, b_7, b_8, b_9, b_10, b_11, b_12⟩ := im0 hI
  replace b_1 : 1 ≤ rt := b_1
  replace b_2 : rt ≤ 1024 := b_2
  replace b_3 : fl ≤ 12 := b_3
  replace b_4 : pe ≤ 24 := b_4
  replace b_5 : le ≤ 700 := b_5
  replace b_6 : qu ≤ 12 := b_6
  replace b_7 : n_1 ≤ 8 := b_7
  replace b_8 : n_2 ≤ 24 := b_8
  replace b_9 : tk ≤ 24 := b_9
  replace b_10 : il ≤ 700 := b_10
  replace b_11 : nx ≤ 701 := b_11
  replace b_12 : st ≤ 701 := b_12
  have h_2 : Φ x = some (o_ 14 [.int th, .ref (x + 1), .ref (x + 2), .int ti, .int (nI w), .int (nI rt), .int ex, .int ad, .ref (x + 3), .ref (x + 4), .int me, .long se, .ref (x + 5), .int (nI fl), .int dr, .long ob, .long sa, .long sn, .long us, .ref (x + 6), .ref (x + 7), .int (nI pe), .ref (x + 8), .int (nI le), .ref (x + 9), .ref (x + 10), .int (nI qu), .ref (x + 11), .ref (x + 12), .ref (x + 13), .ref (x + 14), .ref (x + 15), .ref (x + 16), .int (nI n_1), .long v_1, .ref (x + 17), .ref (x + 18), .ref (x + 19), .ref (x + 20), .ref (x + 21), .ref (x + 22), .int (nI n_2), .ref (x + 23), .ref (x + 24), .int (nI tk), .ref (x + 25), .int (nI il), .int (nI nx), .int ec, .int ep, .int kn, .int (nI st), .int nu, .long va]) := h_1
  refine z_put (ref := "FlowExporterModel") (C := RX12) (T := TX12) (N := 54) (ci := 14) (v := .int 0) B hu_X12_setSeed_X12 tyX12 tyX12_ok nmX12 rfl 0 (Nat.le_of_ble_eq_true rfl) hv_X12_setSeed_1 rfl (Or.inl rfl) h_2 hx rfl rfl (Nat.le_of_ble_eq_true rfl) dX12_setSeed_2 (fun Φ1 hΦ1 => ?_)
  have h_3 : Φ1 x = some (o_ 14 [.int 0, .ref (x + 1), .ref (x + 2), .int ti, .int (nI w), .int (nI rt), .int ex, .int ad, .ref (x + 3), .ref (x + 4), .int me, .long se, .ref (x + 5), .int (nI fl), .int dr, .long ob, .long sa, .long sn, .long us, .ref (x + 6), .ref (x + 7), .int (nI pe), .ref (x + 8), .int (nI le), .ref (x + 9), .ref (x + 10), .int (nI qu), .ref (x + 11), .ref (x + 12), .ref (x + 13), .ref (x + 14), .ref (x + 15), .ref (x + 16), .int (nI n_1), .long v_1, .ref (x + 17), .ref (x + 18), .ref (x + 19), .ref (x + 20), .ref (x + 21), .ref (x + 22), .int (nI n_2), .ref (x + 23), .ref (x + 24), .int (nI tk), .ref (x + 25), .int (nI il), .int (nI nx), .int ec, .int ep, .int kn, .int (nI st), .int nu, .long va]) := fset_at hΦ1
  have hI1 : Im G x (rd, nw, cr, tp, tt, sI, sT, pt, ql, fl, pe, le, nx, il, qu, kn, ec, nu, va, st, ep, ti, ad, ob, nI w, rt, ex, sa, us, tk, 0, me, dr, se, sn) Φ1 := Im.put0 hI hΦ1 ⟨n_1, v_1, n_2, rfl, b_13, b_1, b_2, b_3, b_4, b_5, b_6, b_7, b_8, b_9, b_10, b_11, b_12⟩
  refine z_iload_n B dX12_setSeed_5 rfl 1 rfl ?_
  refine z_if_ge (tgt := 11) B dX12_setSeed_6 rfl (fun c_1 => ?_) (fun c_1 => ?_)
  · obtain ⟨n_3, e_1, rfl⟩ := nI_of (Int32.not_lt.mpr c_1)
    refine z_aload_n B dX12_setSeed_11 rfl 0 rfl ?_
    refine z_iload_n B dX12_setSeed_12 rfl 1 rfl ?_
    refine z_put (ref := "FlowExporterModel") (C := RX12) (T := TX12) (N := 54) (ci := 14) (v := .int (nI n_3)) B hu_X12_setSeed_X12 tyX12 tyX12_ok nmX12 rfl 4 (Nat.le_of_ble_eq_true rfl) hv_X12_setSeed_104 rfl (Or.inl rfl) h_3 hx rfl rfl (Nat.le_of_ble_eq_true rfl) dX12_setSeed_13 (fun Φ2 hΦ2 => ?_)
    have h_4 : Φ2 x = some (o_ 14 [.int 0, .ref (x + 1), .ref (x + 2), .int ti, .int (nI n_3), .int (nI rt), .int ex, .int ad, .ref (x + 3), .ref (x + 4), .int me, .long se, .ref (x + 5), .int (nI fl), .int dr, .long ob, .long sa, .long sn, .long us, .ref (x + 6), .ref (x + 7), .int (nI pe), .ref (x + 8), .int (nI le), .ref (x + 9), .ref (x + 10), .int (nI qu), .ref (x + 11), .ref (x + 12), .ref (x + 13), .ref (x + 14), .ref (x + 15), .ref (x + 16), .int (nI n_1), .long v_1, .ref (x + 17), .ref (x + 18), .ref (x + 19), .ref (x + 20), .ref (x + 21), .ref (x + 22), .int (nI n_2), .ref (x + 23), .ref (x + 24), .int (nI tk), .ref (x + 25), .int (nI il), .int (nI nx), .int ec, .int ep, .int kn, .int (nI st), .int nu, .long va]) := fset_at hΦ2
    have hI2 : Im G x (rd, nw, cr, tp, tt, sI, sT, pt, ql, fl, pe, le, nx, il, qu, kn, ec, nu, va, st, ep, ti, ad, ob, nI n_3, rt, ex, sa, us, tk, 0, me, dr, se, sn) Φ2 := Im.put0 hI1 hΦ2 ⟨n_1, v_1, n_2, rfl, b_13, b_1, b_2, b_3, b_4, b_5, b_6, b_7, b_8, b_9, b_10, b_11, b_12⟩
    refine z_iconst (v := 1) B dX12_setSeed_16 rfl ?_
    have k_1 : (nI n_3).toInt = ((n_3 : Nat) : Int) := nI_toInt (by omega)
    have k_2 : (nI n_3).toInt = ((n_3 : Nat) : Int) := nI_toInt (by omega)
    have k_3 : (0 : Int32).toInt = 0 := by decide
    have q_1 : ((0 : Int32).toInt ≤ (nI n_3).toInt) := Int32.le_iff_toInt_le.mp c_1
    have hI3 : Im G x (rd, nw, cr, tp, tt, sI, sT, pt, ql, fl, pe, le, nx, il, qu, kn, ec, nu, va, st, ep, ti, ad, ob, nI (sdN (nI n_3) w), rt, ex, sa, us, tk, 0, me, dr, se, sn) Φ2 := Eq.mp (congrArg (fun w9 : Int32 => Im G x (rd, nw, cr, tp, tt, sI, sT, pt, ql, fl, pe, le, nx, il, qu, kn, ec, nu, va, st, ep, ti, ad, ob, w9, rt, ex, sa, us, tk, 0, me, dr, se, sn) Φ2) ((congrArg nI (sdN_ok (by omega))).symm)) hI2
    exact z_ret_z B dX12_setSeed_17 (by decide) ⟨⟨_, rfl, by decide⟩, rfl, ⟨0, hI3⟩, (fun b9 h9 => ((fset_fr hΦ2 (fun h8 => h9 (0) h8 (show 0 = 0 by decide))).trans ((fset_fr hΦ1 (fun h8 => h9 (0) h8 (show 0 = 0 by decide))).trans rfl)))⟩
  · refine z_iconst (v := 0) B dX12_setSeed_9 rfl ?_
    have k_4 : (0 : Int32).toInt = 0 := by decide
    have q_2 : ¬ ((0 : Int32).toInt ≤ a.toInt) := fun h9 => c_1 (Int32.le_iff_toInt_le.mpr h9)
    have hI4 : Im G x (rd, nw, cr, tp, tt, sI, sT, pt, ql, fl, pe, le, nx, il, qu, kn, ec, nu, va, st, ep, ti, ad, ob, nI (sdN a w), rt, ex, sa, us, tk, 0, me, dr, se, sn) Φ1 := Eq.mp (congrArg (fun w9 : Int32 => Im G x (rd, nw, cr, tp, tt, sI, sT, pt, ql, fl, pe, le, nx, il, qu, kn, ec, nu, va, st, ep, ti, ad, ob, w9, rt, ex, sa, us, tk, 0, me, dr, se, sn) Φ1) ((congrArg nI (sdN_no (by omega))).symm)) hI1
    exact z_ret_z B dX12_setSeed_10 (by decide) ⟨⟨_, rfl, by decide⟩, rfl, ⟨0, hI4⟩, (fun b9 h9 => ((fset_fr hΦ1 (fun h8 => h9 (0) h8 (show 0 = 0 by decide))).trans rfl))⟩

theorem hu_X12_advance_X12 : ∀ w ∈ u_ws RX12 TX12 54, w ∈ wsX12_advance := fun _ h => List.mem_cons_of_mem _ (List.mem_append_left _ (List.mem_append_right _ (h)))

theorem hv_X12_advance_1 : Cond.fieldLink RX12 1 "FlowExporterModel" (TX12 0).2.1 (TX12 0).2.2.1 ∈ wsX12_advance := List.mem_cons_of_mem _ (List.mem_append_left _ (List.mem_append_left _ (List.mem_append_left _ (List.mem_of_getElem? (i := 0) rfl))))

theorem hv_X12_advance_101 : Cond.fieldLink RX12 101 "FlowExporterModel" (TX12 3).2.1 (TX12 3).2.2.1 ∈ wsX12_advance := List.mem_cons_of_mem _ (List.mem_append_left _ (List.mem_append_left _ (List.mem_append_left _ (List.mem_of_getElem? (i := 2) rfl))))

theorem fq_1044 : ∀ j9 : Nat, (j9 = 0) → (j9 = 0 ∨ j9 = 3 ∨ j9 = 4 ∨ j9 = 5 ∨ j9 = 6 ∨ j9 = 7 ∨ j9 = 8 ∨ j9 = 9 ∨ j9 = 10) := by
  intro j9 h
  omega

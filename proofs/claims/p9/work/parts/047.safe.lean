theorem dX11_lossRate_0 : decode cX11_lossRate 0 = .ok (.aload_n 0, 1) := by decide +kernel
theorem dX11_lossRate_1 : decode cX11_lossRate 1 = .ok (.getfield 71, 3) := by decide +kernel
theorem dX11_lossRate_4 : decode cX11_lossRate 4 = .ok (.getfield 289, 3) := by decide +kernel
theorem dX11_lossRate_7 : decode cX11_lossRate 7 = .ok (.iconst 0, 1) := by decide +kernel
theorem dX11_lossRate_8 : decode cX11_lossRate 8 = .ok (.laload, 1) := by decide +kernel
theorem dX11_lossRate_9 : decode cX11_lossRate 9 = .ok (.lstore_n 1, 1) := by decide +kernel
theorem dX11_lossRate_10 : decode cX11_lossRate 10 = .ok (.lload_n 1, 1) := by decide +kernel
theorem dX11_lossRate_11 : decode cX11_lossRate 11 = .ok (.aload_n 0, 1) := by decide +kernel
theorem dX11_lossRate_12 : decode cX11_lossRate 12 = .ok (.getfield 71, 3) := by decide +kernel
theorem dX11_lossRate_15 : decode cX11_lossRate 15 = .ok (.getfield 289, 3) := by decide +kernel
theorem dX11_lossRate_18 : decode cX11_lossRate 18 = .ok (.bipush 7, 2) := by decide +kernel
theorem dX11_lossRate_20 : decode cX11_lossRate 20 = .ok (.laload, 1) := by decide +kernel
theorem dX11_lossRate_21 : decode cX11_lossRate 21 = .ok (.ladd, 1) := by decide +kernel
theorem dX11_lossRate_22 : decode cX11_lossRate 22 = .ok (.lstore_n 3, 1) := by decide +kernel
theorem dX11_lossRate_23 : decode cX11_lossRate 23 = .ok (.lload_n 3, 1) := by decide +kernel
theorem dX11_lossRate_24 : decode cX11_lossRate 24 = .ok (.lconst 0, 1) := by decide +kernel
theorem dX11_lossRate_25 : decode cX11_lossRate 25 = .ok (.lcmp, 1) := by decide +kernel
theorem dX11_lossRate_26 : decode cX11_lossRate 26 = .ok (.ifCond .ne 11, 3) := by decide +kernel
theorem dX11_lossRate_29 : decode cX11_lossRate 29 = .ok (.new 293, 3) := by decide +kernel
theorem dX11_lossRate_32 : decode cX11_lossRate 32 = .ok (.dup, 1) := by decide +kernel
theorem dX11_lossRate_33 : decode cX11_lossRate 33 = .ok (.invokespecial 295, 3) := by decide +kernel
theorem dX11_lossRate_36 : decode cX11_lossRate 36 = .ok (.athrow, 1) := by decide +kernel
theorem dX11_lossRate_37 : decode cX11_lossRate 37 = .ok (.lload_n 1, 1) := by decide +kernel
theorem dX11_lossRate_38 : decode cX11_lossRate 38 = .ok (.l2d, 1) := by decide +kernel
theorem dX11_lossRate_39 : decode cX11_lossRate 39 = .ok (.lload_n 3, 1) := by decide +kernel
theorem dX11_lossRate_40 : decode cX11_lossRate 40 = .ok (.l2d, 1) := by decide +kernel
theorem dX11_lossRate_41 : decode cX11_lossRate 41 = .ok (.ddiv, 1) := by decide +kernel
theorem dX11_lossRate_42 : decode cX11_lossRate 42 = .ok (.dreturn, 1) := by decide +kernel
set_option maxRecDepth 20000 in
theorem ggX11_key_X11_requireKey : GoodIn wsX11_key wsX11_requireKey := goodIn_ca ((goodIn_ca (goodIn_ca (goodIn_r _ [9, 10, 11, 3, 12] rfl (by decide +kernel)) (goodIn_sub (fun _ h => List.mem_cons_of_mem _ (List.mem_append_left _ (List.mem_append_left _ (List.mem_append_left _ (List.mem_append_left _ (List.mem_append_right _ h)))))) gw_wsX110)) (goodIn_sub (fun _ h => List.mem_cons_of_mem _ (List.mem_append_left _ (List.mem_append_left _ (List.mem_append_left _ (List.mem_append_right _ h))))) gw_wsX90))) (goodIn_sub (fun _ h => List.mem_cons_of_mem _ (List.mem_append_right _ h)) (all_fg _))
set_option maxRecDepth 20000 in
theorem gX11_key_X11_requireKey : GoodIn wsX11_key (wsV RX11 298 RX11 yX11_requireKey wsX11_requireKey) := goodIn_app (goodIn_m (mem_cA (List.mem_cons_of_mem _ (List.mem_append_left _ (List.mem_append_left _ (List.mem_append_left _ (List.mem_append_left _ (List.mem_append_left _ (List.mem_of_getElem? (i := 4) rfl))))))) (mem_cA (List.mem_cons_of_mem _ (List.mem_append_left _ (List.mem_append_left _ (List.mem_append_left _ (List.mem_append_left _ (List.mem_append_left _ (List.mem_of_getElem? (i := 5) rfl))))))) (mem_cA (List.mem_cons_of_mem _ (List.mem_append_left _ (List.mem_append_left _ (List.mem_append_left _ (List.mem_append_left _ (List.mem_append_left _ (List.mem_of_getElem? (i := 6) rfl))))))) (mem_cA (List.mem_cons_of_mem _ (List.mem_append_left _ (List.mem_append_left _ (List.mem_append_left _ (List.mem_append_left _ (List.mem_append_left _ (List.mem_of_getElem? (i := 7) rfl))))))) mem_cZ)))) (by decide +kernel)) ggX11_key_X11_requireKey
set_option maxRecDepth 20000 in
theorem ggX11_key_X3_partOf : GoodIn wsX11_key wsX3_partOf := goodIn_ca ((goodIn_r _ [16, 17, 18] rfl (by decide +kernel))) (goodIn_sub (fun _ h => List.mem_cons_of_mem _ (List.mem_append_left _ (List.mem_append_right _ h))) (all_fg _))
set_option maxRecDepth 20000 in
theorem gX11_key_X3_partOf : GoodIn wsX11_key (va_wsS RX11 304 yX3_partOf wsX3_partOf) := goodIn_app (goodIn_m (mem_cA (List.mem_cons_of_mem _ (List.mem_append_left _ (List.mem_append_left _ (List.mem_append_left _ (List.mem_append_left _ (List.mem_append_left _ (List.mem_of_getElem? (i := 12) rfl))))))) (mem_cA (List.mem_cons_of_mem _ (List.mem_append_left _ (List.mem_append_left _ (List.mem_append_left _ (List.mem_append_left _ (List.mem_append_left _ (List.mem_of_getElem? (i := 13) rfl))))))) (mem_cA (List.mem_cons_of_mem _ (List.mem_append_left _ (List.mem_append_left _ (List.mem_append_left _ (List.mem_append_left _ (List.mem_append_left _ (List.mem_of_getElem? (i := 14) rfl))))))) mem_cZ))) (by decide +kernel)) ggX11_key_X3_partOf
theorem dX11_key_0 : decode cX11_key 0 = .ok (.aload_n 0, 1) := by decide +kernel
theorem dX11_key_1 : decode cX11_key 1 = .ok (.iload_n 1, 1) := by decide +kernel
theorem dX11_key_2 : decode cX11_key 2 = .ok (.invokevirtual 298, 3) := by decide +kernel
theorem dX11_key_5 : decode cX11_key 5 = .ok (.iload_n 2, 1) := by decide +kernel
theorem dX11_key_6 : decode cX11_key 6 = .ok (.ifCond .lt 8, 3) := by decide +kernel
theorem dX11_key_9 : decode cX11_key 9 = .ok (.iload_n 2, 1) := by decide +kernel
theorem dX11_key_10 : decode cX11_key 10 = .ok (.iconst 3, 1) := by decide +kernel
theorem dX11_key_11 : decode cX11_key 11 = .ok (.if_icmp .le 11, 3) := by decide +kernel
theorem dX11_key_14 : decode cX11_key 14 = .ok (.new 116, 3) := by decide +kernel
theorem dX11_key_17 : decode cX11_key 17 = .ok (.dup, 1) := by decide +kernel
theorem dX11_key_18 : decode cX11_key 18 = .ok (.invokespecial 118, 3) := by decide +kernel
theorem dX11_key_21 : decode cX11_key 21 = .ok (.athrow, 1) := by decide +kernel
theorem dX11_key_22 : decode cX11_key 22 = .ok (.aload_n 0, 1) := by decide +kernel
theorem dX11_key_23 : decode cX11_key 23 = .ok (.getfield 62, 3) := by decide +kernel
theorem dX11_key_26 : decode cX11_key 26 = .ok (.getfield 301, 3) := by decide +kernel
theorem dX11_key_29 : decode cX11_key 29 = .ok (.iload_n 1, 1) := by decide +kernel
theorem dX11_key_30 : decode cX11_key 30 = .ok (.laload, 1) := by decide +kernel
theorem dX11_key_31 : decode cX11_key 31 = .ok (.iload_n 2, 1) := by decide +kernel
theorem dX11_key_32 : decode cX11_key 32 = .ok (.invokestatic 304, 3) := by decide +kernel
theorem dX11_key_35 : decode cX11_key 35 = .ok (.ireturn, 1) := by decide +kernel
set_option maxRecDepth 20000 in
theorem ggX11_raw_X11_requireKey : GoodIn wsX11_raw wsX11_requireKey := goodIn_ca ((goodIn_ca (goodIn_ca (goodIn_r _ [7, 8, 9, 1, 10] rfl (by decide +kernel)) (goodIn_sub (fun _ h => List.mem_cons_of_mem _ (List.mem_append_left _ (List.mem_append_left _ (List.mem_append_left _ (List.mem_append_left _ (List.mem_append_right _ h)))))) gw_wsX110)) (goodIn_sub (fun _ h => List.mem_cons_of_mem _ (List.mem_append_left _ (List.mem_append_left _ (List.mem_append_left _ (List.mem_append_right _ h))))) gw_wsX90))) (goodIn_sub (fun _ h => List.mem_cons_of_mem _ (List.mem_append_left _ (List.mem_append_right _ h))) (all_fg _))
set_option maxRecDepth 20000 in
theorem gX11_raw_X11_requireKey : GoodIn wsX11_raw (wsV RX11 298 RX11 yX11_requireKey wsX11_requireKey) := goodIn_app (goodIn_m (mem_cA (List.mem_cons_of_mem _ (List.mem_append_left _ (List.mem_append_left _ (List.mem_append_left _ (List.mem_append_left _ (List.mem_append_left _ (List.mem_of_getElem? (i := 2) rfl))))))) (mem_cA (List.mem_cons_of_mem _ (List.mem_append_left _ (List.mem_append_left _ (List.mem_append_left _ (List.mem_append_left _ (List.mem_append_left _ (List.mem_of_getElem? (i := 3) rfl))))))) (mem_cA (List.mem_cons_of_mem _ (List.mem_append_left _ (List.mem_append_left _ (List.mem_append_left _ (List.mem_append_left _ (List.mem_append_left _ (List.mem_of_getElem? (i := 4) rfl))))))) (mem_cA (List.mem_cons_of_mem _ (List.mem_append_left _ (List.mem_append_left _ (List.mem_append_left _ (List.mem_append_left _ (List.mem_append_left _ (List.mem_of_getElem? (i := 5) rfl))))))) mem_cZ)))) (by decide +kernel)) ggX11_raw_X11_requireKey
set_option maxRecDepth 20000 in
theorem ggX11_raw_X11_requireWhat : GoodIn wsX11_raw wsX11_requireWhat := goodIn_ca ((goodIn_r _ [13, 14, 15] rfl (by decide +kernel))) (goodIn_sub (fun _ h => List.mem_cons_of_mem _ (List.mem_append_right _ h)) (all_fg _))
set_option maxRecDepth 20000 in
theorem gX11_raw_X11_requireWhat : GoodIn wsX11_raw (va_wsS RX11 312 yX11_requireWhat wsX11_requireWhat) := goodIn_app (goodIn_m (mem_cA (List.mem_cons_of_mem _ (List.mem_append_left _ (List.mem_append_left _ (List.mem_append_left _ (List.mem_append_left _ (List.mem_append_left _ (List.mem_of_getElem? (i := 10) rfl))))))) (mem_cA (List.mem_cons_of_mem _ (List.mem_append_left _ (List.mem_append_left _ (List.mem_append_left _ (List.mem_append_left _ (List.mem_append_left _ (List.mem_of_getElem? (i := 11) rfl))))))) (mem_cA (List.mem_cons_of_mem _ (List.mem_append_left _ (List.mem_append_left _ (List.mem_append_left _ (List.mem_append_left _ (List.mem_append_left _ (List.mem_of_getElem? (i := 5) rfl))))))) mem_cZ))) (by decide +kernel)) ggX11_raw_X11_requireWhat
theorem dX11_raw_0 : decode cX11_raw 0 = .ok (.aload_n 0, 1) := by decide +kernel
theorem dX11_raw_1 : decode cX11_raw 1 = .ok (.iload_n 1, 1) := by decide +kernel
theorem dX11_raw_2 : decode cX11_raw 2 = .ok (.invokevirtual 298, 3) := by decide +kernel
theorem dX11_raw_5 : decode cX11_raw 5 = .ok (.iload_n 2, 1) := by decide +kernel
theorem dX11_raw_6 : decode cX11_raw 6 = .ok (.invokestatic 312, 3) := by decide +kernel
theorem dX11_raw_9 : decode cX11_raw 9 = .ok (.aload_n 0, 1) := by decide +kernel
theorem dX11_raw_10 : decode cX11_raw 10 = .ok (.getfield 62, 3) := by decide +kernel
theorem dX11_raw_13 : decode cX11_raw 13 = .ok (.getfield 315, 3) := by decide +kernel
theorem dX11_raw_16 : decode cX11_raw 16 = .ok (.iload_n 2, 1) := by decide +kernel
theorem dX11_raw_17 : decode cX11_raw 17 = .ok (.aaload, 1) := by decide +kernel
theorem dX11_raw_18 : decode cX11_raw 18 = .ok (.iload_n 1, 1) := by decide +kernel
theorem dX11_raw_19 : decode cX11_raw 19 = .ok (.laload, 1) := by decide +kernel
theorem dX11_raw_20 : decode cX11_raw 20 = .ok (.lreturn, 1) := by decide +kernel
set_option maxRecDepth 20000 in
theorem ggX11_estimate_X11_requireKey : GoodIn wsX11_estimate wsX11_requireKey := goodIn_ca ((goodIn_ca (goodIn_ca (goodIn_r _ [7, 8, 9, 1, 10] rfl (by decide +kernel)) (goodIn_sub (fun _ h => List.mem_cons_of_mem _ (List.mem_append_left _ (List.mem_append_left _ (List.mem_append_left _ (List.mem_append_left _ (List.mem_append_right _ h)))))) gw_wsX110)) (goodIn_sub (fun _ h => List.mem_cons_of_mem _ (List.mem_append_left _ (List.mem_append_left _ (List.mem_append_left _ (List.mem_append_right _ h))))) gw_wsX90))) (goodIn_sub (fun _ h => List.mem_cons_of_mem _ (List.mem_append_left _ (List.mem_append_right _ h))) (all_fg _))
set_option maxRecDepth 20000 in
theorem gX11_estimate_X11_requireKey : GoodIn wsX11_estimate (wsV RX11 298 RX11 yX11_requireKey wsX11_requireKey) := goodIn_app (goodIn_m (mem_cA (List.mem_cons_of_mem _ (List.mem_append_left _ (List.mem_append_left _ (List.mem_append_left _ (List.mem_append_left _ (List.mem_append_left _ (List.mem_of_getElem? (i := 2) rfl))))))) (mem_cA (List.mem_cons_of_mem _ (List.mem_append_left _ (List.mem_append_left _ (List.mem_append_left _ (List.mem_append_left _ (List.mem_append_left _ (List.mem_of_getElem? (i := 3) rfl))))))) (mem_cA (List.mem_cons_of_mem _ (List.mem_append_left _ (List.mem_append_left _ (List.mem_append_left _ (List.mem_append_left _ (List.mem_append_left _ (List.mem_of_getElem? (i := 4) rfl))))))) (mem_cA (List.mem_cons_of_mem _ (List.mem_append_left _ (List.mem_append_left _ (List.mem_append_left _ (List.mem_append_left _ (List.mem_append_left _ (List.mem_of_getElem? (i := 5) rfl))))))) mem_cZ)))) (by decide +kernel)) ggX11_estimate_X11_requireKey
set_option maxRecDepth 20000 in
theorem ggX11_estimate_X11_requireWhat : GoodIn wsX11_estimate wsX11_requireWhat := goodIn_ca ((goodIn_r _ [13, 14, 15] rfl (by decide +kernel))) (goodIn_sub (fun _ h => List.mem_cons_of_mem _ (List.mem_append_right _ h)) (all_fg _))
set_option maxRecDepth 20000 in
theorem gX11_estimate_X11_requireWhat : GoodIn wsX11_estimate (va_wsS RX11 312 yX11_requireWhat wsX11_requireWhat) := goodIn_app (goodIn_m (mem_cA (List.mem_cons_of_mem _ (List.mem_append_left _ (List.mem_append_left _ (List.mem_append_left _ (List.mem_append_left _ (List.mem_append_left _ (List.mem_of_getElem? (i := 10) rfl))))))) (mem_cA (List.mem_cons_of_mem _ (List.mem_append_left _ (List.mem_append_left _ (List.mem_append_left _ (List.mem_append_left _ (List.mem_append_left _ (List.mem_of_getElem? (i := 11) rfl))))))) (mem_cA (List.mem_cons_of_mem _ (List.mem_append_left _ (List.mem_append_left _ (List.mem_append_left _ (List.mem_append_left _ (List.mem_append_left _ (List.mem_of_getElem? (i := 5) rfl))))))) mem_cZ))) (by decide +kernel)) ggX11_estimate_X11_requireWhat
theorem dX11_estimate_0 : decode cX11_estimate 0 = .ok (.aload_n 0, 1) := by decide +kernel
theorem dX11_estimate_1 : decode cX11_estimate 1 = .ok (.iload_n 1, 1) := by decide +kernel
theorem dX11_estimate_2 : decode cX11_estimate 2 = .ok (.invokevirtual 298, 3) := by decide +kernel
theorem dX11_estimate_5 : decode cX11_estimate 5 = .ok (.iload_n 2, 1) := by decide +kernel
theorem dX11_estimate_6 : decode cX11_estimate 6 = .ok (.invokestatic 312, 3) := by decide +kernel
theorem dX11_estimate_9 : decode cX11_estimate 9 = .ok (.aload_n 0, 1) := by decide +kernel
theorem dX11_estimate_10 : decode cX11_estimate 10 = .ok (.getfield 62, 3) := by decide +kernel
theorem dX11_estimate_13 : decode cX11_estimate 13 = .ok (.getfield 319, 3) := by decide +kernel
theorem dX11_estimate_16 : decode cX11_estimate 16 = .ok (.iload_n 2, 1) := by decide +kernel
theorem dX11_estimate_17 : decode cX11_estimate 17 = .ok (.aaload, 1) := by decide +kernel
theorem dX11_estimate_18 : decode cX11_estimate 18 = .ok (.iload_n 1, 1) := by decide +kernel
theorem dX11_estimate_19 : decode cX11_estimate 19 = .ok (.laload, 1) := by decide +kernel
theorem dX11_estimate_20 : decode cX11_estimate 20 = .ok (.lreturn, 1) := by decide +kernel
set_option maxRecDepth 20000 in
theorem ggX11_lower_X11_requireKey : GoodIn wsX11_lower wsX11_requireKey := goodIn_ca ((goodIn_ca (goodIn_ca (goodIn_r _ [6, 7, 8, 1, 9] rfl (by decide +kernel)) (goodIn_sub (fun _ h => List.mem_cons_of_mem _ (List.mem_append_left _ (List.mem_append_left _ (List.mem_append_left _ (List.mem_append_left _ (List.mem_append_right _ h)))))) gw_wsX110)) (goodIn_sub (fun _ h => List.mem_cons_of_mem _ (List.mem_append_left _ (List.mem_append_left _ (List.mem_append_left _ (List.mem_append_right _ h))))) gw_wsX90))) (goodIn_sub (fun _ h => List.mem_cons_of_mem _ (List.mem_append_left _ (List.mem_append_left _ (List.mem_append_right _ h)))) (all_fg _))
set_option maxRecDepth 20000 in
theorem gX11_lower_X11_requireKey : GoodIn wsX11_lower (wsV RX11 298 RX11 yX11_requireKey wsX11_requireKey) := goodIn_app (goodIn_m (mem_cA (List.mem_cons_of_mem _ (List.mem_append_left _ (List.mem_append_left _ (List.mem_append_left _ (List.mem_append_left _ (List.mem_append_left _ (List.mem_append_left _ (List.mem_of_getElem? (i := 1) rfl)))))))) (mem_cA (List.mem_cons_of_mem _ (List.mem_append_left _ (List.mem_append_left _ (List.mem_append_left _ (List.mem_append_left _ (List.mem_append_left _ (List.mem_append_left _ (List.mem_of_getElem? (i := 2) rfl)))))))) (mem_cA (List.mem_cons_of_mem _ (List.mem_append_left _ (List.mem_append_left _ (List.mem_append_left _ (List.mem_append_left _ (List.mem_append_left _ (List.mem_append_left _ (List.mem_of_getElem? (i := 3) rfl)))))))) (mem_cA (List.mem_cons_of_mem _ (List.mem_append_left _ (List.mem_append_left _ (List.mem_append_left _ (List.mem_append_left _ (List.mem_append_left _ (List.mem_append_left _ (List.mem_of_getElem? (i := 4) rfl)))))))) mem_cZ)))) (by decide +kernel)) ggX11_lower_X11_requireKey
set_option maxRecDepth 20000 in
theorem ggX11_lower_X11_requireWhat : GoodIn wsX11_lower wsX11_requireWhat := goodIn_ca ((goodIn_r _ [12, 13, 14] rfl (by decide +kernel))) (goodIn_sub (fun _ h => List.mem_cons_of_mem _ (List.mem_append_left _ (List.mem_append_right _ h))) (all_fg _))
set_option maxRecDepth 20000 in
theorem gX11_lower_X11_requireWhat : GoodIn wsX11_lower (va_wsS RX11 312 yX11_requireWhat wsX11_requireWhat) := goodIn_app (goodIn_m (mem_cA (List.mem_cons_of_mem _ (List.mem_append_left _ (List.mem_append_left _ (List.mem_append_left _ (List.mem_append_left _ (List.mem_append_left _ (List.mem_append_left _ (List.mem_of_getElem? (i := 9) rfl)))))))) (mem_cA (List.mem_cons_of_mem _ (List.mem_append_left _ (List.mem_append_left _ (List.mem_append_left _ (List.mem_append_left _ (List.mem_append_left _ (List.mem_append_left _ (List.mem_of_getElem? (i := 10) rfl)))))))) (mem_cA (List.mem_cons_of_mem _ (List.mem_append_left _ (List.mem_append_left _ (List.mem_append_left _ (List.mem_append_left _ (List.mem_append_left _ (List.mem_append_left _ (List.mem_of_getElem? (i := 4) rfl)))))))) mem_cZ))) (by decide +kernel)) ggX11_lower_X11_requireWhat
set_option maxRecDepth 20000 in
theorem ggX11_lower_X9_lowerBound : GoodIn wsX11_lower wsX9_lowerBound := goodIn_ca ((goodIn_ca (goodIn_r _ [19, 20, 21, 22, 23, 24, 18, 25, 26, 27, 28, 29, 30, 31, 32, 33, 34, 35, 36, 37, 38, 39, 40, 41, 42] rfl (by decide +kernel)) (goodIn_sub (fun _ h => List.mem_cons_of_mem _ (List.mem_append_left _ (List.mem_append_left _ (List.mem_append_left _ (List.mem_append_right _ h))))) gw_wsX90))) (goodIn_sub (fun _ h => List.mem_cons_of_mem _ (List.mem_append_right _ h)) (all_fg _))
set_option maxRecDepth 20000 in
theorem gX11_lower_X9_lowerBound : GoodIn wsX11_lower (wsV RX11 322 RX9 yX9_lowerBound wsX9_lowerBound) := goodIn_app (goodIn_m (mem_cA (List.mem_cons_of_mem _ (List.mem_append_left _ (List.mem_append_left _ (List.mem_append_left _ (List.mem_append_left _ (List.mem_append_left _ (List.mem_append_left _ (List.mem_of_getElem? (i := 14) rfl)))))))) (mem_cA (List.mem_cons_of_mem _ (List.mem_append_left _ (List.mem_append_left _ (List.mem_append_left _ (List.mem_append_left _ (List.mem_append_left _ (List.mem_append_left _ (List.mem_of_getElem? (i := 15) rfl)))))))) (mem_cA (List.mem_cons_of_mem _ (List.mem_append_left _ (List.mem_append_left _ (List.mem_append_left _ (List.mem_append_left _ (List.mem_append_left _ (List.mem_append_left _ (List.mem_of_getElem? (i := 16) rfl)))))))) (mem_cA (List.mem_cons_of_mem _ (List.mem_append_left _ (List.mem_append_left _ (List.mem_append_left _ (List.mem_append_left _ (List.mem_append_left _ (List.mem_append_left _ (List.mem_of_getElem? (i := 17) rfl)))))))) mem_cZ)))) (by decide +kernel)) ggX11_lower_X9_lowerBound
theorem dX11_lower_0 : decode cX11_lower 0 = .ok (.aload_n 0, 1) := by decide +kernel
theorem dX11_lower_1 : decode cX11_lower 1 = .ok (.iload_n 1, 1) := by decide +kernel
theorem dX11_lower_2 : decode cX11_lower 2 = .ok (.invokevirtual 298, 3) := by decide +kernel
theorem dX11_lower_5 : decode cX11_lower 5 = .ok (.iload_n 2, 1) := by decide +kernel
theorem dX11_lower_6 : decode cX11_lower 6 = .ok (.invokestatic 312, 3) := by decide +kernel
theorem dX11_lower_9 : decode cX11_lower 9 = .ok (.aload_n 0, 1) := by decide +kernel
theorem dX11_lower_10 : decode cX11_lower 10 = .ok (.getfield 62, 3) := by decide +kernel
theorem dX11_lower_13 : decode cX11_lower 13 = .ok (.iload_n 1, 1) := by decide +kernel
theorem dX11_lower_14 : decode cX11_lower 14 = .ok (.iload_n 2, 1) := by decide +kernel
theorem dX11_lower_15 : decode cX11_lower 15 = .ok (.invokevirtual 322, 3) := by decide +kernel
theorem dX11_lower_18 : decode cX11_lower 18 = .ok (.dreturn, 1) := by decide +kernel
set_option maxRecDepth 20000 in
theorem ggX11_upper_X11_requireKey : GoodIn wsX11_upper wsX11_requireKey := goodIn_ca ((goodIn_ca (goodIn_ca (goodIn_r _ [6, 7, 8, 1, 9] rfl (by decide +kernel)) (goodIn_sub (fun _ h => List.mem_cons_of_mem _ (List.mem_append_left _ (List.mem_append_left _ (List.mem_append_left _ (List.mem_append_left _ (List.mem_append_right _ h)))))) gw_wsX110)) (goodIn_sub (fun _ h => List.mem_cons_of_mem _ (List.mem_append_left _ (List.mem_append_left _ (List.mem_append_left _ (List.mem_append_right _ h))))) gw_wsX90))) (goodIn_sub (fun _ h => List.mem_cons_of_mem _ (List.mem_append_left _ (List.mem_append_left _ (List.mem_append_right _ h)))) (all_fg _))
set_option maxRecDepth 20000 in
theorem gX11_upper_X11_requireKey : GoodIn wsX11_upper (wsV RX11 298 RX11 yX11_requireKey wsX11_requireKey) := goodIn_app (goodIn_m (mem_cA (List.mem_cons_of_mem _ (List.mem_append_left _ (List.mem_append_left _ (List.mem_append_left _ (List.mem_append_left _ (List.mem_append_left _ (List.mem_append_left _ (List.mem_of_getElem? (i := 1) rfl)))))))) (mem_cA (List.mem_cons_of_mem _ (List.mem_append_left _ (List.mem_append_left _ (List.mem_append_left _ (List.mem_append_left _ (List.mem_append_left _ (List.mem_append_left _ (List.mem_of_getElem? (i := 2) rfl)))))))) (mem_cA (List.mem_cons_of_mem _ (List.mem_append_left _ (List.mem_append_left _ (List.mem_append_left _ (List.mem_append_left _ (List.mem_append_left _ (List.mem_append_left _ (List.mem_of_getElem? (i := 3) rfl)))))))) (mem_cA (List.mem_cons_of_mem _ (List.mem_append_left _ (List.mem_append_left _ (List.mem_append_left _ (List.mem_append_left _ (List.mem_append_left _ (List.mem_append_left _ (List.mem_of_getElem? (i := 4) rfl)))))))) mem_cZ)))) (by decide +kernel)) ggX11_upper_X11_requireKey
set_option maxRecDepth 20000 in
theorem ggX11_upper_X11_requireWhat : GoodIn wsX11_upper wsX11_requireWhat := goodIn_ca ((goodIn_r _ [12, 13, 14] rfl (by decide +kernel))) (goodIn_sub (fun _ h => List.mem_cons_of_mem _ (List.mem_append_left _ (List.mem_append_right _ h))) (all_fg _))
set_option maxRecDepth 20000 in
theorem gX11_upper_X11_requireWhat : GoodIn wsX11_upper (va_wsS RX11 312 yX11_requireWhat wsX11_requireWhat) := goodIn_app (goodIn_m (mem_cA (List.mem_cons_of_mem _ (List.mem_append_left _ (List.mem_append_left _ (List.mem_append_left _ (List.mem_append_left _ (List.mem_append_left _ (List.mem_append_left _ (List.mem_of_getElem? (i := 9) rfl)))))))) (mem_cA (List.mem_cons_of_mem _ (List.mem_append_left _ (List.mem_append_left _ (List.mem_append_left _ (List.mem_append_left _ (List.mem_append_left _ (List.mem_append_left _ (List.mem_of_getElem? (i := 10) rfl)))))))) (mem_cA (List.mem_cons_of_mem _ (List.mem_append_left _ (List.mem_append_left _ (List.mem_append_left _ (List.mem_append_left _ (List.mem_append_left _ (List.mem_append_left _ (List.mem_of_getElem? (i := 4) rfl)))))))) mem_cZ))) (by decide +kernel)) ggX11_upper_X11_requireWhat
set_option maxRecDepth 20000 in
theorem ggX11_upper_X9_upperBound : GoodIn wsX11_upper wsX9_upperBound := goodIn_ca ((goodIn_ca (goodIn_r _ [19, 20, 21, 22, 23, 18, 24, 25, 26, 27, 28, 29, 30, 31, 32, 33, 34, 35, 36, 37, 38, 39, 40, 41] rfl (by decide +kernel)) (goodIn_sub (fun _ h => List.mem_cons_of_mem _ (List.mem_append_left _ (List.mem_append_left _ (List.mem_append_left _ (List.mem_append_right _ h))))) gw_wsX90))) (goodIn_sub (fun _ h => List.mem_cons_of_mem _ (List.mem_append_right _ h)) (all_fg _))
set_option maxRecDepth 20000 in
theorem gX11_upper_X9_upperBound : GoodIn wsX11_upper (wsV RX11 326 RX9 yX9_upperBound wsX9_upperBound) := goodIn_app (goodIn_m (mem_cA (List.mem_cons_of_mem _ (List.mem_append_left _ (List.mem_append_left _ (List.mem_append_left _ (List.mem_append_left _ (List.mem_append_left _ (List.mem_append_left _ (List.mem_of_getElem? (i := 14) rfl)))))))) (mem_cA (List.mem_cons_of_mem _ (List.mem_append_left _ (List.mem_append_left _ (List.mem_append_left _ (List.mem_append_left _ (List.mem_append_left _ (List.mem_append_left _ (List.mem_of_getElem? (i := 15) rfl)))))))) (mem_cA (List.mem_cons_of_mem _ (List.mem_append_left _ (List.mem_append_left _ (List.mem_append_left _ (List.mem_append_left _ (List.mem_append_left _ (List.mem_append_left _ (List.mem_of_getElem? (i := 16) rfl)))))))) (mem_cA (List.mem_cons_of_mem _ (List.mem_append_left _ (List.mem_append_left _ (List.mem_append_left _ (List.mem_append_left _ (List.mem_append_left _ (List.mem_append_left _ (List.mem_of_getElem? (i := 17) rfl)))))))) mem_cZ)))) (by decide +kernel)) ggX11_upper_X9_upperBound
theorem dX11_upper_0 : decode cX11_upper 0 = .ok (.aload_n 0, 1) := by decide +kernel
theorem dX11_upper_1 : decode cX11_upper 1 = .ok (.iload_n 1, 1) := by decide +kernel
theorem dX11_upper_2 : decode cX11_upper 2 = .ok (.invokevirtual 298, 3) := by decide +kernel
theorem dX11_upper_5 : decode cX11_upper 5 = .ok (.iload_n 2, 1) := by decide +kernel
theorem dX11_upper_6 : decode cX11_upper 6 = .ok (.invokestatic 312, 3) := by decide +kernel
theorem dX11_upper_9 : decode cX11_upper 9 = .ok (.aload_n 0, 1) := by decide +kernel
theorem dX11_upper_10 : decode cX11_upper 10 = .ok (.getfield 62, 3) := by decide +kernel
theorem dX11_upper_13 : decode cX11_upper 13 = .ok (.iload_n 1, 1) := by decide +kernel
theorem dX11_upper_14 : decode cX11_upper 14 = .ok (.iload_n 2, 1) := by decide +kernel
theorem dX11_upper_15 : decode cX11_upper 15 = .ok (.invokevirtual 326, 3) := by decide +kernel
theorem dX11_upper_18 : decode cX11_upper 18 = .ok (.dreturn, 1) := by decide +kernel
set_option maxHeartbeats 4000000 in
set_option maxRecDepth 100000 in
theorem s_X11_requireWhat2 (G : EnvG) (l : Launch) (hl9 : l.stackTraces = false) (Φ : Hm) (sz x ca : Nat) (a : Int32) (hx : G.2.2.2 ≤ x) (hI : In G x ca Φ)  : CtB G l yX11_requireWhat wsX11_requireWhat ({ frames := 6, cells := 1, slots := 6, locals := 81 }) 1 6 [.int a] Φ sz (fun v Φ1 sz1 => (v = none ∧ ∃ n9 : Nat, n9 < 2 ∧ a = nI n9) ∧ sz1 = sz ∧ In G x (ca) Φ1 ∧ Fr x (fun j9 => False) Φ Φ1) (fun Φ1 => In G x ca Φ1 ∧ Fr x (fun j9 => False) Φ Φ1) [xIA] := by
  refine CtB.of (cc := cX11_requireWhat) (maxL := 1) (ret := none) (by decide) rfl (Nat.le_of_ble_eq_true rfl) ?_
  intro p9 e9 s9 m9 w9 t9 k9 B htab9
  show Z p9 l e9 _ s9 m9 _ w9 t9 k9 _ G 1 0 [(0, .int a)] [] Φ sz 0 0
  refine z_iload_n B dX11_requireWhat_0 rfl 0 rfl ?_
  refine z_if_eq (tgt := 17) B dX11_requireWhat_1 rfl (fun c_1 => ?_) (fun c_1 => ?_)
  · exact zb_ret (Nat.le_of_ble_eq_true rfl) (Nat.le_of_ble_eq_true rfl) (z_ret_v B dX11_requireWhat_17 ⟨⟨rfl, 0, by decide, c_1⟩, rfl, hI, (fun b9 h9 => rfl)⟩)
  · refine z_iload_n B dX11_requireWhat_4 rfl 0 rfl ?_
    refine z_iconst (v := 1) B dX11_requireWhat_5 rfl ?_
    refine z_icmp_eq (tgt := 17) B dX11_requireWhat_6 rfl (fun c_2 => ?_) (fun c_2 => ?_)
    · exact zb_ret (Nat.le_of_ble_eq_true rfl) (Nat.le_of_ble_eq_true rfl) (z_ret_v B dX11_requireWhat_17 ⟨⟨rfl, 1, by decide, c_2⟩, rfl, hI, (fun b9 h9 => rfl)⟩)
    · exact zb_throw (cls := xIA) (ik := 116) (ic := 118) B hl9 htab9 (by decide) ⟨hI, (fun b9 h9 => rfl)⟩ (by decide) (by decide +kernel) (by decide +kernel) (by decide +kernel) (by decide +kernel) (by decide +kernel) (by decide +kernel) (by decide +kernel) dX11_requireWhat_9 dX11_requireWhat_12 dX11_requireWhat_13 dX11_requireWhat_16 ⟨Nat.le_of_ble_eq_true rfl, Nat.le_of_ble_eq_true rfl, Nat.le_of_ble_eq_true rfl, Nat.le_of_ble_eq_true rfl⟩ ⟨Nat.le_of_ble_eq_true rfl, Nat.le_of_ble_eq_true rfl⟩

set_option maxHeartbeats 4000000 in
set_option maxRecDepth 100000 in
theorem s_X11_requireKey2 (G : EnvG) (l : Launch) (hl9 : l.stackTraces = false) (Φ : Hm) (sz x ca : Nat) (a : Int32) (hx : G.2.2.2 ≤ x) (hI : In G x ca Φ)  : CtB G l yX11_requireKey wsX11_requireKey ({ frames := 6, cells := 1, slots := 6, locals := 81 }) 1 6 [.ref x, .int a] Φ sz (fun v Φ1 sz1 => (v = none ∧ ∃ n9 : Nat, n9 < 24 ∧ a = nI n9) ∧ sz1 = sz ∧ In G x (ca) Φ1 ∧ Fr x (fun j9 => False) Φ Φ1) (fun Φ1 => In G x ca Φ1 ∧ Fr x (fun j9 => False) Φ Φ1) [xIO] := by
  refine CtB.of (cc := cX11_requireKey) (maxL := 2) (ret := none) (by decide) rfl (Nat.le_of_ble_eq_true rfl) ?_
  intro p9 e9 s9 m9 w9 t9 k9 B htab9
  show Z p9 l e9 _ s9 m9 _ w9 t9 k9 _ G 2 0 [(0, .ref x), (1, .int a)] [] Φ sz 0 0
  refine z_iload_n B dX11_requireKey_0 rfl 1 rfl ?_
  refine z_if_lt (tgt := 15) B dX11_requireKey_1 rfl (fun c_1 => ?_) (fun c_1 => ?_)
  · exact zb_throw (cls := xIO) (ik := 153) (ic := 155) B hl9 htab9 (by decide) ⟨hI, (fun b9 h9 => rfl)⟩ (by decide) (by decide +kernel) (by decide +kernel) (by decide +kernel) (by decide +kernel) (by decide +kernel) (by decide +kernel) (by decide +kernel) dX11_requireKey_15 dX11_requireKey_18 dX11_requireKey_19 dX11_requireKey_22 ⟨Nat.le_of_ble_eq_true rfl, Nat.le_of_ble_eq_true rfl, Nat.le_of_ble_eq_true rfl, Nat.le_of_ble_eq_true rfl⟩ ⟨Nat.le_of_ble_eq_true rfl, Nat.le_of_ble_eq_true rfl⟩
  · obtain ⟨n_1, e_1, rfl⟩ := nI_of c_1
    refine z_iload_n B dX11_requireKey_4 rfl 1 rfl ?_
    refine z_aload_n B dX11_requireKey_5 rfl 0 rfl ?_
    have h_1 := in0 (k := 0) hI rfl
    have h_2 : Φ x = some (o_ 13 [.ref (x + 1), .ref (x + 3), .ref (x + 24), .ref (x + 46), .ref (x + 74), .ref (x + 80), .ref (x + 132), .ref (x + 121)]) := h_1
    refine z_get (ref := "FlowExporter") (C := RX11) (T := TX11) (N := 8) (ci := 13) (v := .ref (x + 121)) B hu_X11_requireKey_X11 rfl 7 (Nat.le_of_ble_eq_true rfl) hv_X11_requireKey_62 rfl h_2 rfl dX11_requireKey_6 ?_
    obtain ⟨n_2, h_3, b_1⟩ := in20 (k := 121) hI rfl
    have h_4 : Φ (x + 121) = some (o_ 11 [.ref (x + 122), .ref (x + 123), .ref (x + 126), .ref (x + 129), .int (nI n_2)]) := h_3
    refine z_get (ref := "FlowExporter$Sums") (C := RX9) (T := TX9) (N := 5) (ci := 11) (v := .int (nI n_2)) B hu_X11_requireKey_X9 rfl 4 (Nat.le_of_ble_eq_true rfl) hv_X11_requireKey_92 rfl h_4 rfl dX11_requireKey_9 ?_
    refine z_icmp_lt (tgt := 23) B dX11_requireKey_12 rfl (fun c_2 => ?_) (fun c_2 => ?_)
    · have e_2 : n_1 < n_2 := (nI_ltI (a := n_1) (b := n_2) (by omega) (by omega)).mp c_2
      exact zb_ret (Nat.le_of_ble_eq_true rfl) (Nat.le_of_ble_eq_true rfl) (z_ret_v B dX11_requireKey_23 ⟨⟨rfl, n_1, (show n_1 < 24 by omega), rfl⟩, rfl, hI, (fun b9 h9 => rfl)⟩)
    · have e_3 : ¬ (n_1 < n_2) := fun h9 => c_2 ((nI_ltI (a := n_1) (b := n_2) (by omega) (by omega)).mpr h9)
      exact zb_throw (cls := xIO) (ik := 153) (ic := 155) B hl9 htab9 (by decide) ⟨hI, (fun b9 h9 => rfl)⟩ (by decide) (by decide +kernel) (by decide +kernel) (by decide +kernel) (by decide +kernel) (by decide +kernel) (by decide +kernel) (by decide +kernel) dX11_requireKey_15 dX11_requireKey_18 dX11_requireKey_19 dX11_requireKey_22 ⟨Nat.le_of_ble_eq_true rfl, Nat.le_of_ble_eq_true rfl, Nat.le_of_ble_eq_true rfl, Nat.le_of_ble_eq_true rfl⟩ ⟨Nat.le_of_ble_eq_true rfl, Nat.le_of_ble_eq_true rfl⟩

set_option maxHeartbeats 4000000 in
set_option maxRecDepth 100000 in
theorem s_X11_requirePackets2 (G : EnvG) (l : Launch) (hl9 : l.stackTraces = false) (Φ : Hm) (sz x ca : Nat) (a : Int64) (b : Int32) (d : Int32) (hx : G.2.2.2 ≤ x) (hI : In G x ca Φ)  : CtB G l yX11_requirePackets wsX11_requirePackets ({ frames := 6, cells := 1, slots := 6, locals := 81 }) 1 6 [.long a, .int b, .int d] Φ sz (fun v Φ1 sz1 => (v = none ∧ (∃ n9 : Nat, n9 ≤ 200 ∧ d = nI n9) ∧ ¬ RqP a b d) ∧ sz1 = sz ∧ In G x (ca) Φ1 ∧ Fr x (fun j9 => False) Φ Φ1) (fun Φ1 => (RqP a b d) ∧ In G x ca Φ1 ∧ Fr x (fun j9 => False) Φ Φ1) [xIA] := by
  refine CtB.of (cc := cX11_requirePackets) (maxL := 4) (ret := none) (by decide) rfl (Nat.le_of_ble_eq_true rfl) ?_
  intro p9 e9 s9 m9 w9 t9 k9 B htab9
  show Z p9 l e9 _ s9 m9 _ w9 t9 k9 _ G 4 0 [(0, .long a), (2, .int b), (3, .int d)] [] Φ sz 0 0
  refine z_lload_n B dX11_requirePackets_0 rfl 0 rfl ?_
  refine z_ldc2 (v := (-1)) B (by decide +kernel) dX11_requirePackets_1 ?_
  refine z_lcmp B dX11_requirePackets_4 ?_
  refine z_if_eq (tgt := 31) B dX11_requirePackets_5 rfl (fun c_1 => ?_) (fun c_1 => ?_)
  · exact zb_throw (cls := xIA) (ik := 116) (ic := 118) B hl9 htab9 (by decide) ⟨(Or.inl ((lg_cmp_eq _ _).mp c_1)), hI, (fun b9 h9 => rfl)⟩ (by decide) (by decide +kernel) (by decide +kernel) (by decide +kernel) (by decide +kernel) (by decide +kernel) (by decide +kernel) (by decide +kernel) dX11_requirePackets_31 dX11_requirePackets_34 dX11_requirePackets_35 dX11_requirePackets_38 ⟨Nat.le_of_ble_eq_true rfl, Nat.le_of_ble_eq_true rfl, Nat.le_of_ble_eq_true rfl, Nat.le_of_ble_eq_true rfl⟩ ⟨Nat.le_of_ble_eq_true rfl, Nat.le_of_ble_eq_true rfl⟩
  · refine z_iload_n B dX11_requirePackets_8 rfl 1 rfl ?_
    refine z_iconst (v := 1) B dX11_requirePackets_9 rfl ?_
    refine z_icmp_lt (tgt := 31) B dX11_requirePackets_10 rfl (fun c_2 => ?_) (fun c_2 => ?_)
    · have k_1 : (0 : Int32).toInt = 0 := by decide
      have q_1 : ¬ ((lg_cmp a (-1)).toInt = (0 : Int32).toInt) := fun h9 => c_1 (Int32.toInt_inj.mp h9)
      have k_2 : (1 : Int32).toInt = 1 := by decide
      have q_2 : (b.toInt < (1 : Int32).toInt) := Int32.lt_iff_toInt_lt.mp c_2
      exact zb_throw (cls := xIA) (ik := 116) (ic := 118) B hl9 htab9 (by decide) ⟨(Or.inr (by omega)), hI, (fun b9 h9 => rfl)⟩ (by decide) (by decide +kernel) (by decide +kernel) (by decide +kernel) (by decide +kernel) (by decide +kernel) (by decide +kernel) (by decide +kernel) dX11_requirePackets_31 dX11_requirePackets_34 dX11_requirePackets_35 dX11_requirePackets_38 ⟨Nat.le_of_ble_eq_true rfl, Nat.le_of_ble_eq_true rfl, Nat.le_of_ble_eq_true rfl, Nat.le_of_ble_eq_true rfl⟩ ⟨Nat.le_of_ble_eq_true rfl, Nat.le_of_ble_eq_true rfl⟩
    · obtain ⟨n_1, e_2, e_1, rfl⟩ := nI_ofge (c := 1) (by omega) c_2
      refine z_iload_n B dX11_requirePackets_13 rfl 1 rfl ?_
      refine z_ldc (v := 65535) B (by decide +kernel) dX11_requirePackets_14 ?_
      refine z_icmp_gt (tgt := 31) B dX11_requirePackets_16 rfl (fun c_3 => ?_) (fun c_3 => ?_)
      · have e_3 : 65535 < n_1 := (nI_ltI (a := 65535) (b := n_1) (by omega) (by omega)).mp c_3
        have k_3 : (nI n_1).toInt = ((n_1 : Nat) : Int) := nI_toInt (by omega)
        have k_4 : (0 : Int32).toInt = 0 := by decide
        have q_3 : ¬ ((lg_cmp a (-1)).toInt = (0 : Int32).toInt) := fun h9 => c_1 (Int32.toInt_inj.mp h9)
        have k_5 : (1 : Int32).toInt = 1 := by decide
        have q_4 : ¬ ((nI n_1).toInt < (1 : Int32).toInt) := fun h9 => c_2 (Int32.lt_iff_toInt_lt.mpr h9)
        have k_6 : (65535 : Int32).toInt = 65535 := by decide
        have q_5 : ((65535 : Int32).toInt < (nI n_1).toInt) := Int32.lt_iff_toInt_lt.mp c_3
        exact zb_throw (cls := xIA) (ik := 116) (ic := 118) B hl9 htab9 (by decide) ⟨(Or.inr (by omega)), hI, (fun b9 h9 => rfl)⟩ (by decide) (by decide +kernel) (by decide +kernel) (by decide +kernel) (by decide +kernel) (by decide +kernel) (by decide +kernel) (by decide +kernel) dX11_requirePackets_31 dX11_requirePackets_34 dX11_requirePackets_35 dX11_requirePackets_38 ⟨Nat.le_of_ble_eq_true rfl, Nat.le_of_ble_eq_true rfl, Nat.le_of_ble_eq_true rfl, Nat.le_of_ble_eq_true rfl⟩ ⟨Nat.le_of_ble_eq_true rfl, Nat.le_of_ble_eq_true rfl⟩
      · have e_4 : ¬ (65535 < n_1) := fun h9 => c_3 ((nI_ltI (a := 65535) (b := n_1) (by omega) (by omega)).mpr h9)
        refine z_iload_n B dX11_requirePackets_19 rfl 2 rfl ?_
        refine z_iconst (v := 1) B dX11_requirePackets_20 rfl ?_
        refine z_icmp_lt (tgt := 31) B dX11_requirePackets_21 rfl (fun c_4 => ?_) (fun c_4 => ?_)
        · have k_7 : (nI n_1).toInt = ((n_1 : Nat) : Int) := nI_toInt (by omega)
          have k_8 : (0 : Int32).toInt = 0 := by decide
          have q_6 : ¬ ((lg_cmp a (-1)).toInt = (0 : Int32).toInt) := fun h9 => c_1 (Int32.toInt_inj.mp h9)
          have k_9 : (1 : Int32).toInt = 1 := by decide
          have q_7 : ¬ ((nI n_1).toInt < (1 : Int32).toInt) := fun h9 => c_2 (Int32.lt_iff_toInt_lt.mpr h9)
          have k_10 : (65535 : Int32).toInt = 65535 := by decide
          have q_8 : ¬ ((65535 : Int32).toInt < (nI n_1).toInt) := fun h9 => c_3 (Int32.lt_iff_toInt_lt.mpr h9)
          have q_9 : (d.toInt < (1 : Int32).toInt) := Int32.lt_iff_toInt_lt.mp c_4
          exact zb_throw (cls := xIA) (ik := 116) (ic := 118) B hl9 htab9 (by decide) ⟨(Or.inr (by omega)), hI, (fun b9 h9 => rfl)⟩ (by decide) (by decide +kernel) (by decide +kernel) (by decide +kernel) (by decide +kernel) (by decide +kernel) (by decide +kernel) (by decide +kernel) dX11_requirePackets_31 dX11_requirePackets_34 dX11_requirePackets_35 dX11_requirePackets_38 ⟨Nat.le_of_ble_eq_true rfl, Nat.le_of_ble_eq_true rfl, Nat.le_of_ble_eq_true rfl, Nat.le_of_ble_eq_true rfl⟩ ⟨Nat.le_of_ble_eq_true rfl, Nat.le_of_ble_eq_true rfl⟩
        · obtain ⟨n_2, e_6, e_5, rfl⟩ := nI_ofge (c := 1) (by omega) c_4
          refine z_iload_n B dX11_requirePackets_24 rfl 2 rfl ?_
          refine z_sipush (v := 200) B dX11_requirePackets_25 rfl ?_
          refine z_icmp_le (tgt := 39) B dX11_requirePackets_28 rfl (fun c_5 => ?_) (fun c_5 => ?_)
          · have e_7 : n_2 ≤ 200 := (nI_leI (a := n_2) (b := 200) (by omega) (by omega)).mp c_5
            have k_11 : (nI n_1).toInt = ((n_1 : Nat) : Int) := nI_toInt (by omega)
            have k_12 : (nI n_2).toInt = ((n_2 : Nat) : Int) := nI_toInt (by omega)
            have k_13 : (0 : Int32).toInt = 0 := by decide
            have q_10 : ¬ ((lg_cmp a (-1)).toInt = (0 : Int32).toInt) := fun h9 => c_1 (Int32.toInt_inj.mp h9)
            have k_14 : (1 : Int32).toInt = 1 := by decide
            have q_11 : ¬ ((nI n_1).toInt < (1 : Int32).toInt) := fun h9 => c_2 (Int32.lt_iff_toInt_lt.mpr h9)
            have k_15 : (65535 : Int32).toInt = 65535 := by decide
            have q_12 : ¬ ((65535 : Int32).toInt < (nI n_1).toInt) := fun h9 => c_3 (Int32.lt_iff_toInt_lt.mpr h9)
            have q_13 : ¬ ((nI n_2).toInt < (1 : Int32).toInt) := fun h9 => c_4 (Int32.lt_iff_toInt_lt.mpr h9)
            have k_16 : (200 : Int32).toInt = 200 := by decide
            have q_14 : ((nI n_2).toInt ≤ (200 : Int32).toInt) := Int32.le_iff_toInt_le.mp c_5
            exact zb_ret (Nat.le_of_ble_eq_true rfl) (Nat.le_of_ble_eq_true rfl) (z_ret_v B dX11_requirePackets_39 ⟨⟨rfl, ⟨n_2, (show n_2 ≤ 200 by omega), rfl⟩, (fun h9 => h9.elim (fun h8 => c_1 ((lg_cmp_eq _ _).mpr h8)) (fun h8 => by omega))⟩, rfl, hI, (fun b9 h9 => rfl)⟩)
          · have e_8 : ¬ (n_2 ≤ 200) := fun h9 => c_5 ((nI_leI (a := n_2) (b := 200) (by omega) (by omega)).mpr h9)
            have k_17 : (nI n_1).toInt = ((n_1 : Nat) : Int) := nI_toInt (by omega)
            have k_18 : (nI n_2).toInt = ((n_2 : Nat) : Int) := nI_toInt (by omega)
            have k_19 : (0 : Int32).toInt = 0 := by decide
            have q_15 : ¬ ((lg_cmp a (-1)).toInt = (0 : Int32).toInt) := fun h9 => c_1 (Int32.toInt_inj.mp h9)
            have k_20 : (1 : Int32).toInt = 1 := by decide
            have q_16 : ¬ ((nI n_1).toInt < (1 : Int32).toInt) := fun h9 => c_2 (Int32.lt_iff_toInt_lt.mpr h9)
            have k_21 : (65535 : Int32).toInt = 65535 := by decide
            have q_17 : ¬ ((65535 : Int32).toInt < (nI n_1).toInt) := fun h9 => c_3 (Int32.lt_iff_toInt_lt.mpr h9)
            have q_18 : ¬ ((nI n_2).toInt < (1 : Int32).toInt) := fun h9 => c_4 (Int32.lt_iff_toInt_lt.mpr h9)
            have k_22 : (200 : Int32).toInt = 200 := by decide
            have q_19 : ¬ ((nI n_2).toInt ≤ (200 : Int32).toInt) := fun h9 => c_5 (Int32.le_iff_toInt_le.mpr h9)
            exact zb_throw (cls := xIA) (ik := 116) (ic := 118) B hl9 htab9 (by decide) ⟨(Or.inr (by omega)), hI, (fun b9 h9 => rfl)⟩ (by decide) (by decide +kernel) (by decide +kernel) (by decide +kernel) (by decide +kernel) (by decide +kernel) (by decide +kernel) (by decide +kernel) dX11_requirePackets_31 dX11_requirePackets_34 dX11_requirePackets_35 dX11_requirePackets_38 ⟨Nat.le_of_ble_eq_true rfl, Nat.le_of_ble_eq_true rfl, Nat.le_of_ble_eq_true rfl, Nat.le_of_ble_eq_true rfl⟩ ⟨Nat.le_of_ble_eq_true rfl, Nat.le_of_ble_eq_true rfl⟩

theorem hu_X11_lossRate_X11 : ∀ w ∈ u_ws RX11 TX11 8, w ∈ wsX11_lossRate := fun _ h => List.mem_cons_of_mem _ (List.mem_append_left _ (List.mem_append_left _ (List.mem_append_left _ (List.mem_append_right _ (h)))))

theorem hv_X11_lossRate_71 : Cond.fieldLink RX11 71 "FlowExporter" (TX11 6).2.1 (TX11 6).2.2.1 ∈ wsX11_lossRate := List.mem_cons_of_mem _ (List.mem_append_left _ (List.mem_append_left _ (List.mem_append_left _ (List.mem_append_left _ (List.mem_of_getElem? (i := 2) rfl)))))

theorem hu_X11_lossRate_X0 : ∀ w ∈ u_ws RX0 TX0 12, w ∈ wsX11_lossRate := fun _ h => List.mem_cons_of_mem _ (List.mem_append_left _ (List.mem_append_left _ (List.mem_append_right _ (h))))

theorem hv_X11_lossRate_289 : Cond.fieldLink RX11 289 "FlowExporter$Collector" (TX0 7).2.1 (TX0 7).2.2.1 ∈ wsX11_lossRate := List.mem_cons_of_mem _ (List.mem_append_left _ (List.mem_append_left _ (List.mem_append_left _ (List.mem_append_left _ (List.mem_of_getElem? (i := 3) rfl)))))

set_option maxHeartbeats 4000000 in
set_option maxRecDepth 100000 in
theorem s_X11_lossRate (G : EnvG) (l : Launch) (hl9 : l.stackTraces = false) (Φ : Hm) (sz x ca : Nat)  (hx : G.2.2.2 ≤ x) (hI : In G x ca Φ)  : CtB G l yX11_lossRate wsX11_lossRate ({ frames := 6, cells := 1, slots := 6, locals := 81 }) 1 6 [.ref x] Φ sz (fun v Φ1 sz1 => (∃ r9 : UInt64, v = some (.double r9) ∧ nn64 r9) ∧ sz1 = sz ∧ In G x (ca) Φ1 ∧ Fr x (fun j9 => False) Φ Φ1) (fun Φ1 => In G x ca Φ1 ∧ Fr x (fun j9 => False) Φ Φ1) [xAE] := by
  refine CtB.of (cc := cX11_lossRate) (maxL := 5) (ret := (some .double)) (by decide) rfl (Nat.le_of_ble_eq_true rfl) ?_
  intro p9 e9 s9 m9 w9 t9 k9 B htab9
  show Z p9 l e9 _ s9 m9 _ w9 t9 k9 _ G 5 0 [(0, .ref x)] [] Φ sz 0 0
  refine z_aload_n B dX11_lossRate_0 rfl 0 rfl ?_
  have h_1 := in0 (k := 0) hI rfl
  have h_2 : Φ x = some (o_ 13 [.ref (x + 1), .ref (x + 3), .ref (x + 24), .ref (x + 46), .ref (x + 74), .ref (x + 80), .ref (x + 132), .ref (x + 121)]) := h_1
  refine z_get (ref := "FlowExporter") (C := RX11) (T := TX11) (N := 8) (ci := 13) (v := .ref (x + 132)) B hu_X11_lossRate_X11 rfl 6 (Nat.le_of_ble_eq_true rfl) hv_X11_lossRate_71 rfl h_2 rfl dX11_lossRate_1 ?_
  obtain ⟨n_1, v_1, v_2, h_3, b_1⟩ := in25 (k := 132) hI rfl
  have h_4 : Φ (x + 132) = some (o_ 2 [.ref (x + 3), .ref (x + 121), .ref (x + 133), .ref (x + 134), .ref (x + 135), .ref (x + 137), .ref (x + 138), .ref (x + 139), .ref (x + 140), .int (nI n_1), .int v_1, .int v_2]) := h_3
  refine z_get (ref := "FlowExporter$Collector") (C := RX0) (T := TX0) (N := 12) (ci := 2) (v := .ref (x + 139)) B hu_X11_lossRate_X0 rfl 7 (Nat.le_of_ble_eq_true rfl) hv_X11_lossRate_289 rfl h_4 rfl dX11_lossRate_4 ?_
  refine z_iconst (v := 0) B dX11_lossRate_7 rfl ?_
  obtain ⟨f_1, h_5⟩ := in28 (k := 139) hI rfl
  have h_6 : Φ (x + 139) = some (al_ G 9 f_1) := h_5
  refine z_lald B h_6 (vin rfl) dX11_lossRate_8 ?_
  refine z_fl (fun v_3 => ?_)
  refine z_lstore_n (lv' := [(1, .long v_3), (0, .ref x)]) B dX11_lossRate_9 rfl (Nat.le_of_ble_eq_true rfl) rfl ?_
  refine z_lload_n B dX11_lossRate_10 rfl 0 rfl ?_
  refine z_aload_n B dX11_lossRate_11 rfl 1 rfl ?_
  refine z_get (ref := "FlowExporter") (C := RX11) (T := TX11) (N := 8) (ci := 13) (v := .ref (x + 132)) B hu_X11_lossRate_X11 rfl 6 (Nat.le_of_ble_eq_true rfl) hv_X11_lossRate_71 rfl h_2 rfl dX11_lossRate_12 ?_
  refine z_get (ref := "FlowExporter$Collector") (C := RX0) (T := TX0) (N := 12) (ci := 2) (v := .ref (x + 139)) B hu_X11_lossRate_X0 rfl 7 (Nat.le_of_ble_eq_true rfl) hv_X11_lossRate_289 rfl h_4 rfl dX11_lossRate_15 ?_
  refine z_bipush (v := 7) B dX11_lossRate_18 rfl ?_
  refine z_lald B h_6 (vin rfl) dX11_lossRate_20 ?_
  refine z_fl (fun v_4 => ?_)
  refine z_ladd B dX11_lossRate_21 ?_
  refine z_fl (fun v_5 => ?_)
  refine z_lstore_n (lv' := [(3, .long v_5), (1, .long v_3), (0, .ref x)]) B dX11_lossRate_22 rfl (Nat.le_of_ble_eq_true rfl) rfl ?_
  refine z_lload_n B dX11_lossRate_23 rfl 0 rfl ?_
  refine z_lconst (v := 0) B dX11_lossRate_24 rfl ?_
  refine z_lcmp B dX11_lossRate_25 ?_
  refine z_if_ne (tgt := 37) B dX11_lossRate_26 rfl (fun c_1 => ?_) (fun c_1 => ?_)
  · refine z_lload_n B dX11_lossRate_37 rfl 1 rfl ?_
    refine z_l2d B dX11_lossRate_38 ?_
    refine z_fdq (P := fun u9 : UInt64 => sm64 12 u9) (l2d_sm v_3) (fun v_6 q_2 => ?_)
    replace q_2 : sm64 12 v_6 := q_2
    refine z_lload_n B dX11_lossRate_39 rfl 0 rfl ?_
    refine z_l2d B dX11_lossRate_40 ?_
    have q_4 : nn64 (FP.ddiv v_6 (FP.l2d v_5)) := (div_nnw (sm_nn q_2) (l2d_w (fun h8 => c_1 ((lg_cmp_eq _ _).mpr h8))))
    refine z_ddiv B dX11_lossRate_41 (vf_of q_4) ?_
    refine z_fdq (P := fun u9 : UInt64 => nn64 u9) q_4 (fun v_7 q_6 => ?_)
    replace q_6 : nn64 v_7 := q_6
    exact zb_ret (Nat.le_of_ble_eq_true rfl) (Nat.le_of_ble_eq_true rfl) (z_ret_d B dX11_lossRate_42 ⟨⟨_, rfl, q_6⟩, rfl, hI, (fun b9 h9 => rfl)⟩)
  · exact zb_throw (cls := xAE) (ik := 293) (ic := 295) B hl9 htab9 (by decide) ⟨hI, (fun b9 h9 => rfl)⟩ (by decide) (by decide +kernel) (by decide +kernel) (by decide +kernel) (by decide +kernel) (by decide +kernel) (by decide +kernel) (by decide +kernel) dX11_lossRate_29 dX11_lossRate_32 dX11_lossRate_33 dX11_lossRate_36 ⟨Nat.le_of_ble_eq_true rfl, Nat.le_of_ble_eq_true rfl, Nat.le_of_ble_eq_true rfl, Nat.le_of_ble_eq_true rfl⟩ ⟨Nat.le_of_ble_eq_true rfl, Nat.le_of_ble_eq_true rfl⟩

theorem hu_X11_key_X11 : ∀ w ∈ u_ws RX11 TX11 8, w ∈ wsX11_key := fun _ h => List.mem_cons_of_mem _ (List.mem_append_left _ (List.mem_append_left _ (List.mem_append_left _ (List.mem_append_left _ (List.mem_append_right _ (h))))))

theorem hv_X11_key_62 : Cond.fieldLink RX11 62 "FlowExporter" (TX11 7).2.1 (TX11 7).2.2.1 ∈ wsX11_key := List.mem_cons_of_mem _ (List.mem_append_left _ (List.mem_append_left _ (List.mem_append_left _ (List.mem_append_left _ (List.mem_append_left _ (List.mem_of_getElem? (i := 2) rfl))))))

theorem hu_X11_key_X9 : ∀ w ∈ u_ws RX9 TX9 5, w ∈ wsX11_key := fun _ h => List.mem_cons_of_mem _ (List.mem_append_left _ (List.mem_append_left _ (List.mem_append_left _ (List.mem_append_right _ (h)))))

theorem hv_X11_key_301 : Cond.fieldLink RX11 301 "FlowExporter$Sums" (TX9 0).2.1 (TX9 0).2.2.1 ∈ wsX11_key := List.mem_cons_of_mem _ (List.mem_append_left _ (List.mem_append_left _ (List.mem_append_left _ (List.mem_append_left _ (List.mem_append_left _ (List.mem_of_getElem? (i := 3) rfl))))))

set_option maxHeartbeats 4000000 in
set_option maxRecDepth 100000 in
theorem s_X11_key (G : EnvG) (l : Launch) (hl9 : l.stackTraces = false) (Φ : Hm) (sz x ca : Nat) (a : Int32) (b : Int32) (hx : G.2.2.2 ≤ x) (hI : In G x ca Φ)  : CtB G l yX11_key wsX11_key ({ frames := 7, cells := 2, slots := 12, locals := 102 }) 2 12 [.ref x, .int a, .int b] Φ sz (fun v Φ1 sz1 => (∃ r9 : Int32, v = some (.int r9)) ∧ sz1 = sz ∧ In G x (ca) Φ1 ∧ Fr x (fun j9 => False) Φ Φ1) (fun Φ1 => In G x ca Φ1 ∧ Fr x (fun j9 => False) Φ Φ1) [xIO, xIA] := by
  refine CtB.of (cc := cX11_key) (maxL := 3) (ret := (some .int)) (by decide) rfl (Nat.le_of_ble_eq_true rfl) ?_
  intro p9 e9 s9 m9 w9 t9 k9 B htab9
  show Z p9 l e9 _ s9 m9 _ w9 t9 k9 _ G 3 0 [(0, .ref x), (1, .int a), (2, .int b)] [] Φ sz 0 0
  refine z_aload_n B dX11_key_0 rfl 0 rfl ?_
  refine z_iload_n B dX11_key_1 rfl 1 rfl ?_
  have h_1 := in0 (k := 0) hI rfl
  have h_2 : Φ x = some (o_ 13 [.ref (x + 1), .ref (x + 3), .ref (x + 24), .ref (x + 46), .ref (x + 74), .ref (x + 80), .ref (x + 132), .ref (x + 121)]) := h_1
  refine zb_callV (As := [.int a]) (rest := []) B htab9 (s_X11_requireKey2 G l hl9 Φ sz x (ca) a hx hI ) (cwV 1 B.1.2.2.2.2 gX11_key_X11_requireKey rfl rfl rfl (by decide +kernel) ⟨Nat.le_of_ble_eq_true rfl, Nat.le_of_ble_eq_true rfl⟩) h_2 rfl rfl rfl rfl (Nat.le_of_ble_eq_true rfl) dX11_key_2 ⟨Nat.le_of_ble_eq_true rfl, Nat.le_of_ble_eq_true rfl⟩ ⟨Nat.le_of_ble_eq_true rfl, Nat.le_of_ble_eq_true rfl⟩ (by decide) (fun Φ9 h9 => ⟨h9.1, fun b9 h8 => ((h9.2 b9 h8).trans ((fun b9 h9 => rfl) b9 h8))⟩) (fun r_1 Φ1 sz1 st1 hp1 hs1 => ?_)
  obtain ⟨⟨rfl, n_1, b_1, rfl⟩, hq1, hI1, hF1⟩ := hp1
  subst sz1
  replace hs1 : st1 = [] := hs1
  subst st1
  replace hI1 : In G x (ca) Φ1 := hI1
  replace b_1 : n_1 < 24 := b_1
  refine z_iload_n B dX11_key_5 rfl 2 rfl ?_
  refine z_if_lt (tgt := 14) B dX11_key_6 rfl (fun c_1 => ?_) (fun c_1 => ?_)
  · exact zb_throw (cls := xIA) (ik := 116) (ic := 118) B hl9 htab9 (by decide) ⟨hI1, (fun b9 h9 => ((hF1 b9 (fun j9 h8 h7 => (show False from h7).elim)).trans rfl))⟩ (by decide) (by decide +kernel) (by decide +kernel) (by decide +kernel) (by decide +kernel) (by decide +kernel) (by decide +kernel) (by decide +kernel) dX11_key_14 dX11_key_17 dX11_key_18 dX11_key_21 ⟨Nat.le_of_ble_eq_true rfl, Nat.le_of_ble_eq_true rfl, Nat.le_of_ble_eq_true rfl, Nat.le_of_ble_eq_true rfl⟩ ⟨Nat.le_of_ble_eq_true rfl, Nat.le_of_ble_eq_true rfl⟩
  · obtain ⟨n_2, e_1, rfl⟩ := nI_of c_1
    refine z_iload_n B dX11_key_9 rfl 2 rfl ?_
    refine z_iconst (v := 3) B dX11_key_10 rfl ?_
    refine z_icmp_le (tgt := 22) B dX11_key_11 rfl (fun c_2 => ?_) (fun c_2 => ?_)
    · have e_2 : n_2 ≤ 3 := (nI_leI (a := n_2) (b := 3) (by omega) (by omega)).mp c_2
      refine z_aload_n B dX11_key_22 rfl 0 rfl ?_
      have h_3 : Φ1 x = some (o_ 13 [.ref (x + 1), .ref (x + 3), .ref (x + 24), .ref (x + 46), .ref (x + 74), .ref (x + 80), .ref (x + 132), .ref (x + 121)]) := ((hF1 x (fun j9 h8 h7 => (show False from h7).elim)).trans h_2)
      refine z_get (ref := "FlowExporter") (C := RX11) (T := TX11) (N := 8) (ci := 13) (v := .ref (x + 121)) B hu_X11_key_X11 rfl 7 (Nat.le_of_ble_eq_true rfl) hv_X11_key_62 rfl h_3 rfl dX11_key_23 ?_
      obtain ⟨n_3, h_4, b_2⟩ := in20 (k := 121) hI1 rfl
      have h_5 : Φ1 (x + 121) = some (o_ 11 [.ref (x + 122), .ref (x + 123), .ref (x + 126), .ref (x + 129), .int (nI n_3)]) := h_4
      refine z_get (ref := "FlowExporter$Sums") (C := RX9) (T := TX9) (N := 5) (ci := 11) (v := .ref (x + 122)) B hu_X11_key_X9 rfl 0 (Nat.le_of_ble_eq_true rfl) hv_X11_key_301 rfl h_5 rfl dX11_key_26 ?_
      refine z_iload_n B dX11_key_29 rfl 1 rfl ?_
      obtain ⟨f_1, h_6⟩ := in21 (k := 122) hI1 rfl
      have h_7 : Φ1 (x + 122) = some (al_ G 24 f_1) := h_6
      refine z_lald B h_7 (vp_in_nI (by omega) (by omega)) dX11_key_30 ?_
      refine z_fl (fun v_1 => ?_)
      refine z_iload_n B dX11_key_31 rfl 2 rfl ?_
      refine z_callS (As := [.long v_1, .int (nI n_2)]) (rest := []) B (s_X3_partOf G l Φ1 sz x (ca) v_1 (nI n_2) hx hI1 ) (va_cwS 2 B.1.2.2.2.2 gX11_key_X3_partOf rfl rfl rfl (by decide +kernel) ⟨Nat.le_of_ble_eq_true rfl, Nat.le_of_ble_eq_true rfl⟩) rfl rfl (Nat.le_of_ble_eq_true rfl) dX11_key_32 ⟨Nat.le_of_ble_eq_true rfl, Nat.le_of_ble_eq_true rfl⟩ (fun r_2 Φ2 sz2 st2 hp2 hs2 => ?_)
      obtain ⟨⟨v_2, rfl⟩, hq2, hI2, hF2⟩ := hp2
      subst sz2
      replace hs2 : st2 = [.int v_2] := hs2
      subst st2
      replace hI2 : In G x (ca) Φ2 := hI2
      exact zb_ret (Nat.le_of_ble_eq_true rfl) (Nat.le_of_ble_eq_true rfl) (z_ret_i B dX11_key_35 ⟨⟨_, rfl⟩, rfl, hI2, (fun b9 h9 => ((hF2 b9 (fun j9 h8 h7 => (show False from h7).elim)).trans ((hF1 b9 (fun j9 h8 h7 => (show False from h7).elim)).trans rfl)))⟩)
    · have e_3 : ¬ (n_2 ≤ 3) := fun h9 => c_2 ((nI_leI (a := n_2) (b := 3) (by omega) (by omega)).mpr h9)
      exact zb_throw (cls := xIA) (ik := 116) (ic := 118) B hl9 htab9 (by decide) ⟨hI1, (fun b9 h9 => ((hF1 b9 (fun j9 h8 h7 => (show False from h7).elim)).trans rfl))⟩ (by decide) (by decide +kernel) (by decide +kernel) (by decide +kernel) (by decide +kernel) (by decide +kernel) (by decide +kernel) (by decide +kernel) dX11_key_14 dX11_key_17 dX11_key_18 dX11_key_21 ⟨Nat.le_of_ble_eq_true rfl, Nat.le_of_ble_eq_true rfl, Nat.le_of_ble_eq_true rfl, Nat.le_of_ble_eq_true rfl⟩ ⟨Nat.le_of_ble_eq_true rfl, Nat.le_of_ble_eq_true rfl⟩

theorem hu_X11_raw_X11 : ∀ w ∈ u_ws RX11 TX11 8, w ∈ wsX11_raw := fun _ h => List.mem_cons_of_mem _ (List.mem_append_left _ (List.mem_append_left _ (List.mem_append_left _ (List.mem_append_left _ (List.mem_append_right _ (h))))))

theorem hv_X11_raw_62 : Cond.fieldLink RX11 62 "FlowExporter" (TX11 7).2.1 (TX11 7).2.2.1 ∈ wsX11_raw := List.mem_cons_of_mem _ (List.mem_append_left _ (List.mem_append_left _ (List.mem_append_left _ (List.mem_append_left _ (List.mem_append_left _ (List.mem_of_getElem? (i := 0) rfl))))))

theorem hu_X11_raw_X9 : ∀ w ∈ u_ws RX9 TX9 5, w ∈ wsX11_raw := fun _ h => List.mem_cons_of_mem _ (List.mem_append_left _ (List.mem_append_left _ (List.mem_append_left _ (List.mem_append_right _ (h)))))

theorem hv_X11_raw_315 : Cond.fieldLink RX11 315 "FlowExporter$Sums" (TX9 1).2.1 (TX9 1).2.2.1 ∈ wsX11_raw := List.mem_cons_of_mem _ (List.mem_append_left _ (List.mem_append_left _ (List.mem_append_left _ (List.mem_append_left _ (List.mem_append_left _ (List.mem_of_getElem? (i := 1) rfl))))))

set_option maxHeartbeats 4000000 in
set_option maxRecDepth 100000 in
theorem s_X11_raw (G : EnvG) (l : Launch) (hl9 : l.stackTraces = false) (Φ : Hm) (sz x ca : Nat) (a : Int32) (b : Int32) (hx : G.2.2.2 ≤ x) (hI : In G x ca Φ)  : CtB G l yX11_raw wsX11_raw ({ frames := 7, cells := 2, slots := 12, locals := 102 }) 2 12 [.ref x, .int a, .int b] Φ sz (fun v Φ1 sz1 => (∃ r9 : Int64, v = some (.long r9)) ∧ sz1 = sz ∧ In G x (ca) Φ1 ∧ Fr x (fun j9 => False) Φ Φ1) (fun Φ1 => In G x ca Φ1 ∧ Fr x (fun j9 => False) Φ Φ1) [xIO, xIA] := by
  refine CtB.of (cc := cX11_raw) (maxL := 3) (ret := (some .long)) (by decide) rfl (Nat.le_of_ble_eq_true rfl) ?_
  intro p9 e9 s9 m9 w9 t9 k9 B htab9
  show Z p9 l e9 _ s9 m9 _ w9 t9 k9 _ G 3 0 [(0, .ref x), (1, .int a), (2, .int b)] [] Φ sz 0 0
  refine z_aload_n B dX11_raw_0 rfl 0 rfl ?_
  refine z_iload_n B dX11_raw_1 rfl 1 rfl ?_
  have h_1 := in0 (k := 0) hI rfl
  have h_2 : Φ x = some (o_ 13 [.ref (x + 1), .ref (x + 3), .ref (x + 24), .ref (x + 46), .ref (x + 74), .ref (x + 80), .ref (x + 132), .ref (x + 121)]) := h_1
  refine zb_callV (As := [.int a]) (rest := []) B htab9 (s_X11_requireKey2 G l hl9 Φ sz x (ca) a hx hI ) (cwV 1 B.1.2.2.2.2 gX11_raw_X11_requireKey rfl rfl rfl (by decide +kernel) ⟨Nat.le_of_ble_eq_true rfl, Nat.le_of_ble_eq_true rfl⟩) h_2 rfl rfl rfl rfl (Nat.le_of_ble_eq_true rfl) dX11_raw_2 ⟨Nat.le_of_ble_eq_true rfl, Nat.le_of_ble_eq_true rfl⟩ ⟨Nat.le_of_ble_eq_true rfl, Nat.le_of_ble_eq_true rfl⟩ (by decide) (fun Φ9 h9 => ⟨h9.1, fun b9 h8 => ((h9.2 b9 h8).trans ((fun b9 h9 => rfl) b9 h8))⟩) (fun r_1 Φ1 sz1 st1 hp1 hs1 => ?_)
  obtain ⟨⟨rfl, n_1, b_1, rfl⟩, hq1, hI1, hF1⟩ := hp1
  subst sz1
  replace hs1 : st1 = [] := hs1
  subst st1
  replace hI1 : In G x (ca) Φ1 := hI1
  replace b_1 : n_1 < 24 := b_1
  refine z_iload_n B dX11_raw_5 rfl 2 rfl ?_
  refine zb_callS (As := [.int b]) (rest := []) B htab9 (s_X11_requireWhat2 G l hl9 Φ1 sz x (ca) b hx hI1 ) (va_cwS 1 B.1.2.2.2.2 gX11_raw_X11_requireWhat rfl rfl rfl (by decide +kernel) ⟨Nat.le_of_ble_eq_true rfl, Nat.le_of_ble_eq_true rfl⟩) rfl rfl (Nat.le_of_ble_eq_true rfl) dX11_raw_6 ⟨Nat.le_of_ble_eq_true rfl, Nat.le_of_ble_eq_true rfl⟩ ⟨Nat.le_of_ble_eq_true rfl, Nat.le_of_ble_eq_true rfl⟩ (by decide) (fun Φ9 h9 => ⟨h9.1, fun b9 h8 => ((h9.2 b9 h8).trans ((fun b9 h9 => ((hF1 b9 (fun j9 h8 h7 => (show False from h7).elim)).trans rfl)) b9 h8))⟩) (fun r_2 Φ2 sz2 st2 hp2 hs2 => ?_)
  obtain ⟨⟨rfl, n_2, b_2, rfl⟩, hq2, hI2, hF2⟩ := hp2
  subst sz2
  replace hs2 : st2 = [] := hs2
  subst st2
  replace hI2 : In G x (ca) Φ2 := hI2
  replace b_2 : n_2 < 2 := b_2
  refine z_aload_n B dX11_raw_9 rfl 0 rfl ?_
  have h_3 : Φ2 x = some (o_ 13 [.ref (x + 1), .ref (x + 3), .ref (x + 24), .ref (x + 46), .ref (x + 74), .ref (x + 80), .ref (x + 132), .ref (x + 121)]) := ((hF2 x (fun j9 h8 h7 => (show False from h7).elim)).trans ((hF1 x (fun j9 h8 h7 => (show False from h7).elim)).trans h_2))
  refine z_get (ref := "FlowExporter") (C := RX11) (T := TX11) (N := 8) (ci := 13) (v := .ref (x + 121)) B hu_X11_raw_X11 rfl 7 (Nat.le_of_ble_eq_true rfl) hv_X11_raw_62 rfl h_3 rfl dX11_raw_10 ?_
  obtain ⟨n_3, h_4, b_3⟩ := in20 (k := 121) hI2 rfl
  have h_5 : Φ2 (x + 121) = some (o_ 11 [.ref (x + 122), .ref (x + 123), .ref (x + 126), .ref (x + 129), .int (nI n_3)]) := h_4
  refine z_get (ref := "FlowExporter$Sums") (C := RX9) (T := TX9) (N := 5) (ci := 11) (v := .ref (x + 123)) B hu_X11_raw_X9 rfl 1 (Nat.le_of_ble_eq_true rfl) hv_X11_raw_315 rfl h_5 rfl dX11_raw_13 ?_
  refine z_iload_n B dX11_raw_16 rfl 2 rfl ?_
  obtain ⟨f_1, h_6, r_3⟩ := in22 (k := 123) hI2 rfl
  have h_7 : Φ2 (x + 123) = some (aq_ G 7 2 f_1) := h_6
  refine z_aaldA (b := x + (123 + 1 + n_2)) B rfl h_7 (vp_in_nI (by omega) (by omega)) ((congrArg f_1 (nI_clamp (by omega))).trans (r_3 n_2 (by omega))) dX11_raw_17 ?_
  refine z_iload_n B dX11_raw_18 rfl 1 rfl ?_
  obtain ⟨f_2, h_8⟩ := in21 (k := 123 + 1 + n_2) hI2 (kd_2a (by omega))
  have h_9 : Φ2 (x + (123 + 1 + n_2)) = some (al_ G 24 f_2) := h_8
  refine z_lald B h_9 (vp_in_nI (by omega) (by omega)) dX11_raw_19 ?_
  refine z_fl (fun v_1 => ?_)
  exact zb_ret (Nat.le_of_ble_eq_true rfl) (Nat.le_of_ble_eq_true rfl) (z_ret_l B dX11_raw_20 ⟨⟨_, rfl⟩, rfl, hI2, (fun b9 h9 => ((hF2 b9 (fun j9 h8 h7 => (show False from h7).elim)).trans ((hF1 b9 (fun j9 h8 h7 => (show False from h7).elim)).trans rfl)))⟩)

theorem hu_X11_estimate_X11 : ∀ w ∈ u_ws RX11 TX11 8, w ∈ wsX11_estimate := fun _ h => List.mem_cons_of_mem _ (List.mem_append_left _ (List.mem_append_left _ (List.mem_append_left _ (List.mem_append_left _ (List.mem_append_right _ (h))))))

theorem hv_X11_estimate_62 : Cond.fieldLink RX11 62 "FlowExporter" (TX11 7).2.1 (TX11 7).2.2.1 ∈ wsX11_estimate := List.mem_cons_of_mem _ (List.mem_append_left _ (List.mem_append_left _ (List.mem_append_left _ (List.mem_append_left _ (List.mem_append_left _ (List.mem_of_getElem? (i := 0) rfl))))))

theorem hu_X11_estimate_X9 : ∀ w ∈ u_ws RX9 TX9 5, w ∈ wsX11_estimate := fun _ h => List.mem_cons_of_mem _ (List.mem_append_left _ (List.mem_append_left _ (List.mem_append_left _ (List.mem_append_right _ (h)))))

theorem hv_X11_estimate_319 : Cond.fieldLink RX11 319 "FlowExporter$Sums" (TX9 2).2.1 (TX9 2).2.2.1 ∈ wsX11_estimate := List.mem_cons_of_mem _ (List.mem_append_left _ (List.mem_append_left _ (List.mem_append_left _ (List.mem_append_left _ (List.mem_append_left _ (List.mem_of_getElem? (i := 1) rfl))))))

set_option maxHeartbeats 4000000 in
set_option maxRecDepth 100000 in
theorem s_X11_estimate (G : EnvG) (l : Launch) (hl9 : l.stackTraces = false) (Φ : Hm) (sz x ca : Nat) (a : Int32) (b : Int32) (hx : G.2.2.2 ≤ x) (hI : In G x ca Φ)  : CtB G l yX11_estimate wsX11_estimate ({ frames := 7, cells := 2, slots := 12, locals := 102 }) 2 12 [.ref x, .int a, .int b] Φ sz (fun v Φ1 sz1 => (∃ r9 : Int64, v = some (.long r9)) ∧ sz1 = sz ∧ In G x (ca) Φ1 ∧ Fr x (fun j9 => False) Φ Φ1) (fun Φ1 => In G x ca Φ1 ∧ Fr x (fun j9 => False) Φ Φ1) [xIO, xIA] := by
  refine CtB.of (cc := cX11_estimate) (maxL := 3) (ret := (some .long)) (by decide) rfl (Nat.le_of_ble_eq_true rfl) ?_
  intro p9 e9 s9 m9 w9 t9 k9 B htab9
  show Z p9 l e9 _ s9 m9 _ w9 t9 k9 _ G 3 0 [(0, .ref x), (1, .int a), (2, .int b)] [] Φ sz 0 0
  refine z_aload_n B dX11_estimate_0 rfl 0 rfl ?_
  refine z_iload_n B dX11_estimate_1 rfl 1 rfl ?_
  have h_1 := in0 (k := 0) hI rfl
  have h_2 : Φ x = some (o_ 13 [.ref (x + 1), .ref (x + 3), .ref (x + 24), .ref (x + 46), .ref (x + 74), .ref (x + 80), .ref (x + 132), .ref (x + 121)]) := h_1
  refine zb_callV (As := [.int a]) (rest := []) B htab9 (s_X11_requireKey2 G l hl9 Φ sz x (ca) a hx hI ) (cwV 1 B.1.2.2.2.2 gX11_estimate_X11_requireKey rfl rfl rfl (by decide +kernel) ⟨Nat.le_of_ble_eq_true rfl, Nat.le_of_ble_eq_true rfl⟩) h_2 rfl rfl rfl rfl (Nat.le_of_ble_eq_true rfl) dX11_estimate_2 ⟨Nat.le_of_ble_eq_true rfl, Nat.le_of_ble_eq_true rfl⟩ ⟨Nat.le_of_ble_eq_true rfl, Nat.le_of_ble_eq_true rfl⟩ (by decide) (fun Φ9 h9 => ⟨h9.1, fun b9 h8 => ((h9.2 b9 h8).trans ((fun b9 h9 => rfl) b9 h8))⟩) (fun r_1 Φ1 sz1 st1 hp1 hs1 => ?_)
  obtain ⟨⟨rfl, n_1, b_1, rfl⟩, hq1, hI1, hF1⟩ := hp1
  subst sz1
  replace hs1 : st1 = [] := hs1
  subst st1
  replace hI1 : In G x (ca) Φ1 := hI1
  replace b_1 : n_1 < 24 := b_1
  refine z_iload_n B dX11_estimate_5 rfl 2 rfl ?_
  refine zb_callS (As := [.int b]) (rest := []) B htab9 (s_X11_requireWhat2 G l hl9 Φ1 sz x (ca) b hx hI1 ) (va_cwS 1 B.1.2.2.2.2 gX11_estimate_X11_requireWhat rfl rfl rfl (by decide +kernel) ⟨Nat.le_of_ble_eq_true rfl, Nat.le_of_ble_eq_true rfl⟩) rfl rfl (Nat.le_of_ble_eq_true rfl) dX11_estimate_6 ⟨Nat.le_of_ble_eq_true rfl, Nat.le_of_ble_eq_true rfl⟩ ⟨Nat.le_of_ble_eq_true rfl, Nat.le_of_ble_eq_true rfl⟩ (by decide) (fun Φ9 h9 => ⟨h9.1, fun b9 h8 => ((h9.2 b9 h8).trans ((fun b9 h9 => ((hF1 b9 (fun j9 h8 h7 => (show False from h7).elim)).trans rfl)) b9 h8))⟩) (fun r_2 Φ2 sz2 st2 hp2 hs2 => ?_)
  obtain ⟨⟨rfl, n_2, b_2, rfl⟩, hq2, hI2, hF2⟩ := hp2
  subst sz2
  replace hs2 : st2 = [] := hs2
  subst st2
  replace hI2 : In G x (ca) Φ2 := hI2
  replace b_2 : n_2 < 2 := b_2
  refine z_aload_n B dX11_estimate_9 rfl 0 rfl ?_
  have h_3 : Φ2 x = some (o_ 13 [.ref (x + 1), .ref (x + 3), .ref (x + 24), .ref (x + 46), .ref (x + 74), .ref (x + 80), .ref (x + 132), .ref (x + 121)]) := ((hF2 x (fun j9 h8 h7 => (show False from h7).elim)).trans ((hF1 x (fun j9 h8 h7 => (show False from h7).elim)).trans h_2))
  refine z_get (ref := "FlowExporter") (C := RX11) (T := TX11) (N := 8) (ci := 13) (v := .ref (x + 121)) B hu_X11_estimate_X11 rfl 7 (Nat.le_of_ble_eq_true rfl) hv_X11_estimate_62 rfl h_3 rfl dX11_estimate_10 ?_
  obtain ⟨n_3, h_4, b_3⟩ := in20 (k := 121) hI2 rfl
  have h_5 : Φ2 (x + 121) = some (o_ 11 [.ref (x + 122), .ref (x + 123), .ref (x + 126), .ref (x + 129), .int (nI n_3)]) := h_4
  refine z_get (ref := "FlowExporter$Sums") (C := RX9) (T := TX9) (N := 5) (ci := 11) (v := .ref (x + 126)) B hu_X11_estimate_X9 rfl 2 (Nat.le_of_ble_eq_true rfl) hv_X11_estimate_319 rfl h_5 rfl dX11_estimate_13 ?_
  refine z_iload_n B dX11_estimate_16 rfl 2 rfl ?_
  obtain ⟨f_1, h_6, r_3⟩ := in22 (k := 126) hI2 rfl
  have h_7 : Φ2 (x + 126) = some (aq_ G 7 2 f_1) := h_6
  refine z_aaldA (b := x + (126 + 1 + n_2)) B rfl h_7 (vp_in_nI (by omega) (by omega)) ((congrArg f_1 (nI_clamp (by omega))).trans (r_3 n_2 (by omega))) dX11_estimate_17 ?_
  refine z_iload_n B dX11_estimate_18 rfl 1 rfl ?_
  obtain ⟨f_2, h_8⟩ := in21 (k := 126 + 1 + n_2) hI2 (kd_2b (by omega))
  have h_9 : Φ2 (x + (126 + 1 + n_2)) = some (al_ G 24 f_2) := h_8
  refine z_lald B h_9 (vp_in_nI (by omega) (by omega)) dX11_estimate_19 ?_
  refine z_fl (fun v_1 => ?_)
  exact zb_ret (Nat.le_of_ble_eq_true rfl) (Nat.le_of_ble_eq_true rfl) (z_ret_l B dX11_estimate_20 ⟨⟨_, rfl⟩, rfl, hI2, (fun b9 h9 => ((hF2 b9 (fun j9 h8 h7 => (show False from h7).elim)).trans ((hF1 b9 (fun j9 h8 h7 => (show False from h7).elim)).trans rfl)))⟩)

theorem hu_X11_lower_X11 : ∀ w ∈ u_ws RX11 TX11 8, w ∈ wsX11_lower := fun _ h => List.mem_cons_of_mem _ (List.mem_append_left _ (List.mem_append_left _ (List.mem_append_left _ (List.mem_append_left _ (List.mem_append_right _ (h))))))

theorem hv_X11_lower_62 : Cond.fieldLink RX11 62 "FlowExporter" (TX11 7).2.1 (TX11 7).2.2.1 ∈ wsX11_lower := List.mem_cons_of_mem _ (List.mem_append_left _ (List.mem_append_left _ (List.mem_append_left _ (List.mem_append_left _ (List.mem_append_left _ (List.mem_append_left _ (List.mem_of_getElem? (i := 0) rfl)))))))

set_option maxHeartbeats 4000000 in
set_option maxRecDepth 100000 in
theorem s_X11_lower (G : EnvG) (l : Launch) (hl9 : l.stackTraces = false) (Φ : Hm) (sz x ca : Nat) (a : Int32) (b : Int32) (hx : G.2.2.2 ≤ x) (hI : In G x ca Φ)  : CtB G l yX11_lower wsX11_lower ({ frames := 7, cells := 2, slots := 12, locals := 102 }) 2 12 [.ref x, .int a, .int b] Φ sz (fun v Φ1 sz1 => (∃ r9 : UInt64, v = some (.double r9) ∧ nn64 r9) ∧ sz1 = sz ∧ In G x (ca) Φ1 ∧ Fr x (fun j9 => False) Φ Φ1) (fun Φ1 => In G x ca Φ1 ∧ Fr x (fun j9 => False) Φ Φ1) [xIO, xIA] := by
  refine CtB.of (cc := cX11_lower) (maxL := 3) (ret := (some .double)) (by decide) rfl (Nat.le_of_ble_eq_true rfl) ?_
  intro p9 e9 s9 m9 w9 t9 k9 B htab9
  show Z p9 l e9 _ s9 m9 _ w9 t9 k9 _ G 3 0 [(0, .ref x), (1, .int a), (2, .int b)] [] Φ sz 0 0
  refine z_aload_n B dX11_lower_0 rfl 0 rfl ?_
  refine z_iload_n B dX11_lower_1 rfl 1 rfl ?_
  have h_1 := in0 (k := 0) hI rfl
  have h_2 : Φ x = some (o_ 13 [.ref (x + 1), .ref (x + 3), .ref (x + 24), .ref (x + 46), .ref (x + 74), .ref (x + 80), .ref (x + 132), .ref (x + 121)]) := h_1
  refine zb_callV (As := [.int a]) (rest := []) B htab9 (s_X11_requireKey2 G l hl9 Φ sz x (ca) a hx hI ) (cwV 1 B.1.2.2.2.2 gX11_lower_X11_requireKey rfl rfl rfl (by decide +kernel) ⟨Nat.le_of_ble_eq_true rfl, Nat.le_of_ble_eq_true rfl⟩) h_2 rfl rfl rfl rfl (Nat.le_of_ble_eq_true rfl) dX11_lower_2 ⟨Nat.le_of_ble_eq_true rfl, Nat.le_of_ble_eq_true rfl⟩ ⟨Nat.le_of_ble_eq_true rfl, Nat.le_of_ble_eq_true rfl⟩ (by decide) (fun Φ9 h9 => ⟨h9.1, fun b9 h8 => ((h9.2 b9 h8).trans ((fun b9 h9 => rfl) b9 h8))⟩) (fun r_1 Φ1 sz1 st1 hp1 hs1 => ?_)
  obtain ⟨⟨rfl, n_1, b_1, rfl⟩, hq1, hI1, hF1⟩ := hp1
  subst sz1
  replace hs1 : st1 = [] := hs1
  subst st1
  replace hI1 : In G x (ca) Φ1 := hI1
  replace b_1 : n_1 < 24 := b_1
  refine z_iload_n B dX11_lower_5 rfl 2 rfl ?_
  refine zb_callS (As := [.int b]) (rest := []) B htab9 (s_X11_requireWhat2 G l hl9 Φ1 sz x (ca) b hx hI1 ) (va_cwS 1 B.1.2.2.2.2 gX11_lower_X11_requireWhat rfl rfl rfl (by decide +kernel) ⟨Nat.le_of_ble_eq_true rfl, Nat.le_of_ble_eq_true rfl⟩) rfl rfl (Nat.le_of_ble_eq_true rfl) dX11_lower_6 ⟨Nat.le_of_ble_eq_true rfl, Nat.le_of_ble_eq_true rfl⟩ ⟨Nat.le_of_ble_eq_true rfl, Nat.le_of_ble_eq_true rfl⟩ (by decide) (fun Φ9 h9 => ⟨h9.1, fun b9 h8 => ((h9.2 b9 h8).trans ((fun b9 h9 => ((hF1 b9 (fun j9 h8 h7 => (show False from h7).elim)).trans rfl)) b9 h8))⟩) (fun r_2 Φ2 sz2 st2 hp2 hs2 => ?_)
  obtain ⟨⟨rfl, n_2, b_2, rfl⟩, hq2, hI2, hF2⟩ := hp2
  subst sz2
  replace hs2 : st2 = [] := hs2
  subst st2
  replace hI2 : In G x (ca) Φ2 := hI2
  replace b_2 : n_2 < 2 := b_2
  refine z_aload_n B dX11_lower_9 rfl 0 rfl ?_
  have h_3 : Φ2 x = some (o_ 13 [.ref (x + 1), .ref (x + 3), .ref (x + 24), .ref (x + 46), .ref (x + 74), .ref (x + 80), .ref (x + 132), .ref (x + 121)]) := ((hF2 x (fun j9 h8 h7 => (show False from h7).elim)).trans ((hF1 x (fun j9 h8 h7 => (show False from h7).elim)).trans h_2))
  refine z_get (ref := "FlowExporter") (C := RX11) (T := TX11) (N := 8) (ci := 13) (v := .ref (x + 121)) B hu_X11_lower_X11 rfl 7 (Nat.le_of_ble_eq_true rfl) hv_X11_lower_62 rfl h_3 rfl dX11_lower_10 ?_
  refine z_iload_n B dX11_lower_13 rfl 1 rfl ?_
  refine z_iload_n B dX11_lower_14 rfl 2 rfl ?_
  obtain ⟨n_3, h_4, b_3⟩ := in20 (k := 121) hI2 rfl
  have h_5 : Φ2 (x + 121) = some (o_ 11 [.ref (x + 122), .ref (x + 123), .ref (x + 126), .ref (x + 129), .int (nI n_3)]) := h_4
  refine z_callV (As := [.int (nI n_1), .int (nI n_2)]) (rest := []) B (s_X9_lowerBound G l Φ2 sz x (ca) n_1 n_2 hx hI2 (show n_1 < 24 by omega) (show n_2 < 2 by omega)) (cwV 2 B.1.2.2.2.2 gX11_lower_X9_lowerBound rfl rfl rfl (by decide +kernel) ⟨Nat.le_of_ble_eq_true rfl, Nat.le_of_ble_eq_true rfl⟩) h_5 rfl rfl rfl rfl (Nat.le_of_ble_eq_true rfl) dX11_lower_15 ⟨Nat.le_of_ble_eq_true rfl, Nat.le_of_ble_eq_true rfl⟩ (fun r_3 Φ3 sz3 st3 hp3 hs3 => ?_)
  obtain ⟨⟨v_1, rfl, q_1⟩, hq3, hI3, hF3⟩ := hp3
  subst sz3
  replace hs3 : st3 = [.double v_1] := hs3
  subst st3
  replace hI3 : In G x (ca) Φ3 := hI3
  exact zb_ret (Nat.le_of_ble_eq_true rfl) (Nat.le_of_ble_eq_true rfl) (z_ret_d B dX11_lower_18 ⟨⟨_, rfl, q_1⟩, rfl, hI3, (fun b9 h9 => ((hF3 b9 (fun j9 h8 h7 => (show False from h7).elim)).trans ((hF2 b9 (fun j9 h8 h7 => (show False from h7).elim)).trans ((hF1 b9 (fun j9 h8 h7 => (show False from h7).elim)).trans rfl))))⟩)

theorem hu_X11_upper_X11 : ∀ w ∈ u_ws RX11 TX11 8, w ∈ wsX11_upper := fun _ h => List.mem_cons_of_mem _ (List.mem_append_left _ (List.mem_append_left _ (List.mem_append_left _ (List.mem_append_left _ (List.mem_append_right _ (h))))))

theorem hv_X11_upper_62 : Cond.fieldLink RX11 62 "FlowExporter" (TX11 7).2.1 (TX11 7).2.2.1 ∈ wsX11_upper := List.mem_cons_of_mem _ (List.mem_append_left _ (List.mem_append_left _ (List.mem_append_left _ (List.mem_append_left _ (List.mem_append_left _ (List.mem_append_left _ (List.mem_of_getElem? (i := 0) rfl)))))))

set_option maxHeartbeats 4000000 in
set_option maxRecDepth 100000 in
theorem s_X11_upper (G : EnvG) (l : Launch) (hl9 : l.stackTraces = false) (Φ : Hm) (sz x ca : Nat) (a : Int32) (b : Int32) (hx : G.2.2.2 ≤ x) (hI : In G x ca Φ)  : CtB G l yX11_upper wsX11_upper ({ frames := 7, cells := 2, slots := 12, locals := 102 }) 2 12 [.ref x, .int a, .int b] Φ sz (fun v Φ1 sz1 => (∃ r9 : UInt64, v = some (.double r9) ∧ nn64 r9) ∧ sz1 = sz ∧ In G x (ca) Φ1 ∧ Fr x (fun j9 => False) Φ Φ1) (fun Φ1 => In G x ca Φ1 ∧ Fr x (fun j9 => False) Φ Φ1) [xIO, xIA] := by
  refine CtB.of (cc := cX11_upper) (maxL := 3) (ret := (some .double)) (by decide) rfl (Nat.le_of_ble_eq_true rfl) ?_
  intro p9 e9 s9 m9 w9 t9 k9 B htab9
  show Z p9 l e9 _ s9 m9 _ w9 t9 k9 _ G 3 0 [(0, .ref x), (1, .int a), (2, .int b)] [] Φ sz 0 0
  refine z_aload_n B dX11_upper_0 rfl 0 rfl ?_
  refine z_iload_n B dX11_upper_1 rfl 1 rfl ?_
  have h_1 := in0 (k := 0) hI rfl
  have h_2 : Φ x = some (o_ 13 [.ref (x + 1), .ref (x + 3), .ref (x + 24), .ref (x + 46), .ref (x + 74), .ref (x + 80), .ref (x + 132), .ref (x + 121)]) := h_1
  refine zb_callV (As := [.int a]) (rest := []) B htab9 (s_X11_requireKey2 G l hl9 Φ sz x (ca) a hx hI ) (cwV 1 B.1.2.2.2.2 gX11_upper_X11_requireKey rfl rfl rfl (by decide +kernel) ⟨Nat.le_of_ble_eq_true rfl, Nat.le_of_ble_eq_true rfl⟩) h_2 rfl rfl rfl rfl (Nat.le_of_ble_eq_true rfl) dX11_upper_2 ⟨Nat.le_of_ble_eq_true rfl, Nat.le_of_ble_eq_true rfl⟩ ⟨Nat.le_of_ble_eq_true rfl, Nat.le_of_ble_eq_true rfl⟩ (by decide) (fun Φ9 h9 => ⟨h9.1, fun b9 h8 => ((h9.2 b9 h8).trans ((fun b9 h9 => rfl) b9 h8))⟩) (fun r_1 Φ1 sz1 st1 hp1 hs1 => ?_)
  obtain ⟨⟨rfl, n_1, b_1, rfl⟩, hq1, hI1, hF1⟩ := hp1
  subst sz1
  replace hs1 : st1 = [] := hs1
  subst st1
  replace hI1 : In G x (ca) Φ1 := hI1
  replace b_1 : n_1 < 24 := b_1
  refine z_iload_n B dX11_upper_5 rfl 2 rfl ?_
  refine zb_callS (As := [.int b]) (rest := []) B htab9 (s_X11_requireWhat2 G l hl9 Φ1 sz x (ca) b hx hI1 ) (va_cwS 1 B.1.2.2.2.2 gX11_upper_X11_requireWhat rfl rfl rfl (by decide +kernel) ⟨Nat.le_of_ble_eq_true rfl, Nat.le_of_ble_eq_true rfl⟩) rfl rfl (Nat.le_of_ble_eq_true rfl) dX11_upper_6 ⟨Nat.le_of_ble_eq_true rfl, Nat.le_of_ble_eq_true rfl⟩ ⟨Nat.le_of_ble_eq_true rfl, Nat.le_of_ble_eq_true rfl⟩ (by decide) (fun Φ9 h9 => ⟨h9.1, fun b9 h8 => ((h9.2 b9 h8).trans ((fun b9 h9 => ((hF1 b9 (fun j9 h8 h7 => (show False from h7).elim)).trans rfl)) b9 h8))⟩) (fun r_2 Φ2 sz2 st2 hp2 hs2 => ?_)
  obtain ⟨⟨rfl, n_2, b_2, rfl⟩, hq2, hI2, hF2⟩ := hp2
  subst sz2
  replace hs2 : st2 = [] := hs2
  subst st2
  replace hI2 : In G x (ca) Φ2 := hI2
  replace b_2 : n_2 < 2 := b_2
  refine z_aload_n B dX11_upper_9 rfl 0 rfl ?_
  have h_3 : Φ2 x = some (o_ 13 [.ref (x + 1), .ref (x + 3), .ref (x + 24), .ref (x + 46), .ref (x + 74), .ref (x + 80), .ref (x + 132), .ref (x + 121)]) := ((hF2 x (fun j9 h8 h7 => (show False from h7).elim)).trans ((hF1 x (fun j9 h8 h7 => (show False from h7).elim)).trans h_2))
  refine z_get (ref := "FlowExporter") (C := RX11) (T := TX11) (N := 8) (ci := 13) (v := .ref (x + 121)) B hu_X11_upper_X11 rfl 7 (Nat.le_of_ble_eq_true rfl) hv_X11_upper_62 rfl h_3 rfl dX11_upper_10 ?_
  refine z_iload_n B dX11_upper_13 rfl 1 rfl ?_
  refine z_iload_n B dX11_upper_14 rfl 2 rfl ?_
  obtain ⟨n_3, h_4, b_3⟩ := in20 (k := 121) hI2 rfl
  have h_5 : Φ2 (x + 121) = some (o_ 11 [.ref (x + 122), .ref (x + 123), .ref (x + 126), .ref (x + 129), .int (nI n_3)]) := h_4
  refine z_callV (As := [.int (nI n_1), .int (nI n_2)]) (rest := []) B (s_X9_upperBound G l Φ2 sz x (ca) n_1 n_2 hx hI2 (show n_1 < 24 by omega) (show n_2 < 2 by omega)) (cwV 2 B.1.2.2.2.2 gX11_upper_X9_upperBound rfl rfl rfl (by decide +kernel) ⟨Nat.le_of_ble_eq_true rfl, Nat.le_of_ble_eq_true rfl⟩) h_5 rfl rfl rfl rfl (Nat.le_of_ble_eq_true rfl) dX11_upper_15 ⟨Nat.le_of_ble_eq_true rfl, Nat.le_of_ble_eq_true rfl⟩ (fun r_3 Φ3 sz3 st3 hp3 hs3 => ?_)
  obtain ⟨⟨v_1, rfl, q_1⟩, hq3, hI3, hF3⟩ := hp3
  subst sz3
  replace hs3 : st3 = [.double v_1] := hs3
  subst st3
  replace hI3 : In G x (ca) Φ3 := hI3
  exact zb_ret (Nat.le_of_ble_eq_true rfl) (Nat.le_of_ble_eq_true rfl) (z_ret_d B dX11_upper_18 ⟨⟨_, rfl, q_1⟩, rfl, hI3, (fun b9 h9 => ((hF3 b9 (fun j9 h8 h7 => (show False from h7).elim)).trans ((hF2 b9 (fun j9 h8 h7 => (show False from h7).elim)).trans ((hF1 b9 (fun j9 h8 h7 => (show False from h7).elim)).trans rfl))))⟩)

theorem hu_X11_covered_X11 : ∀ w ∈ u_ws RX11 TX11 8, w ∈ wsX11_covered := fun _ h => List.mem_cons_of_mem _ (List.mem_append_left _ (List.mem_append_left _ (List.mem_append_left _ (List.mem_append_left _ (List.mem_append_left _ (List.mem_append_left _ (List.mem_append_right _ (h))))))))

theorem hv_X11_covered_62 : Cond.fieldLink RX11 62 "FlowExporter" (TX11 7).2.1 (TX11 7).2.2.1 ∈ wsX11_covered := List.mem_cons_of_mem _ (List.mem_append_left _ (List.mem_append_left _ (List.mem_append_left _ (List.mem_append_left _ (List.mem_append_left _ (List.mem_append_left _ (List.mem_append_left _ (List.mem_append_left _ (List.mem_of_getElem? (i := 0) rfl)))))))))

theorem hu_X11_covered_X9 : ∀ w ∈ u_ws RX9 TX9 5, w ∈ wsX11_covered := fun _ h => List.mem_cons_of_mem _ (List.mem_append_left _ (List.mem_append_left _ (List.mem_append_left _ (List.mem_append_left _ (List.mem_append_left _ (List.mem_append_right _ (h)))))))

theorem hv_X11_covered_92 : Cond.fieldLink RX11 92 "FlowExporter$Sums" (TX9 4).2.1 (TX9 4).2.2.1 ∈ wsX11_covered := List.mem_cons_of_mem _ (List.mem_append_left _ (List.mem_append_left _ (List.mem_append_left _ (List.mem_append_left _ (List.mem_append_left _ (List.mem_append_left _ (List.mem_append_left _ (List.mem_append_left _ (List.mem_of_getElem? (i := 1) rfl)))))))))

theorem hv_X11_covered_55 : Cond.fieldLink RX11 55 "FlowExporter" (TX11 5).2.1 (TX11 5).2.2.1 ∈ wsX11_covered := List.mem_cons_of_mem _ (List.mem_append_left _ (List.mem_append_left _ (List.mem_append_left _ (List.mem_append_left _ (List.mem_append_left _ (List.mem_append_left _ (List.mem_append_left _ (List.mem_append_left _ (List.mem_of_getElem? (i := 2) rfl)))))))))

theorem hv_X11_covered_301 : Cond.fieldLink RX11 301 "FlowExporter$Sums" (TX9 0).2.1 (TX9 0).2.2.1 ∈ wsX11_covered := List.mem_cons_of_mem _ (List.mem_append_left _ (List.mem_append_left _ (List.mem_append_left _ (List.mem_append_left _ (List.mem_append_left _ (List.mem_append_left _ (List.mem_append_left _ (List.mem_append_left _ (List.mem_of_getElem? (i := 3) rfl)))))))))

set_option maxRecDepth 20000 in
theorem ggX11_estimate_X11_requireKey : GoodIn wsX11_estimate wsX11_requireKey := goodIn_ca ((goodIn_ca (goodIn_ca (goodIn_r _ [7, 8, 9, 1, 10] rfl (by decide +kernel)) (goodIn_sub (fun _ h => List.mem_cons_of_mem _ (List.mem_append_left _ (List.mem_append_left _ (List.mem_append_left _ (List.mem_append_left _ (List.mem_append_right _ h)))))) gw_wsX110)) (goodIn_sub (fun _ h => List.mem_cons_of_mem _ (List.mem_append_left _ (List.mem_append_left _ (List.mem_append_left _ (List.mem_append_right _ h))))) gw_wsX90))) (goodIn_sub (fun _ h => List.mem_cons_of_mem _ (List.mem_append_left _ (List.mem_append_right _ h))) (all_fg _))
set_option maxRecDepth 20000 in
theorem gX11_estimate_X11_requireKey : GoodIn wsX11_estimate (wsV RX11 298 RX11 yX11_requireKey wsX11_requireKey) := goodIn_app (goodIn_m (mem_cA (List.mem_cons_of_mem _ (List.mem_append_left _ (List.mem_append_left _ (List.mem_append_left _ (List.mem_append_left _ (List.mem_append_left _ (List.mem_of_getElem? (i := 2) rfl))))))) (mem_cA (List.mem_cons_of_mem _ (List.mem_append_left _ (List.mem_append_left _ (List.mem_append_left _ (List.mem_append_left _ (List.mem_append_left _ (List.mem_of_getElem? (i := 3) rfl))))))) (mem_cA (List.mem_cons_of_mem _ (List.mem_append_left _ (List.mem_append_left _ (List.mem_append_left _ (List.mem_append_left _ (List.mem_append_left _ (List.mem_of_getElem? (i := 4) rfl))))))) (mem_cA (List.mem_cons_of_mem _ (List.mem_append_left _ (List.mem_append_left _ (List.mem_append_left _ (List.mem_append_left _ (List.mem_append_left _ (List.mem_of_getElem? (i := 5) rfl))))))) mem_cZ)))) (by decide +kernel)) ggX11_estimate_X11_requireKey
set_option maxRecDepth 20000 in
theorem ggX11_estimate_X11_requireWhat : GoodIn wsX11_estimate wsX11_requireWhat := goodIn_ca ((goodIn_r _ [13, 14, 15] rfl (by decide +kernel))) (goodIn_sub (fun _ h => List.mem_cons_of_mem _ (List.mem_append_right _ h)) (all_fg _))
set_option maxRecDepth 20000 in
theorem gX11_estimate_X11_requireWhat : GoodIn wsX11_estimate (va_wsS RX11 312 yX11_requireWhat wsX11_requireWhat) := goodIn_app (goodIn_m (mem_cA (List.mem_cons_of_mem _ (List.mem_append_left _ (List.mem_append_left _ (List.mem_append_left _ (List.mem_append_left _ (List.mem_append_left _ (List.mem_of_getElem? (i := 10) rfl))))))) (mem_cA (List.mem_cons_of_mem _ (List.mem_append_left _ (List.mem_append_left _ (List.mem_append_left _ (List.mem_append_left _ (List.mem_append_left _ (List.mem_of_getElem? (i := 11) rfl))))))) (mem_cA (List.mem_cons_of_mem _ (List.mem_append_left _ (List.mem_append_left _ (List.mem_append_left _ (List.mem_append_left _ (List.mem_append_left _ (List.mem_of_getElem? (i := 5) rfl))))))) mem_cZ))) (by decide +kernel)) ggX11_estimate_X11_requireWhat
theorem dX11_estimate_0 : decode cX11_estimate 0 = .ok (.aload_n 0, 1) := by decide +kernel
theorem dX11_estimate_1 : decode cX11_estimate 1 = .ok (.iload_n 1, 1) := by decide +kernel
theorem dX11_estimate_2 : decode cX11_estimate 2 = .ok (.invokevirtual 298, 3) := by decide +kernel
theorem dX11_estimate_5 : decode cX11_estimate 5 = .ok (.iload_n 2, 1) := by decide +kernel
theorem dX11_estimate_6 : decode cX11_estimate 6 = .ok (.invokestatic 312, 3) := by decide +kernel
theorem dX11_estimate_9 : decode cX11_estimate 9 = .ok (.aload_n 0, 1) := by decide +kernel
theorem dX11_estimate_10 : decode cX11_estimate 10 = .ok (.getfield 62, 3) := by decide +kernel
theorem dX11_estimate_13 : decode cX11_estimate 13 = .ok (.getfield 319, 3) := by decide +kernel
theorem dX11_estimate_16 : decode cX11_estimate 16 = .ok (.iload_n 2, 1) := by decide +kernel
theorem dX11_estimate_17 : decode cX11_estimate 17 = .ok (.aaload, 1) := by decide +kernel
theorem dX11_estimate_18 : decode cX11_estimate 18 = .ok (.iload_n 1, 1) := by decide +kernel
theorem dX11_estimate_19 : decode cX11_estimate 19 = .ok (.laload, 1) := by decide +kernel
theorem dX11_estimate_20 : decode cX11_estimate 20 = .ok (.lreturn, 1) := by decide +kernel
set_option maxRecDepth 20000 in
theorem ggX11_lower_X11_requireKey : GoodIn wsX11_lower wsX11_requireKey := goodIn_ca ((goodIn_ca (goodIn_ca (goodIn_r _ [6, 7, 8, 1, 9] rfl (by decide +kernel)) (goodIn_sub (fun _ h => List.mem_cons_of_mem _ (List.mem_append_left _ (List.mem_append_left _ (List.mem_append_left _ (List.mem_append_left _ (List.mem_append_right _ h)))))) gw_wsX110)) (goodIn_sub (fun _ h => List.mem_cons_of_mem _ (List.mem_append_left _ (List.mem_append_left _ (List.mem_append_left _ (List.mem_append_right _ h))))) gw_wsX90))) (goodIn_sub (fun _ h => List.mem_cons_of_mem _ (List.mem_append_left _ (List.mem_append_left _ (List.mem_append_right _ h)))) (all_fg _))
set_option maxRecDepth 20000 in
theorem gX11_lower_X11_requireKey : GoodIn wsX11_lower (wsV RX11 298 RX11 yX11_requireKey wsX11_requireKey) := goodIn_app (goodIn_m (mem_cA (List.mem_cons_of_mem _ (List.mem_append_left _ (List.mem_append_left _ (List.mem_append_left _ (List.mem_append_left _ (List.mem_append_left _ (List.mem_append_left _ (List.mem_of_getElem? (i := 1) rfl)))))))) (mem_cA (List.mem_cons_of_mem _ (List.mem_append_left _ (List.mem_append_left _ (List.mem_append_left _ (List.mem_append_left _ (List.mem_append_left _ (List.mem_append_left _ (List.mem_of_getElem? (i := 2) rfl)))))))) (mem_cA (List.mem_cons_of_mem _ (List.mem_append_left _ (List.mem_append_left _ (List.mem_append_left _ (List.mem_append_left _ (List.mem_append_left _ (List.mem_append_left _ (List.mem_of_getElem? (i := 3) rfl)))))))) (mem_cA (List.mem_cons_of_mem _ (List.mem_append_left _ (List.mem_append_left _ (List.mem_append_left _ (List.mem_append_left _ (List.mem_append_left _ (List.mem_append_left _ (List.mem_of_getElem? (i := 4) rfl)))))))) mem_cZ)))) (by decide +kernel)) ggX11_lower_X11_requireKey
set_option maxRecDepth 20000 in
theorem ggX11_lower_X11_requireWhat : GoodIn wsX11_lower wsX11_requireWhat := goodIn_ca ((goodIn_r _ [12, 13, 14] rfl (by decide +kernel))) (goodIn_sub (fun _ h => List.mem_cons_of_mem _ (List.mem_append_left _ (List.mem_append_right _ h))) (all_fg _))
set_option maxRecDepth 20000 in
theorem gX11_lower_X11_requireWhat : GoodIn wsX11_lower (va_wsS RX11 312 yX11_requireWhat wsX11_requireWhat) := goodIn_app (goodIn_m (mem_cA (List.mem_cons_of_mem _ (List.mem_append_left _ (List.mem_append_left _ (List.mem_append_left _ (List.mem_append_left _ (List.mem_append_left _ (List.mem_append_left _ (List.mem_of_getElem? (i := 9) rfl)))))))) (mem_cA (List.mem_cons_of_mem _ (List.mem_append_left _ (List.mem_append_left _ (List.mem_append_left _ (List.mem_append_left _ (List.mem_append_left _ (List.mem_append_left _ (List.mem_of_getElem? (i := 10) rfl)))))))) (mem_cA (List.mem_cons_of_mem _ (List.mem_append_left _ (List.mem_append_left _ (List.mem_append_left _ (List.mem_append_left _ (List.mem_append_left _ (List.mem_append_left _ (List.mem_of_getElem? (i := 4) rfl)))))))) mem_cZ))) (by decide +kernel)) ggX11_lower_X11_requireWhat
set_option maxRecDepth 20000 in
theorem ggX11_lower_X9_lowerBound : GoodIn wsX11_lower wsX9_lowerBound := goodIn_ca ((goodIn_ca (goodIn_r _ [19, 20, 21, 22, 23, 24, 18, 25, 26, 27, 28, 29, 30, 31, 32, 33, 34, 35, 36, 37, 38, 39, 40, 41, 42] rfl (by decide +kernel)) (goodIn_sub (fun _ h => List.mem_cons_of_mem _ (List.mem_append_left _ (List.mem_append_left _ (List.mem_append_left _ (List.mem_append_right _ h))))) gw_wsX90))) (goodIn_sub (fun _ h => List.mem_cons_of_mem _ (List.mem_append_right _ h)) (all_fg _))
set_option maxRecDepth 20000 in
theorem gX11_lower_X9_lowerBound : GoodIn wsX11_lower (wsV RX11 322 RX9 yX9_lowerBound wsX9_lowerBound) := goodIn_app (goodIn_m (mem_cA (List.mem_cons_of_mem _ (List.mem_append_left _ (List.mem_append_left _ (List.mem_append_left _ (List.mem_append_left _ (List.mem_append_left _ (List.mem_append_left _ (List.mem_of_getElem? (i := 14) rfl)))))))) (mem_cA (List.mem_cons_of_mem _ (List.mem_append_left _ (List.mem_append_left _ (List.mem_append_left _ (List.mem_append_left _ (List.mem_append_left _ (List.mem_append_left _ (List.mem_of_getElem? (i := 15) rfl)))))))) (mem_cA (List.mem_cons_of_mem _ (List.mem_append_left _ (List.mem_append_left _ (List.mem_append_left _ (List.mem_append_left _ (List.mem_append_left _ (List.mem_append_left _ (List.mem_of_getElem? (i := 16) rfl)))))))) (mem_cA (List.mem_cons_of_mem _ (List.mem_append_left _ (List.mem_append_left _ (List.mem_append_left _ (List.mem_append_left _ (List.mem_append_left _ (List.mem_append_left _ (List.mem_of_getElem? (i := 17) rfl)))))))) mem_cZ)))) (by decide +kernel)) ggX11_lower_X9_lowerBound
theorem dX11_lower_0 : decode cX11_lower 0 = .ok (.aload_n 0, 1) := by decide +kernel
theorem dX11_lower_1 : decode cX11_lower 1 = .ok (.iload_n 1, 1) := by decide +kernel
theorem dX11_lower_2 : decode cX11_lower 2 = .ok (.invokevirtual 298, 3) := by decide +kernel
theorem dX11_lower_5 : decode cX11_lower 5 = .ok (.iload_n 2, 1) := by decide +kernel
theorem dX11_lower_6 : decode cX11_lower 6 = .ok (.invokestatic 312, 3) := by decide +kernel
theorem dX11_lower_9 : decode cX11_lower 9 = .ok (.aload_n 0, 1) := by decide +kernel
theorem dX11_lower_10 : decode cX11_lower 10 = .ok (.getfield 62, 3) := by decide +kernel
theorem dX11_lower_13 : decode cX11_lower 13 = .ok (.iload_n 1, 1) := by decide +kernel
theorem dX11_lower_14 : decode cX11_lower 14 = .ok (.iload_n 2, 1) := by decide +kernel
theorem dX11_lower_15 : decode cX11_lower 15 = .ok (.invokevirtual 322, 3) := by decide +kernel
theorem dX11_lower_18 : decode cX11_lower 18 = .ok (.dreturn, 1) := by decide +kernel
set_option maxRecDepth 20000 in
theorem ggX11_upper_X11_requireKey : GoodIn wsX11_upper wsX11_requireKey := goodIn_ca ((goodIn_ca (goodIn_ca (goodIn_r _ [6, 7, 8, 1, 9] rfl (by decide +kernel)) (goodIn_sub (fun _ h => List.mem_cons_of_mem _ (List.mem_append_left _ (List.mem_append_left _ (List.mem_append_left _ (List.mem_append_left _ (List.mem_append_right _ h)))))) gw_wsX110)) (goodIn_sub (fun _ h => List.mem_cons_of_mem _ (List.mem_append_left _ (List.mem_append_left _ (List.mem_append_left _ (List.mem_append_right _ h))))) gw_wsX90))) (goodIn_sub (fun _ h => List.mem_cons_of_mem _ (List.mem_append_left _ (List.mem_append_left _ (List.mem_append_right _ h)))) (all_fg _))
set_option maxRecDepth 20000 in
theorem gX11_upper_X11_requireKey : GoodIn wsX11_upper (wsV RX11 298 RX11 yX11_requireKey wsX11_requireKey) := goodIn_app (goodIn_m (mem_cA (List.mem_cons_of_mem _ (List.mem_append_left _ (List.mem_append_left _ (List.mem_append_left _ (List.mem_append_left _ (List.mem_append_left _ (List.mem_append_left _ (List.mem_of_getElem? (i := 1) rfl)))))))) (mem_cA (List.mem_cons_of_mem _ (List.mem_append_left _ (List.mem_append_left _ (List.mem_append_left _ (List.mem_append_left _ (List.mem_append_left _ (List.mem_append_left _ (List.mem_of_getElem? (i := 2) rfl)))))))) (mem_cA (List.mem_cons_of_mem _ (List.mem_append_left _ (List.mem_append_left _ (List.mem_append_left _ (List.mem_append_left _ (List.mem_append_left _ (List.mem_append_left _ (List.mem_of_getElem? (i := 3) rfl)))))))) (mem_cA (List.mem_cons_of_mem _ (List.mem_append_left _ (List.mem_append_left _ (List.mem_append_left _ (List.mem_append_left _ (List.mem_append_left _ (List.mem_append_left _ (List.mem_of_getElem? (i := 4) rfl)))))))) mem_cZ)))) (by decide +kernel)) ggX11_upper_X11_requireKey
set_option maxRecDepth 20000 in
theorem ggX11_upper_X11_requireWhat : GoodIn wsX11_upper wsX11_requireWhat := goodIn_ca ((goodIn_r _ [12, 13, 14] rfl (by decide +kernel))) (goodIn_sub (fun _ h => List.mem_cons_of_mem _ (List.mem_append_left _ (List.mem_append_right _ h))) (all_fg _))
set_option maxRecDepth 20000 in
theorem gX11_upper_X11_requireWhat : GoodIn wsX11_upper (va_wsS RX11 312 yX11_requireWhat wsX11_requireWhat) := goodIn_app (goodIn_m (mem_cA (List.mem_cons_of_mem _ (List.mem_append_left _ (List.mem_append_left _ (List.mem_append_left _ (List.mem_append_left _ (List.mem_append_left _ (List.mem_append_left _ (List.mem_of_getElem? (i := 9) rfl)))))))) (mem_cA (List.mem_cons_of_mem _ (List.mem_append_left _ (List.mem_append_left _ (List.mem_append_left _ (List.mem_append_left _ (List.mem_append_left _ (List.mem_append_left _ (List.mem_of_getElem? (i := 10) rfl)))))))) (mem_cA (List.mem_cons_of_mem _ (List.mem_append_left _ (List.mem_append_left _ (List.mem_append_left _ (List.mem_append_left _ (List.mem_append_left _ (List.mem_append_left _ (List.mem_of_getElem? (i := 4) rfl)))))))) mem_cZ))) (by decide +kernel)) ggX11_upper_X11_requireWhat
set_option maxRecDepth 20000 in
theorem ggX11_upper_X9_upperBound : GoodIn wsX11_upper wsX9_upperBound := goodIn_ca ((goodIn_ca (goodIn_r _ [19, 20, 21, 22, 23, 18, 24, 25, 26, 27, 28, 29, 30, 31, 32, 33, 34, 35, 36, 37, 38, 39, 40, 41] rfl (by decide +kernel)) (goodIn_sub (fun _ h => List.mem_cons_of_mem _ (List.mem_append_left _ (List.mem_append_left _ (List.mem_append_left _ (List.mem_append_right _ h))))) gw_wsX90))) (goodIn_sub (fun _ h => List.mem_cons_of_mem _ (List.mem_append_right _ h)) (all_fg _))
set_option maxRecDepth 20000 in
theorem gX11_upper_X9_upperBound : GoodIn wsX11_upper (wsV RX11 326 RX9 yX9_upperBound wsX9_upperBound) := goodIn_app (goodIn_m (mem_cA (List.mem_cons_of_mem _ (List.mem_append_left _ (List.mem_append_left _ (List.mem_append_left _ (List.mem_append_left _ (List.mem_append_left _ (List.mem_append_left _ (List.mem_of_getElem? (i := 14) rfl)))))))) (mem_cA (List.mem_cons_of_mem _ (List.mem_append_left _ (List.mem_append_left _ (List.mem_append_left _ (List.mem_append_left _ (List.mem_append_left _ (List.mem_append_left _ (List.mem_of_getElem? (i := 15) rfl)))))))) (mem_cA (List.mem_cons_of_mem _ (List.mem_append_left _ (List.mem_append_left _ (List.mem_append_left _ (List.mem_append_left _ (List.mem_append_left _ (List.mem_append_left _ (List.mem_of_getElem? (i := 16) rfl)))))))) (mem_cA (List.mem_cons_of_mem _ (List.mem_append_left _ (List.mem_append_left _ (List.mem_append_left _ (List.mem_append_left _ (List.mem_append_left _ (List.mem_append_left _ (List.mem_of_getElem? (i := 17) rfl)))))))) mem_cZ)))) (by decide +kernel)) ggX11_upper_X9_upperBound
theorem dX11_upper_0 : decode cX11_upper 0 = .ok (.aload_n 0, 1) := by decide +kernel
theorem dX11_upper_1 : decode cX11_upper 1 = .ok (.iload_n 1, 1) := by decide +kernel
theorem dX11_upper_2 : decode cX11_upper 2 = .ok (.invokevirtual 298, 3) := by decide +kernel
theorem dX11_upper_5 : decode cX11_upper 5 = .ok (.iload_n 2, 1) := by decide +kernel
theorem dX11_upper_6 : decode cX11_upper 6 = .ok (.invokestatic 312, 3) := by decide +kernel
theorem dX11_upper_9 : decode cX11_upper 9 = .ok (.aload_n 0, 1) := by decide +kernel
theorem dX11_upper_10 : decode cX11_upper 10 = .ok (.getfield 62, 3) := by decide +kernel
theorem dX11_upper_13 : decode cX11_upper 13 = .ok (.iload_n 1, 1) := by decide +kernel
theorem dX11_upper_14 : decode cX11_upper 14 = .ok (.iload_n 2, 1) := by decide +kernel
theorem dX11_upper_15 : decode cX11_upper 15 = .ok (.invokevirtual 326, 3) := by decide +kernel
theorem dX11_upper_18 : decode cX11_upper 18 = .ok (.dreturn, 1) := by decide +kernel
set_option maxRecDepth 20000 in
theorem ggX11_covered_X11_requireWhat : GoodIn wsX11_covered wsX11_requireWhat := goodIn_ca ((goodIn_r _ [8, 9, 10] rfl (by decide +kernel))) (goodIn_sub (fun _ h => List.mem_cons_of_mem _ (List.mem_append_right _ h)) (all_fg _))
set_option maxRecDepth 20000 in
theorem gX11_covered_X11_requireWhat : GoodIn wsX11_covered (va_wsS RX11 312 yX11_requireWhat wsX11_requireWhat) := goodIn_app (goodIn_m (mem_cA (List.mem_cons_of_mem _ (List.mem_append_left _ (List.mem_append_left _ (List.mem_append_left _ (List.mem_append_left _ (List.mem_append_left _ (List.mem_append_left _ (List.mem_append_left _ (List.mem_append_left _ (List.mem_of_getElem? (i := 4) rfl)))))))))) (mem_cA (List.mem_cons_of_mem _ (List.mem_append_left _ (List.mem_append_left _ (List.mem_append_left _ (List.mem_append_left _ (List.mem_append_left _ (List.mem_append_left _ (List.mem_append_left _ (List.mem_append_left _ (List.mem_of_getElem? (i := 5) rfl)))))))))) (mem_cA (List.mem_cons_of_mem _ (List.mem_append_left _ (List.mem_append_left _ (List.mem_append_left _ (List.mem_append_left _ (List.mem_append_left _ (List.mem_append_left _ (List.mem_append_left _ (List.mem_append_left _ (List.mem_of_getElem? (i := 6) rfl)))))))))) mem_cZ))) (by decide +kernel)) ggX11_covered_X11_requireWhat
set_option maxRecDepth 20000 in
theorem ggX11_covered_X2_trueValue : GoodIn wsX11_covered wsX2_trueValue := goodIn_ca ((goodIn_ca (goodIn_ca (goodIn_ca (goodIn_r _ [15, 16, 17, 18, 19, 20, 21, 22, 23, 24, 25, 26, 27, 28, 29, 30, 31, 32, 33, 34, 35, 36, 37, 38, 39, 40, 41, 42, 43] rfl (by decide +kernel)) (goodIn_sub (fun _ h => List.mem_cons_of_mem _ (List.mem_append_left _ (List.mem_append_left _ (List.mem_append_left _ (List.mem_append_left _ (List.mem_append_right _ h)))))) gw_wsX20)) (goodIn_sub (fun _ h => List.mem_cons_of_mem _ (List.mem_append_left _ (List.mem_append_left _ (List.mem_append_left _ (List.mem_append_right _ h))))) gw_wsX40)) (goodIn_sub (fun _ h => List.mem_cons_of_mem _ (List.mem_append_left _ (List.mem_append_left _ (List.mem_append_right _ h)))) gw_wsX30))) (goodIn_sub (fun _ h => List.mem_cons_of_mem _ (List.mem_append_left _ (List.mem_append_right _ h))) (all_fg _))
set_option maxRecDepth 20000 in
theorem gX11_covered_X2_trueValue : GoodIn wsX11_covered (wsV RX11 329 RX2 yX2_trueValue wsX2_trueValue) := goodIn_app (goodIn_m (mem_cA (List.mem_cons_of_mem _ (List.mem_append_left _ (List.mem_append_left _ (List.mem_append_left _ (List.mem_append_left _ (List.mem_append_left _ (List.mem_append_left _ (List.mem_append_left _ (List.mem_append_left _ (List.mem_of_getElem? (i := 10) rfl)))))))))) (mem_cA (List.mem_cons_of_mem _ (List.mem_append_left _ (List.mem_append_left _ (List.mem_append_left _ (List.mem_append_left _ (List.mem_append_left _ (List.mem_append_left _ (List.mem_append_left _ (List.mem_append_left _ (List.mem_of_getElem? (i := 11) rfl)))))))))) (mem_cA (List.mem_cons_of_mem _ (List.mem_append_left _ (List.mem_append_left _ (List.mem_append_left _ (List.mem_append_left _ (List.mem_append_left _ (List.mem_append_left _ (List.mem_append_left _ (List.mem_append_left _ (List.mem_of_getElem? (i := 12) rfl)))))))))) (mem_cA (List.mem_cons_of_mem _ (List.mem_append_left _ (List.mem_append_left _ (List.mem_append_left _ (List.mem_append_left _ (List.mem_append_left _ (List.mem_append_left _ (List.mem_append_left _ (List.mem_append_left _ (List.mem_of_getElem? (i := 13) rfl)))))))))) mem_cZ)))) (by decide +kernel)) ggX11_covered_X2_trueValue
set_option maxRecDepth 20000 in
theorem ggX11_covered_X9_lowerBound : GoodIn wsX11_covered wsX9_lowerBound := goodIn_ca ((goodIn_ca (goodIn_r _ [48, 49, 50, 51, 52, 53, 47, 54, 55, 56, 57, 58, 59, 60, 61, 62, 63, 64, 65, 66, 67, 68, 69, 70, 71] rfl (by decide +kernel)) (goodIn_sub (fun _ h => List.mem_cons_of_mem _ (List.mem_append_left _ (List.mem_append_left _ (List.mem_append_left _ (List.mem_append_left _ (List.mem_append_left _ (List.mem_append_right _ h))))))) gw_wsX90))) (goodIn_sub (fun _ h => List.mem_cons_of_mem _ (List.mem_append_left _ (List.mem_append_right _ h))) (all_fg _))
set_option maxRecDepth 20000 in
theorem gX11_covered_X9_lowerBound : GoodIn wsX11_covered (wsV RX11 322 RX9 yX9_lowerBound wsX9_lowerBound) := goodIn_app (goodIn_m (mem_cA (List.mem_cons_of_mem _ (List.mem_append_left _ (List.mem_append_left _ (List.mem_append_left _ (List.mem_append_left _ (List.mem_append_left _ (List.mem_append_left _ (List.mem_append_left _ (List.mem_append_right _ (List.mem_append_left _ (List.mem_of_getElem? (i := 19) rfl))))))))))) (mem_cA (List.mem_cons_of_mem _ (List.mem_append_left _ (List.mem_append_left _ (List.mem_append_left _ (List.mem_append_left _ (List.mem_append_left _ (List.mem_append_left _ (List.mem_append_left _ (List.mem_append_right _ (List.mem_append_left _ (List.mem_of_getElem? (i := 20) rfl))))))))))) (mem_cA (List.mem_cons_of_mem _ (List.mem_append_left _ (List.mem_append_left _ (List.mem_append_left _ (List.mem_append_left _ (List.mem_append_left _ (List.mem_append_left _ (List.mem_append_left _ (List.mem_append_right _ (List.mem_append_left _ (List.mem_of_getElem? (i := 21) rfl))))))))))) (mem_cA (List.mem_cons_of_mem _ (List.mem_append_left _ (List.mem_append_left _ (List.mem_append_left _ (List.mem_append_left _ (List.mem_append_left _ (List.mem_append_left _ (List.mem_append_left _ (List.mem_append_right _ (List.mem_append_left _ (List.mem_of_getElem? (i := 22) rfl))))))))))) mem_cZ)))) (by decide +kernel)) ggX11_covered_X9_lowerBound
set_option maxRecDepth 20000 in
theorem ggX11_covered_X9_upperBound : GoodIn wsX11_covered wsX9_upperBound := goodIn_ca ((goodIn_ca (goodIn_r _ [75, 49, 50, 52, 53, 47, 54, 55, 56, 57, 58, 59, 60, 61, 62, 63, 64, 65, 66, 67, 68, 69, 70, 71] rfl (by decide +kernel)) (goodIn_sub (fun _ h => List.mem_cons_of_mem _ (List.mem_append_left _ (List.mem_append_left _ (List.mem_append_left _ (List.mem_append_left _ (List.mem_append_left _ (List.mem_append_right _ h))))))) gw_wsX90))) (goodIn_sub (fun _ h => List.mem_cons_of_mem _ (List.mem_append_left _ (List.mem_append_right _ h))) (all_fg _))
set_option maxRecDepth 20000 in
theorem gX11_covered_X9_upperBound : GoodIn wsX11_covered (wsV RX11 326 RX9 yX9_upperBound wsX9_upperBound) := goodIn_app (goodIn_m (mem_cA (List.mem_cons_of_mem _ (List.mem_append_left _ (List.mem_append_left _ (List.mem_append_left _ (List.mem_append_left _ (List.mem_append_left _ (List.mem_append_left _ (List.mem_append_left _ (List.mem_append_right _ (List.mem_append_right _ (List.mem_append_left _ (List.mem_of_getElem? (i := 23) rfl)))))))))))) (mem_cA (List.mem_cons_of_mem _ (List.mem_append_left _ (List.mem_append_left _ (List.mem_append_left _ (List.mem_append_left _ (List.mem_append_left _ (List.mem_append_left _ (List.mem_append_left _ (List.mem_append_right _ (List.mem_append_right _ (List.mem_append_right _ (List.mem_of_getElem? (i := 0) rfl)))))))))))) (mem_cA (List.mem_cons_of_mem _ (List.mem_append_left _ (List.mem_append_left _ (List.mem_append_left _ (List.mem_append_left _ (List.mem_append_left _ (List.mem_append_left _ (List.mem_append_left _ (List.mem_append_right _ (List.mem_append_right _ (List.mem_append_right _ (List.mem_of_getElem? (i := 1) rfl)))))))))))) (mem_cA (List.mem_cons_of_mem _ (List.mem_append_left _ (List.mem_append_left _ (List.mem_append_left _ (List.mem_append_left _ (List.mem_append_left _ (List.mem_append_left _ (List.mem_append_left _ (List.mem_append_right _ (List.mem_append_left _ (List.mem_of_getElem? (i := 22) rfl))))))))))) mem_cZ)))) (by decide +kernel)) ggX11_covered_X9_upperBound
theorem dX11_covered_0 : decode cX11_covered 0 = .ok (.iload_n 1, 1) := by decide +kernel
theorem dX11_covered_1 : decode cX11_covered 1 = .ok (.invokestatic 312, 3) := by decide +kernel
theorem dX11_covered_4 : decode cX11_covered 4 = .ok (.iconst 0, 1) := by decide +kernel
theorem dX11_covered_5 : decode cX11_covered 5 = .ok (.istore_n 2, 1) := by decide +kernel
theorem dX11_covered_6 : decode cX11_covered 6 = .ok (.iconst 0, 1) := by decide +kernel
theorem dX11_covered_7 : decode cX11_covered 7 = .ok (.istore_n 3, 1) := by decide +kernel
theorem dX11_covered_8 : decode cX11_covered 8 = .ok (.iload_n 3, 1) := by decide +kernel
theorem dX11_covered_9 : decode cX11_covered 9 = .ok (.aload_n 0, 1) := by decide +kernel
theorem dX11_covered_10 : decode cX11_covered 10 = .ok (.getfield 62, 3) := by decide +kernel
theorem dX11_covered_13 : decode cX11_covered 13 = .ok (.getfield 92, 3) := by decide +kernel
theorem dX11_covered_16 : decode cX11_covered 16 = .ok (.if_icmp .ge 62, 3) := by decide +kernel
theorem dX11_covered_19 : decode cX11_covered 19 = .ok (.aload_n 0, 1) := by decide +kernel
theorem dX11_covered_20 : decode cX11_covered 20 = .ok (.getfield 55, 3) := by decide +kernel
theorem dX11_covered_23 : decode cX11_covered 23 = .ok (.aload_n 0, 1) := by decide +kernel
theorem dX11_covered_24 : decode cX11_covered 24 = .ok (.getfield 62, 3) := by decide +kernel
theorem dX11_covered_27 : decode cX11_covered 27 = .ok (.getfield 301, 3) := by decide +kernel
theorem dX11_covered_30 : decode cX11_covered 30 = .ok (.iload_n 3, 1) := by decide +kernel
theorem dX11_covered_31 : decode cX11_covered 31 = .ok (.laload, 1) := by decide +kernel
theorem dX11_covered_32 : decode cX11_covered 32 = .ok (.iload_n 1, 1) := by decide +kernel
theorem dX11_covered_33 : decode cX11_covered 33 = .ok (.invokevirtual 329, 3) := by decide +kernel
theorem dX11_covered_36 : decode cX11_covered 36 = .ok (.l2d, 1) := by decide +kernel
theorem dX11_covered_37 : decode cX11_covered 37 = .ok (.dstore 4, 2) := by decide +kernel
theorem dX11_covered_39 : decode cX11_covered 39 = .ok (.aload_n 0, 1) := by decide +kernel
theorem dX11_covered_40 : decode cX11_covered 40 = .ok (.getfield 62, 3) := by decide +kernel
theorem dX11_covered_43 : decode cX11_covered 43 = .ok (.iload_n 3, 1) := by decide +kernel
theorem dX11_covered_44 : decode cX11_covered 44 = .ok (.iload_n 1, 1) := by decide +kernel
theorem dX11_covered_45 : decode cX11_covered 45 = .ok (.invokevirtual 322, 3) := by decide +kernel
theorem dX11_covered_48 : decode cX11_covered 48 = .ok (.dload 4, 2) := by decide +kernel
theorem dX11_covered_50 : decode cX11_covered 50 = .ok (.dcmp .g, 1) := by decide +kernel
theorem dX11_covered_51 : decode cX11_covered 51 = .ok (.ifCond .gt 21, 3) := by decide +kernel
theorem dX11_covered_54 : decode cX11_covered 54 = .ok (.dload 4, 2) := by decide +kernel
theorem dX11_covered_56 : decode cX11_covered 56 = .ok (.aload_n 0, 1) := by decide +kernel
theorem dX11_covered_57 : decode cX11_covered 57 = .ok (.getfield 62, 3) := by decide +kernel
theorem dX11_covered_60 : decode cX11_covered 60 = .ok (.iload_n 3, 1) := by decide +kernel
theorem dX11_covered_61 : decode cX11_covered 61 = .ok (.iload_n 1, 1) := by decide +kernel
theorem dX11_covered_62 : decode cX11_covered 62 = .ok (.invokevirtual 326, 3) := by decide +kernel
theorem dX11_covered_65 : decode cX11_covered 65 = .ok (.dcmp .g, 1) := by decide +kernel
theorem dX11_covered_66 : decode cX11_covered 66 = .ok (.ifCond .gt 6, 3) := by decide +kernel
theorem dX11_covered_69 : decode cX11_covered 69 = .ok (.iinc 2 1, 3) := by decide +kernel
theorem dX11_covered_72 : decode cX11_covered 72 = .ok (.iinc 3 1, 3) := by decide +kernel
theorem dX11_covered_75 : decode cX11_covered 75 = .ok (.goto (-67), 3) := by decide +kernel
theorem dX11_covered_78 : decode cX11_covered 78 = .ok (.iload_n 2, 1) := by decide +kernel
theorem dX11_covered_79 : decode cX11_covered 79 = .ok (.ireturn, 1) := by decide +kernel
set_option maxRecDepth 20000 in
theorem ggX11_totalEstimate_X11_requireWhat : GoodIn wsX11_totalEstimate wsX11_requireWhat := goodIn_ca ((goodIn_r _ [5, 6, 7] rfl (by decide +kernel))) (goodIn_sub (fun _ h => List.mem_cons_of_mem _ (List.mem_append_left _ (List.mem_append_right _ h))) (all_fg _))
set_option maxRecDepth 20000 in
theorem gX11_totalEstimate_X11_requireWhat : GoodIn wsX11_totalEstimate (va_wsS RX11 312 yX11_requireWhat wsX11_requireWhat) := goodIn_app (goodIn_m (mem_cA (List.mem_cons_of_mem _ (List.mem_append_left _ (List.mem_append_left _ (List.mem_append_left _ (List.mem_append_left _ (List.mem_of_getElem? (i := 1) rfl)))))) (mem_cA (List.mem_cons_of_mem _ (List.mem_append_left _ (List.mem_append_left _ (List.mem_append_left _ (List.mem_append_left _ (List.mem_of_getElem? (i := 2) rfl)))))) (mem_cA (List.mem_cons_of_mem _ (List.mem_append_left _ (List.mem_append_left _ (List.mem_append_left _ (List.mem_append_left _ (List.mem_of_getElem? (i := 3) rfl)))))) mem_cZ))) (by decide +kernel)) ggX11_totalEstimate_X11_requireWhat
set_option maxRecDepth 20000 in
theorem ggX11_totalEstimate_X9_estimateOfAll : GoodIn wsX11_totalEstimate wsX9_estimateOfAll := goodIn_ca ((goodIn_ca (goodIn_r _ [12, 13, 14] rfl (by decide +kernel)) (goodIn_sub (fun _ h => List.mem_cons_of_mem _ (List.mem_append_left _ (List.mem_append_left _ (List.mem_append_right _ h)))) gw_wsX90))) (goodIn_sub (fun _ h => List.mem_cons_of_mem _ (List.mem_append_right _ h)) (all_fg _))
set_option maxRecDepth 20000 in
theorem gX11_totalEstimate_X9_estimateOfAll : GoodIn wsX11_totalEstimate (wsV RX11 333 RX9 yX9_estimateOfAll wsX9_estimateOfAll) := goodIn_app (goodIn_m (mem_cA (List.mem_cons_of_mem _ (List.mem_append_left _ (List.mem_append_left _ (List.mem_append_left _ (List.mem_append_left _ (List.mem_of_getElem? (i := 7) rfl)))))) (mem_cA (List.mem_cons_of_mem _ (List.mem_append_left _ (List.mem_append_left _ (List.mem_append_left _ (List.mem_append_left _ (List.mem_of_getElem? (i := 8) rfl)))))) (mem_cA (List.mem_cons_of_mem _ (List.mem_append_left _ (List.mem_append_left _ (List.mem_append_left _ (List.mem_append_left _ (List.mem_of_getElem? (i := 9) rfl)))))) (mem_cA (List.mem_cons_of_mem _ (List.mem_append_left _ (List.mem_append_left _ (List.mem_append_left _ (List.mem_append_left _ (List.mem_of_getElem? (i := 10) rfl)))))) mem_cZ)))) (by decide +kernel)) ggX11_totalEstimate_X9_estimateOfAll
theorem dX11_totalEstimate_0 : decode cX11_totalEstimate 0 = .ok (.iload_n 1, 1) := by decide +kernel
theorem dX11_totalEstimate_1 : decode cX11_totalEstimate 1 = .ok (.invokestatic 312, 3) := by decide +kernel
theorem dX11_totalEstimate_4 : decode cX11_totalEstimate 4 = .ok (.aload_n 0, 1) := by decide +kernel
theorem dX11_totalEstimate_5 : decode cX11_totalEstimate 5 = .ok (.getfield 62, 3) := by decide +kernel
theorem dX11_totalEstimate_8 : decode cX11_totalEstimate 8 = .ok (.iload_n 1, 1) := by decide +kernel
theorem dX11_totalEstimate_9 : decode cX11_totalEstimate 9 = .ok (.invokevirtual 333, 3) := by decide +kernel
theorem dX11_totalEstimate_12 : decode cX11_totalEstimate 12 = .ok (.lreturn, 1) := by decide +kernel
set_option maxRecDepth 20000 in
theorem ggX11_totalMargin_X11_requireWhat : GoodIn wsX11_totalMargin wsX11_requireWhat := goodIn_ca ((goodIn_r _ [5, 6, 7] rfl (by decide +kernel))) (goodIn_sub (fun _ h => List.mem_cons_of_mem _ (List.mem_append_left _ (List.mem_append_right _ h))) (all_fg _))
set_option maxRecDepth 20000 in
theorem gX11_totalMargin_X11_requireWhat : GoodIn wsX11_totalMargin (va_wsS RX11 312 yX11_requireWhat wsX11_requireWhat) := goodIn_app (goodIn_m (mem_cA (List.mem_cons_of_mem _ (List.mem_append_left _ (List.mem_append_left _ (List.mem_append_left _ (List.mem_append_left _ (List.mem_append_left _ (List.mem_of_getElem? (i := 1) rfl))))))) (mem_cA (List.mem_cons_of_mem _ (List.mem_append_left _ (List.mem_append_left _ (List.mem_append_left _ (List.mem_append_left _ (List.mem_append_left _ (List.mem_of_getElem? (i := 2) rfl))))))) (mem_cA (List.mem_cons_of_mem _ (List.mem_append_left _ (List.mem_append_left _ (List.mem_append_left _ (List.mem_append_left _ (List.mem_append_left _ (List.mem_of_getElem? (i := 3) rfl))))))) mem_cZ))) (by decide +kernel)) ggX11_totalMargin_X11_requireWhat
set_option maxRecDepth 20000 in
theorem ggX11_totalMargin_X9_marginOfAll : GoodIn wsX11_totalMargin wsX9_marginOfAll := goodIn_ca ((goodIn_ca (goodIn_r _ [12, 13, 14, 15, 16, 11, 17, 18, 19, 20, 21, 22, 23, 24, 25, 26, 27, 28, 29, 30, 31, 32, 33, 34] rfl (by decide +kernel)) (goodIn_sub (fun _ h => List.mem_cons_of_mem _ (List.mem_append_left _ (List.mem_append_left _ (List.mem_append_right _ h)))) gw_wsX90))) (goodIn_sub (fun _ h => List.mem_cons_of_mem _ (List.mem_append_right _ h)) (all_fg _))
set_option maxRecDepth 20000 in
theorem gX11_totalMargin_X9_marginOfAll : GoodIn wsX11_totalMargin (wsV RX11 336 RX9 yX9_marginOfAll wsX9_marginOfAll) := goodIn_app (goodIn_m (mem_cA (List.mem_cons_of_mem _ (List.mem_append_left _ (List.mem_append_left _ (List.mem_append_left _ (List.mem_append_left _ (List.mem_append_left _ (List.mem_of_getElem? (i := 7) rfl))))))) (mem_cA (List.mem_cons_of_mem _ (List.mem_append_left _ (List.mem_append_left _ (List.mem_append_left _ (List.mem_append_left _ (List.mem_append_left _ (List.mem_of_getElem? (i := 8) rfl))))))) (mem_cA (List.mem_cons_of_mem _ (List.mem_append_left _ (List.mem_append_left _ (List.mem_append_left _ (List.mem_append_left _ (List.mem_append_left _ (List.mem_of_getElem? (i := 9) rfl))))))) (mem_cA (List.mem_cons_of_mem _ (List.mem_append_left _ (List.mem_append_left _ (List.mem_append_left _ (List.mem_append_left _ (List.mem_append_left _ (List.mem_of_getElem? (i := 10) rfl))))))) mem_cZ)))) (by decide +kernel)) ggX11_totalMargin_X9_marginOfAll
theorem dX11_totalMargin_0 : decode cX11_totalMargin 0 = .ok (.iload_n 1, 1) := by decide +kernel
theorem dX11_totalMargin_1 : decode cX11_totalMargin 1 = .ok (.invokestatic 312, 3) := by decide +kernel
theorem dX11_totalMargin_4 : decode cX11_totalMargin 4 = .ok (.aload_n 0, 1) := by decide +kernel
theorem dX11_totalMargin_5 : decode cX11_totalMargin 5 = .ok (.getfield 62, 3) := by decide +kernel
theorem dX11_totalMargin_8 : decode cX11_totalMargin 8 = .ok (.iload_n 1, 1) := by decide +kernel
theorem dX11_totalMargin_9 : decode cX11_totalMargin 9 = .ok (.invokevirtual 336, 3) := by decide +kernel
theorem dX11_totalMargin_12 : decode cX11_totalMargin 12 = .ok (.dreturn, 1) := by decide +kernel
set_option maxRecDepth 20000 in
theorem ggX11_ranked_X11_requireWhat : GoodIn wsX11_ranked wsX11_requireWhat := goodIn_ca ((goodIn_r _ [5, 6, 7] rfl (by decide +kernel))) (goodIn_sub (fun _ h => List.mem_cons_of_mem _ (List.mem_append_left _ (List.mem_append_right _ h))) (all_fg _))
set_option maxRecDepth 20000 in
theorem gX11_ranked_X11_requireWhat : GoodIn wsX11_ranked (va_wsS RX11 312 yX11_requireWhat wsX11_requireWhat) := goodIn_app (goodIn_m (mem_cA (List.mem_cons_of_mem _ (List.mem_append_left _ (List.mem_append_left _ (List.mem_append_left _ (List.mem_append_left _ (List.mem_of_getElem? (i := 1) rfl)))))) (mem_cA (List.mem_cons_of_mem _ (List.mem_append_left _ (List.mem_append_left _ (List.mem_append_left _ (List.mem_append_left _ (List.mem_of_getElem? (i := 2) rfl)))))) (mem_cA (List.mem_cons_of_mem _ (List.mem_append_left _ (List.mem_append_left _ (List.mem_append_left _ (List.mem_append_left _ (List.mem_of_getElem? (i := 3) rfl)))))) mem_cZ))) (by decide +kernel)) ggX11_ranked_X11_requireWhat
set_option maxRecDepth 20000 in
theorem ggX11_ranked_X9_indexWithRank : GoodIn wsX11_ranked wsX9_indexWithRank := goodIn_ca ((goodIn_ca (goodIn_r _ [12, 13, 14, 15, 16, 11, 17, 18] rfl (by decide +kernel)) (goodIn_sub (fun _ h => List.mem_cons_of_mem _ (List.mem_append_left _ (List.mem_append_left _ (List.mem_append_right _ h)))) gw_wsX90))) (goodIn_sub (fun _ h => List.mem_cons_of_mem _ (List.mem_append_right _ h)) (all_fg _))
set_option maxRecDepth 20000 in
theorem gX11_ranked_X9_indexWithRank : GoodIn wsX11_ranked (wsV RX11 340 RX9 yX9_indexWithRank wsX9_indexWithRank) := goodIn_app (goodIn_m (mem_cA (List.mem_cons_of_mem _ (List.mem_append_left _ (List.mem_append_left _ (List.mem_append_left _ (List.mem_append_left _ (List.mem_of_getElem? (i := 7) rfl)))))) (mem_cA (List.mem_cons_of_mem _ (List.mem_append_left _ (List.mem_append_left _ (List.mem_append_left _ (List.mem_append_left _ (List.mem_of_getElem? (i := 8) rfl)))))) (mem_cA (List.mem_cons_of_mem _ (List.mem_append_left _ (List.mem_append_left _ (List.mem_append_left _ (List.mem_append_left _ (List.mem_of_getElem? (i := 9) rfl)))))) (mem_cA (List.mem_cons_of_mem _ (List.mem_append_left _ (List.mem_append_left _ (List.mem_append_left _ (List.mem_append_left _ (List.mem_of_getElem? (i := 10) rfl)))))) mem_cZ)))) (by decide +kernel)) ggX11_ranked_X9_indexWithRank
theorem dX11_ranked_0 : decode cX11_ranked 0 = .ok (.iload_n 2, 1) := by decide +kernel
theorem dX11_ranked_1 : decode cX11_ranked 1 = .ok (.invokestatic 312, 3) := by decide +kernel
theorem dX11_ranked_4 : decode cX11_ranked 4 = .ok (.aload_n 0, 1) := by decide +kernel
theorem dX11_ranked_5 : decode cX11_ranked 5 = .ok (.getfield 62, 3) := by decide +kernel
theorem dX11_ranked_8 : decode cX11_ranked 8 = .ok (.iload_n 1, 1) := by decide +kernel
theorem dX11_ranked_9 : decode cX11_ranked 9 = .ok (.iload_n 2, 1) := by decide +kernel
theorem dX11_ranked_10 : decode cX11_ranked 10 = .ok (.invokevirtual 340, 3) := by decide +kernel
theorem dX11_ranked_13 : decode cX11_ranked 13 = .ok (.ireturn, 1) := by decide +kernel
theorem hv_X11_estimate_319 : Cond.fieldLink RX11 319 "FlowExporter$Sums" (TX9 2).2.1 (TX9 2).2.2.1 ∈ wsX11_estimate := List.mem_cons_of_mem _ (List.mem_append_left _ (List.mem_append_left _ (List.mem_append_left _ (List.mem_append_left _ (List.mem_append_left _ (List.mem_of_getElem? (i := 1) rfl))))))

set_option maxHeartbeats 4000000 in
set_option maxRecDepth 100000 in
theorem s_X11_estimate (G : EnvG) (l : Launch) (hl9 : l.stackTraces = false) (Φ : Hm) (sz x ca : Nat) (a : Int32) (b : Int32) (hx : G.2.2.2 ≤ x) (hI : In G x ca Φ)  : CtB G l yX11_estimate wsX11_estimate ({ frames := 7, cells := 2, slots := 12, locals := 102 }) 2 12 [.ref x, .int a, .int b] Φ sz (fun v Φ1 sz1 => (∃ r9 : Int64, v = some (.long r9)) ∧ sz1 = sz ∧ In G x (ca) Φ1 ∧ Fr x (fun j9 => False) Φ Φ1) (fun Φ1 => In G x ca Φ1 ∧ Fr x (fun j9 => False) Φ Φ1) [xIO, xIA] := by
  refine CtB.of (cc := cX11_estimate) (maxL := 3) (ret := (some .long)) (by decide) rfl (Nat.le_of_ble_eq_true rfl) ?_
  intro p9 e9 s9 m9 w9 t9 k9 B htab9
  show Z p9 l e9 _ s9 m9 _ w9 t9 k9 _ G 3 0 [(0, .ref x), (1, .int a), (2, .int b)] [] Φ sz 0 0
  refine z_aload_n B dX11_estimate_0 rfl 0 rfl ?_
  refine z_iload_n B dX11_estimate_1 rfl 1 rfl ?_
  have h_1 := in0 (k := 0) hI rfl
  have h_2 : Φ x = some (o_ 13 [.ref (x + 1), .ref (x + 3), .ref (x + 24), .ref (x + 46), .ref (x + 74), .ref (x + 80), .ref (x + 132), .ref (x + 121)]) := h_1
  refine zb_callV (As := [.int a]) (rest := []) B htab9 (s_X11_requireKey2 G l hl9 Φ sz x (ca) a hx hI ) (cwV 1 B.1.2.2.2.2 gX11_estimate_X11_requireKey rfl rfl rfl (by decide +kernel) ⟨Nat.le_of_ble_eq_true rfl, Nat.le_of_ble_eq_true rfl⟩) h_2 rfl rfl rfl rfl (Nat.le_of_ble_eq_true rfl) dX11_estimate_2 ⟨Nat.le_of_ble_eq_true rfl, Nat.le_of_ble_eq_true rfl⟩ ⟨Nat.le_of_ble_eq_true rfl, Nat.le_of_ble_eq_true rfl⟩ (by decide) (fun Φ9 h9 => ⟨h9.1, fun b9 h8 => ((h9.2 b9 h8).trans ((fun b9 h9 => rfl) b9 h8))⟩) (fun r_1 Φ1 sz1 st1 hp1 hs1 => ?_)
  obtain ⟨⟨rfl, n_1, b_1, rfl⟩, hq1, hI1, hF1⟩ := hp1
  subst sz1
  replace hs1 : st1 = [] := hs1
  subst st1
  replace hI1 : In G x (ca) Φ1 := hI1
  replace b_1 : n_1 < 24 := b_1
  refine z_iload_n B dX11_estimate_5 rfl 2 rfl ?_
  refine zb_callS (As := [.int b]) (rest := []) B htab9 (s_X11_requireWhat2 G l hl9 Φ1 sz x (ca) b hx hI1 ) (va_cwS 1 B.1.2.2.2.2 gX11_estimate_X11_requireWhat rfl rfl rfl (by decide +kernel) ⟨Nat.le_of_ble_eq_true rfl, Nat.le_of_ble_eq_true rfl⟩) rfl rfl (Nat.le_of_ble_eq_true rfl) dX11_estimate_6 ⟨Nat.le_of_ble_eq_true rfl, Nat.le_of_ble_eq_true rfl⟩ ⟨Nat.le_of_ble_eq_true rfl, Nat.le_of_ble_eq_true rfl⟩ (by decide) (fun Φ9 h9 => ⟨h9.1, fun b9 h8 => ((h9.2 b9 h8).trans ((fun b9 h9 => ((hF1 b9 (fun j9 h8 h7 => (show False from h7).elim)).trans rfl)) b9 h8))⟩) (fun r_2 Φ2 sz2 st2 hp2 hs2 => ?_)
  obtain ⟨⟨rfl, n_2, b_2, rfl⟩, hq2, hI2, hF2⟩ := hp2
  subst sz2
  replace hs2 : st2 = [] := hs2
  subst st2
  replace hI2 : In G x (ca) Φ2 := hI2
  replace b_2 : n_2 < 2 := b_2
  refine z_aload_n B dX11_estimate_9 rfl 0 rfl ?_
  have h_3 : Φ2 x = some (o_ 13 [.ref (x + 1), .ref (x + 3), .ref (x + 24), .ref (x + 46), .ref (x + 74), .ref (x + 80), .ref (x + 132), .ref (x + 121)]) := ((hF2 x (fun j9 h8 h7 => (show False from h7).elim)).trans ((hF1 x (fun j9 h8 h7 => (show False from h7).elim)).trans h_2))
  refine z_get (ref := "FlowExporter") (C := RX11) (T := TX11) (N := 8) (ci := 13) (v := .ref (x + 121)) B hu_X11_estimate_X11 rfl 7 (Nat.le_of_ble_eq_true rfl) hv_X11_estimate_62 rfl h_3 rfl dX11_estimate_10 ?_
  obtain ⟨n_3, h_4, b_3⟩ := in20 (k := 121) hI2 rfl
  have h_5 : Φ2 (x + 121) = some (o_ 11 [.ref (x + 122), .ref (x + 123), .ref (x + 126), .ref (x + 129), .int (nI n_3)]) := h_4
  refine z_get (ref := "FlowExporter$Sums") (C := RX9) (T := TX9) (N := 5) (ci := 11) (v := .ref (x + 126)) B hu_X11_estimate_X9 rfl 2 (Nat.le_of_ble_eq_true rfl) hv_X11_estimate_319 rfl h_5 rfl dX11_estimate_13 ?_
  refine z_iload_n B dX11_estimate_16 rfl 2 rfl ?_
  obtain ⟨f_1, h_6, r_3⟩ := in22 (k := 126) hI2 rfl
  have h_7 : Φ2 (x + 126) = some (aq_ G 7 2 f_1) := h_6
  refine z_aaldA (b := x + (126 + 1 + n_2)) B rfl h_7 (vp_in_nI (by omega) (by omega)) ((congrArg f_1 (nI_clamp (by omega))).trans (r_3 n_2 (by omega))) dX11_estimate_17 ?_
  refine z_iload_n B dX11_estimate_18 rfl 1 rfl ?_
  obtain ⟨f_2, h_8⟩ := in21 (k := 126 + 1 + n_2) hI2 (kd_2b (by omega))
  have h_9 : Φ2 (x + (126 + 1 + n_2)) = some (al_ G 24 f_2) := h_8
  refine z_lald B h_9 (vp_in_nI (by omega) (by omega)) dX11_estimate_19 ?_
  refine z_fl (fun v_1 => ?_)
  exact zb_ret (Nat.le_of_ble_eq_true rfl) (Nat.le_of_ble_eq_true rfl) (z_ret_l B dX11_estimate_20 ⟨⟨_, rfl⟩, rfl, hI2, (fun b9 h9 => ((hF2 b9 (fun j9 h8 h7 => (show False from h7).elim)).trans ((hF1 b9 (fun j9 h8 h7 => (show False from h7).elim)).trans rfl)))⟩)

theorem hu_X11_lower_X11 : ∀ w ∈ u_ws RX11 TX11 8, w ∈ wsX11_lower := fun _ h => List.mem_cons_of_mem _ (List.mem_append_left _ (List.mem_append_left _ (List.mem_append_left _ (List.mem_append_left _ (List.mem_append_right _ (h))))))

theorem hv_X11_lower_62 : Cond.fieldLink RX11 62 "FlowExporter" (TX11 7).2.1 (TX11 7).2.2.1 ∈ wsX11_lower := List.mem_cons_of_mem _ (List.mem_append_left _ (List.mem_append_left _ (List.mem_append_left _ (List.mem_append_left _ (List.mem_append_left _ (List.mem_append_left _ (List.mem_of_getElem? (i := 0) rfl)))))))

set_option maxHeartbeats 4000000 in
set_option maxRecDepth 100000 in
theorem s_X11_lower (G : EnvG) (l : Launch) (hl9 : l.stackTraces = false) (Φ : Hm) (sz x ca : Nat) (a : Int32) (b : Int32) (hx : G.2.2.2 ≤ x) (hI : In G x ca Φ)  : CtB G l yX11_lower wsX11_lower ({ frames := 7, cells := 2, slots := 12, locals := 102 }) 2 12 [.ref x, .int a, .int b] Φ sz (fun v Φ1 sz1 => (∃ r9 : UInt64, v = some (.double r9) ∧ nn64 r9) ∧ sz1 = sz ∧ In G x (ca) Φ1 ∧ Fr x (fun j9 => False) Φ Φ1) (fun Φ1 => In G x ca Φ1 ∧ Fr x (fun j9 => False) Φ Φ1) [xIO, xIA] := by
  refine CtB.of (cc := cX11_lower) (maxL := 3) (ret := (some .double)) (by decide) rfl (Nat.le_of_ble_eq_true rfl) ?_
  intro p9 e9 s9 m9 w9 t9 k9 B htab9
  show Z p9 l e9 _ s9 m9 _ w9 t9 k9 _ G 3 0 [(0, .ref x), (1, .int a), (2, .int b)] [] Φ sz 0 0
  refine z_aload_n B dX11_lower_0 rfl 0 rfl ?_
  refine z_iload_n B dX11_lower_1 rfl 1 rfl ?_
  have h_1 := in0 (k := 0) hI rfl
  have h_2 : Φ x = some (o_ 13 [.ref (x + 1), .ref (x + 3), .ref (x + 24), .ref (x + 46), .ref (x + 74), .ref (x + 80), .ref (x + 132), .ref (x + 121)]) := h_1
  refine zb_callV (As := [.int a]) (rest := []) B htab9 (s_X11_requireKey2 G l hl9 Φ sz x (ca) a hx hI ) (cwV 1 B.1.2.2.2.2 gX11_lower_X11_requireKey rfl rfl rfl (by decide +kernel) ⟨Nat.le_of_ble_eq_true rfl, Nat.le_of_ble_eq_true rfl⟩) h_2 rfl rfl rfl rfl (Nat.le_of_ble_eq_true rfl) dX11_lower_2 ⟨Nat.le_of_ble_eq_true rfl, Nat.le_of_ble_eq_true rfl⟩ ⟨Nat.le_of_ble_eq_true rfl, Nat.le_of_ble_eq_true rfl⟩ (by decide) (fun Φ9 h9 => ⟨h9.1, fun b9 h8 => ((h9.2 b9 h8).trans ((fun b9 h9 => rfl) b9 h8))⟩) (fun r_1 Φ1 sz1 st1 hp1 hs1 => ?_)
  obtain ⟨⟨rfl, n_1, b_1, rfl⟩, hq1, hI1, hF1⟩ := hp1
  subst sz1
  replace hs1 : st1 = [] := hs1
  subst st1
  replace hI1 : In G x (ca) Φ1 := hI1
  replace b_1 : n_1 < 24 := b_1
  refine z_iload_n B dX11_lower_5 rfl 2 rfl ?_
  refine zb_callS (As := [.int b]) (rest := []) B htab9 (s_X11_requireWhat2 G l hl9 Φ1 sz x (ca) b hx hI1 ) (va_cwS 1 B.1.2.2.2.2 gX11_lower_X11_requireWhat rfl rfl rfl (by decide +kernel) ⟨Nat.le_of_ble_eq_true rfl, Nat.le_of_ble_eq_true rfl⟩) rfl rfl (Nat.le_of_ble_eq_true rfl) dX11_lower_6 ⟨Nat.le_of_ble_eq_true rfl, Nat.le_of_ble_eq_true rfl⟩ ⟨Nat.le_of_ble_eq_true rfl, Nat.le_of_ble_eq_true rfl⟩ (by decide) (fun Φ9 h9 => ⟨h9.1, fun b9 h8 => ((h9.2 b9 h8).trans ((fun b9 h9 => ((hF1 b9 (fun j9 h8 h7 => (show False from h7).elim)).trans rfl)) b9 h8))⟩) (fun r_2 Φ2 sz2 st2 hp2 hs2 => ?_)
  obtain ⟨⟨rfl, n_2, b_2, rfl⟩, hq2, hI2, hF2⟩ := hp2
  subst sz2
  replace hs2 : st2 = [] := hs2
  subst st2
  replace hI2 : In G x (ca) Φ2 := hI2
  replace b_2 : n_2 < 2 := b_2
  refine z_aload_n B dX11_lower_9 rfl 0 rfl ?_
  have h_3 : Φ2 x = some (o_ 13 [.ref (x + 1), .ref (x + 3), .ref (x + 24), .ref (x + 46), .ref (x + 74), .ref (x + 80), .ref (x + 132), .ref (x + 121)]) := ((hF2 x (fun j9 h8 h7 => (show False from h7).elim)).trans ((hF1 x (fun j9 h8 h7 => (show False from h7).elim)).trans h_2))
  refine z_get (ref := "FlowExporter") (C := RX11) (T := TX11) (N := 8) (ci := 13) (v := .ref (x + 121)) B hu_X11_lower_X11 rfl 7 (Nat.le_of_ble_eq_true rfl) hv_X11_lower_62 rfl h_3 rfl dX11_lower_10 ?_
  refine z_iload_n B dX11_lower_13 rfl 1 rfl ?_
  refine z_iload_n B dX11_lower_14 rfl 2 rfl ?_
  obtain ⟨n_3, h_4, b_3⟩ := in20 (k := 121) hI2 rfl
  have h_5 : Φ2 (x + 121) = some (o_ 11 [.ref (x + 122), .ref (x + 123), .ref (x + 126), .ref (x + 129), .int (nI n_3)]) := h_4
  refine z_callV (As := [.int (nI n_1), .int (nI n_2)]) (rest := []) B (s_X9_lowerBound G l Φ2 sz x (ca) n_1 n_2 hx hI2 (show n_1 < 24 by omega) (show n_2 < 2 by omega)) (cwV 2 B.1.2.2.2.2 gX11_lower_X9_lowerBound rfl rfl rfl (by decide +kernel) ⟨Nat.le_of_ble_eq_true rfl, Nat.le_of_ble_eq_true rfl⟩) h_5 rfl rfl rfl rfl (Nat.le_of_ble_eq_true rfl) dX11_lower_15 ⟨Nat.le_of_ble_eq_true rfl, Nat.le_of_ble_eq_true rfl⟩ (fun r_3 Φ3 sz3 st3 hp3 hs3 => ?_)
  obtain ⟨⟨v_1, rfl, q_1⟩, hq3, hI3, hF3⟩ := hp3
  subst sz3
  replace hs3 : st3 = [.double v_1] := hs3
  subst st3
  replace hI3 : In G x (ca) Φ3 := hI3
  exact zb_ret (Nat.le_of_ble_eq_true rfl) (Nat.le_of_ble_eq_true rfl) (z_ret_d B dX11_lower_18 ⟨⟨_, rfl, q_1⟩, rfl, hI3, (fun b9 h9 => ((hF3 b9 (fun j9 h8 h7 => (show False from h7).elim)).trans ((hF2 b9 (fun j9 h8 h7 => (show False from h7).elim)).trans ((hF1 b9 (fun j9 h8 h7 => (show False from h7).elim)).trans rfl))))⟩)

theorem hu_X11_upper_X11 : ∀ w ∈ u_ws RX11 TX11 8, w ∈ wsX11_upper := fun _ h => List.mem_cons_of_mem _ (List.mem_append_left _ (List.mem_append_left _ (List.mem_append_left _ (List.mem_append_left _ (List.mem_append_right _ (h))))))

theorem hv_X11_upper_62 : Cond.fieldLink RX11 62 "FlowExporter" (TX11 7).2.1 (TX11 7).2.2.1 ∈ wsX11_upper := List.mem_cons_of_mem _ (List.mem_append_left _ (List.mem_append_left _ (List.mem_append_left _ (List.mem_append_left _ (List.mem_append_left _ (List.mem_append_left _ (List.mem_of_getElem? (i := 0) rfl)))))))

set_option maxHeartbeats 4000000 in
set_option maxRecDepth 100000 in
theorem s_X11_upper (G : EnvG) (l : Launch) (hl9 : l.stackTraces = false) (Φ : Hm) (sz x ca : Nat) (a : Int32) (b : Int32) (hx : G.2.2.2 ≤ x) (hI : In G x ca Φ)  : CtB G l yX11_upper wsX11_upper ({ frames := 7, cells := 2, slots := 12, locals := 102 }) 2 12 [.ref x, .int a, .int b] Φ sz (fun v Φ1 sz1 => (∃ r9 : UInt64, v = some (.double r9) ∧ nn64 r9) ∧ sz1 = sz ∧ In G x (ca) Φ1 ∧ Fr x (fun j9 => False) Φ Φ1) (fun Φ1 => In G x ca Φ1 ∧ Fr x (fun j9 => False) Φ Φ1) [xIO, xIA] := by
  refine CtB.of (cc := cX11_upper) (maxL := 3) (ret := (some .double)) (by decide) rfl (Nat.le_of_ble_eq_true rfl) ?_
  intro p9 e9 s9 m9 w9 t9 k9 B htab9
  show Z p9 l e9 _ s9 m9 _ w9 t9 k9 _ G 3 0 [(0, .ref x), (1, .int a), (2, .int b)] [] Φ sz 0 0
  refine z_aload_n B dX11_upper_0 rfl 0 rfl ?_
  refine z_iload_n B dX11_upper_1 rfl 1 rfl ?_
  have h_1 := in0 (k := 0) hI rfl
  have h_2 : Φ x = some (o_ 13 [.ref (x + 1), .ref (x + 3), .ref (x + 24), .ref (x + 46), .ref (x + 74), .ref (x + 80), .ref (x + 132), .ref (x + 121)]) := h_1
  refine zb_callV (As := [.int a]) (rest := []) B htab9 (s_X11_requireKey2 G l hl9 Φ sz x (ca) a hx hI ) (cwV 1 B.1.2.2.2.2 gX11_upper_X11_requireKey rfl rfl rfl (by decide +kernel) ⟨Nat.le_of_ble_eq_true rfl, Nat.le_of_ble_eq_true rfl⟩) h_2 rfl rfl rfl rfl (Nat.le_of_ble_eq_true rfl) dX11_upper_2 ⟨Nat.le_of_ble_eq_true rfl, Nat.le_of_ble_eq_true rfl⟩ ⟨Nat.le_of_ble_eq_true rfl, Nat.le_of_ble_eq_true rfl⟩ (by decide) (fun Φ9 h9 => ⟨h9.1, fun b9 h8 => ((h9.2 b9 h8).trans ((fun b9 h9 => rfl) b9 h8))⟩) (fun r_1 Φ1 sz1 st1 hp1 hs1 => ?_)
  obtain ⟨⟨rfl, n_1, b_1, rfl⟩, hq1, hI1, hF1⟩ := hp1
  subst sz1
  replace hs1 : st1 = [] := hs1
  subst st1
  replace hI1 : In G x (ca) Φ1 := hI1
  replace b_1 : n_1 < 24 := b_1
  refine z_iload_n B dX11_upper_5 rfl 2 rfl ?_
  refine zb_callS (As := [.int b]) (rest := []) B htab9 (s_X11_requireWhat2 G l hl9 Φ1 sz x (ca) b hx hI1 ) (va_cwS 1 B.1.2.2.2.2 gX11_upper_X11_requireWhat rfl rfl rfl (by decide +kernel) ⟨Nat.le_of_ble_eq_true rfl, Nat.le_of_ble_eq_true rfl⟩) rfl rfl (Nat.le_of_ble_eq_true rfl) dX11_upper_6 ⟨Nat.le_of_ble_eq_true rfl, Nat.le_of_ble_eq_true rfl⟩ ⟨Nat.le_of_ble_eq_true rfl, Nat.le_of_ble_eq_true rfl⟩ (by decide) (fun Φ9 h9 => ⟨h9.1, fun b9 h8 => ((h9.2 b9 h8).trans ((fun b9 h9 => ((hF1 b9 (fun j9 h8 h7 => (show False from h7).elim)).trans rfl)) b9 h8))⟩) (fun r_2 Φ2 sz2 st2 hp2 hs2 => ?_)
  obtain ⟨⟨rfl, n_2, b_2, rfl⟩, hq2, hI2, hF2⟩ := hp2
  subst sz2
  replace hs2 : st2 = [] := hs2
  subst st2
  replace hI2 : In G x (ca) Φ2 := hI2
  replace b_2 : n_2 < 2 := b_2
  refine z_aload_n B dX11_upper_9 rfl 0 rfl ?_
  have h_3 : Φ2 x = some (o_ 13 [.ref (x + 1), .ref (x + 3), .ref (x + 24), .ref (x + 46), .ref (x + 74), .ref (x + 80), .ref (x + 132), .ref (x + 121)]) := ((hF2 x (fun j9 h8 h7 => (show False from h7).elim)).trans ((hF1 x (fun j9 h8 h7 => (show False from h7).elim)).trans h_2))
  refine z_get (ref := "FlowExporter") (C := RX11) (T := TX11) (N := 8) (ci := 13) (v := .ref (x + 121)) B hu_X11_upper_X11 rfl 7 (Nat.le_of_ble_eq_true rfl) hv_X11_upper_62 rfl h_3 rfl dX11_upper_10 ?_
  refine z_iload_n B dX11_upper_13 rfl 1 rfl ?_
  refine z_iload_n B dX11_upper_14 rfl 2 rfl ?_
  obtain ⟨n_3, h_4, b_3⟩ := in20 (k := 121) hI2 rfl
  have h_5 : Φ2 (x + 121) = some (o_ 11 [.ref (x + 122), .ref (x + 123), .ref (x + 126), .ref (x + 129), .int (nI n_3)]) := h_4
  refine z_callV (As := [.int (nI n_1), .int (nI n_2)]) (rest := []) B (s_X9_upperBound G l Φ2 sz x (ca) n_1 n_2 hx hI2 (show n_1 < 24 by omega) (show n_2 < 2 by omega)) (cwV 2 B.1.2.2.2.2 gX11_upper_X9_upperBound rfl rfl rfl (by decide +kernel) ⟨Nat.le_of_ble_eq_true rfl, Nat.le_of_ble_eq_true rfl⟩) h_5 rfl rfl rfl rfl (Nat.le_of_ble_eq_true rfl) dX11_upper_15 ⟨Nat.le_of_ble_eq_true rfl, Nat.le_of_ble_eq_true rfl⟩ (fun r_3 Φ3 sz3 st3 hp3 hs3 => ?_)
  obtain ⟨⟨v_1, rfl, q_1⟩, hq3, hI3, hF3⟩ := hp3
  subst sz3
  replace hs3 : st3 = [.double v_1] := hs3
  subst st3
  replace hI3 : In G x (ca) Φ3 := hI3
  exact zb_ret (Nat.le_of_ble_eq_true rfl) (Nat.le_of_ble_eq_true rfl) (z_ret_d B dX11_upper_18 ⟨⟨_, rfl, q_1⟩, rfl, hI3, (fun b9 h9 => ((hF3 b9 (fun j9 h8 h7 => (show False from h7).elim)).trans ((hF2 b9 (fun j9 h8 h7 => (show False from h7).elim)).trans ((hF1 b9 (fun j9 h8 h7 => (show False from h7).elim)).trans rfl))))⟩)

theorem hu_X11_covered_X11 : ∀ w ∈ u_ws RX11 TX11 8, w ∈ wsX11_covered := fun _ h => List.mem_cons_of_mem _ (List.mem_append_left _ (List.mem_append_left _ (List.mem_append_left _ (List.mem_append_left _ (List.mem_append_left _ (List.mem_append_left _ (List.mem_append_right _ (h))))))))

theorem hv_X11_covered_62 : Cond.fieldLink RX11 62 "FlowExporter" (TX11 7).2.1 (TX11 7).2.2.1 ∈ wsX11_covered := List.mem_cons_of_mem _ (List.mem_append_left _ (List.mem_append_left _ (List.mem_append_left _ (List.mem_append_left _ (List.mem_append_left _ (List.mem_append_left _ (List.mem_append_left _ (List.mem_append_left _ (List.mem_of_getElem? (i := 0) rfl)))))))))

theorem hu_X11_covered_X9 : ∀ w ∈ u_ws RX9 TX9 5, w ∈ wsX11_covered := fun _ h => List.mem_cons_of_mem _ (List.mem_append_left _ (List.mem_append_left _ (List.mem_append_left _ (List.mem_append_left _ (List.mem_append_left _ (List.mem_append_right _ (h)))))))

theorem hv_X11_covered_92 : Cond.fieldLink RX11 92 "FlowExporter$Sums" (TX9 4).2.1 (TX9 4).2.2.1 ∈ wsX11_covered := List.mem_cons_of_mem _ (List.mem_append_left _ (List.mem_append_left _ (List.mem_append_left _ (List.mem_append_left _ (List.mem_append_left _ (List.mem_append_left _ (List.mem_append_left _ (List.mem_append_left _ (List.mem_of_getElem? (i := 1) rfl)))))))))

theorem hv_X11_covered_55 : Cond.fieldLink RX11 55 "FlowExporter" (TX11 5).2.1 (TX11 5).2.2.1 ∈ wsX11_covered := List.mem_cons_of_mem _ (List.mem_append_left _ (List.mem_append_left _ (List.mem_append_left _ (List.mem_append_left _ (List.mem_append_left _ (List.mem_append_left _ (List.mem_append_left _ (List.mem_append_left _ (List.mem_of_getElem? (i := 2) rfl)))))))))

theorem hv_X11_covered_301 : Cond.fieldLink RX11 301 "FlowExporter$Sums" (TX9 0).2.1 (TX9 0).2.2.1 ∈ wsX11_covered := List.mem_cons_of_mem _ (List.mem_append_left _ (List.mem_append_left _ (List.mem_append_left _ (List.mem_append_left _ (List.mem_append_left _ (List.mem_append_left _ (List.mem_append_left _ (List.mem_append_left _ (List.mem_of_getElem? (i := 3) rfl)))))))))

set_option maxHeartbeats 4000000 in
set_option maxRecDepth 100000 in
theorem s_X11_covered (G : EnvG) (l : Launch) (hl9 : l.stackTraces = false) (Φ : Hm) (sz x ca : Nat) (a : Int32) (hx : G.2.2.2 ≤ x) (hI : In G x ca Φ)  : CtB G l yX11_covered wsX11_covered ({ frames := 7, cells := 1, slots := 6, locals := 102 }) 1 6 [.ref x, .int a] Φ sz (fun v Φ1 sz1 => (∃ r9 : Int32, v = some (.int r9)) ∧ sz1 = sz ∧ In G x (ca) Φ1 ∧ Fr x (fun j9 => False) Φ Φ1) (fun Φ1 => In G x ca Φ1 ∧ Fr x (fun j9 => False) Φ Φ1) [xIA] := by
  refine CtB.of (cc := cX11_covered) (maxL := 6) (ret := (some .int)) (by decide) rfl (Nat.le_of_ble_eq_true rfl) ?_
  intro p9 e9 s9 m9 w9 t9 k9 B htab9
  show Z p9 l e9 _ s9 m9 _ w9 t9 k9 _ G 6 0 [(0, .ref x), (1, .int a)] [] Φ sz 0 0
  refine z_iload_n B dX11_covered_0 rfl 1 rfl ?_
  refine zb_callS (As := [.int a]) (rest := []) B htab9 (s_X11_requireWhat2 G l hl9 Φ sz x (ca) a hx hI ) (va_cwS 1 B.1.2.2.2.2 gX11_covered_X11_requireWhat rfl rfl rfl (by decide +kernel) ⟨Nat.le_of_ble_eq_true rfl, Nat.le_of_ble_eq_true rfl⟩) rfl rfl (Nat.le_of_ble_eq_true rfl) dX11_covered_1 ⟨Nat.le_of_ble_eq_true rfl, Nat.le_of_ble_eq_true rfl⟩ ⟨Nat.le_of_ble_eq_true rfl, Nat.le_of_ble_eq_true rfl⟩ (by decide) (fun Φ9 h9 => ⟨h9.1, fun b9 h8 => ((h9.2 b9 h8).trans ((fun b9 h9 => rfl) b9 h8))⟩) (fun r_1 Φ1 sz1 st1 hp1 hs1 => ?_)
  obtain ⟨⟨rfl, n_1, b_1, rfl⟩, hq1, hI1, hF1⟩ := hp1
  subst sz1
  replace hs1 : st1 = [] := hs1
  subst st1
  replace hI1 : In G x (ca) Φ1 := hI1
  replace b_1 : n_1 < 2 := b_1
  refine z_iconst (v := 0) B dX11_covered_4 rfl ?_
  refine z_istore_n (lv' := [(2, .int 0), (0, .ref x), (1, .int (nI n_1))]) B dX11_covered_5 rfl (Nat.le_of_ble_eq_true rfl) rfl ?_
  refine z_iconst (v := 0) B dX11_covered_6 rfl ?_
  refine z_istore_n (lv' := [(3, .int 0), (2, .int 0), (0, .ref x), (1, .int (nI n_1))]) B dX11_covered_7 rfl (Nat.le_of_ble_eq_true rfl) rfl ?_
  refine z_lv [0, 1, 2, 3] rfl ?_
  refine z_loop (α := Nat × Int32) (fun (a9 : Nat × Int32) Φi => In G x (ca) Φi ∧ Fr x (fun j9 => False) Φ1 Φi ∧ (a9.1 ≤ 24) ∧ True) (fun a9 => [(3, .int (nI (a9.1))), (2, .int a9.2), (0, .ref x), (1, .int (nI n_1))]) (fun a9 => 24 - a9.1) ?_ (0, 0) ⟨hI1, fun _ _ => rfl, (show 0 ≤ 24 by omega), trivial⟩
  rintro ⟨i_1, i_2⟩ Φl1 ⟨hI2, hF2, b_2, -⟩ ih1
  replace hI2 : In G x (ca) Φl1 := hI2
  replace b_2 : i_1 ≤ 24 := b_2
  show Z p9 l e9 _ s9 m9 _ w9 t9 k9 _ G 6 8 [(3, .int (nI i_1)), (2, .int i_2), (0, .ref x), (1, .int (nI n_1))] [] Φl1 _ _ _
  refine z_iload_n B dX11_covered_8 rfl 0 rfl ?_
  refine z_aload_n B dX11_covered_9 rfl 2 rfl ?_
  have h_1 := in0 (k := 0) hI2 rfl
  have h_2 : Φl1 x = some (o_ 13 [.ref (x + 1), .ref (x + 3), .ref (x + 24), .ref (x + 46), .ref (x + 74), .ref (x + 80), .ref (x + 132), .ref (x + 121)]) := h_1
  refine z_get (ref := "FlowExporter") (C := RX11) (T := TX11) (N := 8) (ci := 13) (v := .ref (x + 121)) B hu_X11_covered_X11 rfl 7 (Nat.le_of_ble_eq_true rfl) hv_X11_covered_62 rfl h_2 rfl dX11_covered_10 ?_
  obtain ⟨n_2, h_3, b_3⟩ := in20 (k := 121) hI2 rfl
  have h_4 : Φl1 (x + 121) = some (o_ 11 [.ref (x + 122), .ref (x + 123), .ref (x + 126), .ref (x + 129), .int (nI n_2)]) := h_3
  refine z_get (ref := "FlowExporter$Sums") (C := RX9) (T := TX9) (N := 5) (ci := 11) (v := .int (nI n_2)) B hu_X11_covered_X9 rfl 4 (Nat.le_of_ble_eq_true rfl) hv_X11_covered_92 rfl h_4 rfl dX11_covered_13 ?_
  refine z_icmp_ge (tgt := 78) B dX11_covered_16 rfl (fun c_1 => ?_) (fun c_1 => ?_)
  · have e_1 : n_2 ≤ i_1 := (nI_leI (a := n_2) (b := i_1) (by omega) (by omega)).mp c_1
    refine z_iload_n B dX11_covered_78 rfl 1 rfl ?_
    exact zb_ret (Nat.le_of_ble_eq_true rfl) (Nat.le_of_ble_eq_true rfl) (z_ret_i B dX11_covered_79 ⟨⟨_, rfl⟩, rfl, hI2, (fun b9 h9 => ((hF2 b9 (fun j9 h8 h7 => (show False from h7).elim)).trans ((hF1 b9 (fun j9 h8 h7 => (show False from h7).elim)).trans rfl)))⟩)
  · have e_2 : ¬ (n_2 ≤ i_1) := fun h9 => c_1 ((nI_leI (a := n_2) (b := i_1) (by omega) (by omega)).mpr h9)
    refine z_aload_n B dX11_covered_19 rfl 2 rfl ?_
    refine z_get (ref := "FlowExporter") (C := RX11) (T := TX11) (N := 8) (ci := 13) (v := .ref (x + 80)) B hu_X11_covered_X11 rfl 5 (Nat.le_of_ble_eq_true rfl) hv_X11_covered_55 rfl h_2 rfl dX11_covered_20 ?_
    refine z_aload_n B dX11_covered_23 rfl 2 rfl ?_
    refine z_get (ref := "FlowExporter") (C := RX11) (T := TX11) (N := 8) (ci := 13) (v := .ref (x + 121)) B hu_X11_covered_X11 rfl 7 (Nat.le_of_ble_eq_true rfl) hv_X11_covered_62 rfl h_2 rfl dX11_covered_24 ?_
    refine z_get (ref := "FlowExporter$Sums") (C := RX9) (T := TX9) (N := 5) (ci := 11) (v := .ref (x + 122)) B hu_X11_covered_X9 rfl 0 (Nat.le_of_ble_eq_true rfl) hv_X11_covered_301 rfl h_4 rfl dX11_covered_27 ?_
    refine z_iload_n B dX11_covered_30 rfl 0 rfl ?_
    obtain ⟨f_1, h_5⟩ := in21 (k := 122) hI2 rfl
    have h_6 : Φl1 (x + 122) = some (al_ G 24 f_1) := h_5
    refine z_lald B h_6 (vp_in_nI (by omega) (by omega)) dX11_covered_31 ?_
    refine z_fl (fun v_1 => ?_)
    refine z_iload_n B dX11_covered_32 rfl 3 rfl ?_
    obtain ⟨v_2, v_3, v_4, v_5, v_6, v_7, v_8, v_9, v_10, h_7, b_4⟩ := in16 (k := 80) hI2 rfl
    have h_8 : Φl1 (x + 80) = some (o_ 4 [.ref (x + 3), .ref (x + 74), .ref (x + 81), .ref (x + 95), .int v_2, .int v_3, .int v_4, .int v_5, .int v_6, .int v_7, .long v_8, .long v_9, .long v_10]) := h_7
    refine z_callV (As := [.long v_1, .int (nI n_1)]) (rest := []) B (s_X2_trueValue G l Φl1 sz x (ca) v_1 (nI n_1) hx hI2 ) (cwV 2 B.1.2.2.2.2 gX11_covered_X2_trueValue rfl rfl rfl (by decide +kernel) ⟨Nat.le_of_ble_eq_true rfl, Nat.le_of_ble_eq_true rfl⟩) h_8 rfl rfl rfl rfl (Nat.le_of_ble_eq_true rfl) dX11_covered_33 ⟨Nat.le_of_ble_eq_true rfl, Nat.le_of_ble_eq_true rfl⟩ (fun r_2 Φ2 sz2 st2 hp2 hs2 => ?_)
    obtain ⟨⟨v_11, rfl⟩, hq2, hI3, hF3⟩ := hp2
    subst sz2
    replace hs2 : st2 = [.long v_11] := hs2
    subst st2
    replace hI3 : In G x (ca) Φ2 := hI3
    refine z_l2d B dX11_covered_36 ?_
    refine z_fdq (P := fun u9 : UInt64 => sm64 12 u9) (l2d_sm v_11) (fun v_12 q_2 => ?_)
    replace q_2 : sm64 12 v_12 := q_2
    refine z_dstore (lv' := [(4, .double v_12), (3, .int (nI i_1)), (2, .int i_2), (0, .ref x), (1, .int (nI n_1))]) B dX11_covered_37 (Nat.le_of_ble_eq_true rfl) rfl ?_
    refine z_aload_n B dX11_covered_39 rfl 3 rfl ?_
    have h_9 : Φ2 x = some (o_ 13 [.ref (x + 1), .ref (x + 3), .ref (x + 24), .ref (x + 46), .ref (x + 74), .ref (x + 80), .ref (x + 132), .ref (x + 121)]) := ((hF3 x (fun j9 h8 h7 => (show False from h7).elim)).trans h_2)
    refine z_get (ref := "FlowExporter") (C := RX11) (T := TX11) (N := 8) (ci := 13) (v := .ref (x + 121)) B hu_X11_covered_X11 rfl 7 (Nat.le_of_ble_eq_true rfl) hv_X11_covered_62 rfl h_9 rfl dX11_covered_40 ?_
    refine z_iload_n B dX11_covered_43 rfl 1 rfl ?_
    refine z_iload_n B dX11_covered_44 rfl 4 rfl ?_
    have h_10 : Φ2 (x + 121) = some (o_ 11 [.ref (x + 122), .ref (x + 123), .ref (x + 126), .ref (x + 129), .int (nI n_2)]) := ((hF3 (x + 121) (fun j9 h8 h7 => (show False from h7).elim)).trans h_4)
    refine z_callV (As := [.int (nI i_1), .int (nI n_1)]) (rest := []) B (s_X9_lowerBound G l Φ2 sz x (ca) i_1 n_1 hx hI3 (show i_1 < 24 by omega) (show n_1 < 2 by omega)) (cwV 2 B.1.2.2.2.2 gX11_covered_X9_lowerBound rfl rfl rfl (by decide +kernel) ⟨Nat.le_of_ble_eq_true rfl, Nat.le_of_ble_eq_true rfl⟩) h_10 rfl rfl rfl rfl (Nat.le_of_ble_eq_true rfl) dX11_covered_45 ⟨Nat.le_of_ble_eq_true rfl, Nat.le_of_ble_eq_true rfl⟩ (fun r_3 Φ3 sz3 st3 hp3 hs3 => ?_)
    obtain ⟨⟨v_13, rfl, q_3⟩, hq3, hI4, hF4⟩ := hp3
    subst sz3
    replace hs3 : st3 = [.double v_13] := hs3
    subst st3
    replace hI4 : In G x (ca) Φ3 := hI4
    refine z_dload B dX11_covered_48 0 rfl ?_
    refine z_dcmp B dX11_covered_50 ?_
    refine z_fi (fun v_14 => ?_)
    refine z_if_gt (tgt := 72) B dX11_covered_51 rfl (fun c_2 => ?_) (fun c_2 => ?_)
    · obtain ⟨n_3, e_4, e_3, rfl⟩ := nI_ofp (Int32.not_le.mpr c_2)
      refine z_iinc (k := 1) (v := nI (i_1 + 1)) (lv' := [(3, .int (nI (i_1 + 1))), (4, .double v_12), (2, .int i_2), (0, .ref x), (1, .int (nI n_1))]) B dX11_covered_72 rfl (nI_add i_1 1) (Nat.le_of_ble_eq_true rfl) rfl ?_
      refine z_goto (tgt := 8) B dX11_covered_75 rfl ?_
      refine z_lv [0, 2, 3, 4] rfl ?_
      exact ih1 (i_1 + 1, i_2) Φ3 (show 24 - (i_1 + 1) < 24 - i_1 by omega) ⟨hI4, (fun b9 h9 => ((hF4 b9 (fun j9 h8 h7 => (show False from h7).elim)).trans ((hF3 b9 (fun j9 h8 h7 => (show False from h7).elim)).trans ((hF2 b9 (fun j9 h8 h7 => (show False from h7).elim)).trans rfl)))), (show (i_1 + 1) ≤ 24 by omega), trivial⟩
    · refine z_dload B dX11_covered_54 0 rfl ?_
      refine z_aload_n B dX11_covered_56 rfl 3 rfl ?_
      have h_11 : Φ3 x = some (o_ 13 [.ref (x + 1), .ref (x + 3), .ref (x + 24), .ref (x + 46), .ref (x + 74), .ref (x + 80), .ref (x + 132), .ref (x + 121)]) := ((hF4 x (fun j9 h8 h7 => (show False from h7).elim)).trans h_9)
      refine z_get (ref := "FlowExporter") (C := RX11) (T := TX11) (N := 8) (ci := 13) (v := .ref (x + 121)) B hu_X11_covered_X11 rfl 7 (Nat.le_of_ble_eq_true rfl) hv_X11_covered_62 rfl h_11 rfl dX11_covered_57 ?_
      refine z_iload_n B dX11_covered_60 rfl 1 rfl ?_
      refine z_iload_n B dX11_covered_61 rfl 4 rfl ?_
      have h_12 : Φ3 (x + 121) = some (o_ 11 [.ref (x + 122), .ref (x + 123), .ref (x + 126), .ref (x + 129), .int (nI n_2)]) := ((hF4 (x + 121) (fun j9 h8 h7 => (show False from h7).elim)).trans h_10)
      refine z_callV (As := [.int (nI i_1), .int (nI n_1)]) (rest := [.double v_12]) B (s_X9_upperBound G l Φ3 sz x (ca) i_1 n_1 hx hI4 (show i_1 < 24 by omega) (show n_1 < 2 by omega)) (cwV 2 B.1.2.2.2.2 gX11_covered_X9_upperBound rfl rfl rfl (by decide +kernel) ⟨Nat.le_of_ble_eq_true rfl, Nat.le_of_ble_eq_true rfl⟩) h_12 rfl rfl rfl rfl (Nat.le_of_ble_eq_true rfl) dX11_covered_62 ⟨Nat.le_of_ble_eq_true rfl, Nat.le_of_ble_eq_true rfl⟩ (fun r_4 Φ4 sz4 st4 hp4 hs4 => ?_)
      obtain ⟨⟨v_15, rfl, q_4⟩, hq4, hI5, hF5⟩ := hp4
      subst sz4
      replace hs4 : st4 = [.double v_15, .double v_12] := hs4
      subst st4
      replace hI5 : In G x (ca) Φ4 := hI5
      refine z_dcmp B dX11_covered_65 ?_
      refine z_fi (fun v_16 => ?_)
      refine z_if_gt (tgt := 72) B dX11_covered_66 rfl (fun c_3 => ?_) (fun c_3 => ?_)
      · obtain ⟨n_4, e_6, e_5, rfl⟩ := nI_ofp (Int32.not_le.mpr c_3)
        refine z_iinc (k := 1) (v := nI (i_1 + 1)) (lv' := [(3, .int (nI (i_1 + 1))), (4, .double v_12), (2, .int i_2), (0, .ref x), (1, .int (nI n_1))]) B dX11_covered_72 rfl (nI_add i_1 1) (Nat.le_of_ble_eq_true rfl) rfl ?_
        refine z_goto (tgt := 8) B dX11_covered_75 rfl ?_
        refine z_lv [0, 2, 3, 4] rfl ?_
        exact ih1 (i_1 + 1, i_2) Φ4 (show 24 - (i_1 + 1) < 24 - i_1 by omega) ⟨hI5, (fun b9 h9 => ((hF5 b9 (fun j9 h8 h7 => (show False from h7).elim)).trans ((hF4 b9 (fun j9 h8 h7 => (show False from h7).elim)).trans ((hF3 b9 (fun j9 h8 h7 => (show False from h7).elim)).trans ((hF2 b9 (fun j9 h8 h7 => (show False from h7).elim)).trans rfl))))), (show (i_1 + 1) ≤ 24 by omega), trivial⟩
      · refine z_iinc (k := 2) (v := i_2 + 1) (lv' := [(2, .int (i_2 + 1)), (4, .double v_12), (3, .int (nI i_1)), (0, .ref x), (1, .int (nI n_1))]) B dX11_covered_69 rfl rfl (Nat.le_of_ble_eq_true rfl) rfl ?_
        refine z_iinc (k := 2) (v := nI (i_1 + 1)) (lv' := [(3, .int (nI (i_1 + 1))), (2, .int (i_2 + 1)), (4, .double v_12), (0, .ref x), (1, .int (nI n_1))]) B dX11_covered_72 rfl (nI_add i_1 1) (Nat.le_of_ble_eq_true rfl) rfl ?_
        refine z_goto (tgt := 8) B dX11_covered_75 rfl ?_
        refine z_lv [0, 1, 3, 4] rfl ?_
        exact ih1 (i_1 + 1, i_2 + 1) Φ4 (show 24 - (i_1 + 1) < 24 - i_1 by omega) ⟨hI5, (fun b9 h9 => ((hF5 b9 (fun j9 h8 h7 => (show False from h7).elim)).trans ((hF4 b9 (fun j9 h8 h7 => (show False from h7).elim)).trans ((hF3 b9 (fun j9 h8 h7 => (show False from h7).elim)).trans ((hF2 b9 (fun j9 h8 h7 => (show False from h7).elim)).trans rfl))))), (show (i_1 + 1) ≤ 24 by omega), trivial⟩

theorem hu_X11_totalEstimate_X11 : ∀ w ∈ u_ws RX11 TX11 8, w ∈ wsX11_totalEstimate := fun _ h => List.mem_cons_of_mem _ (List.mem_append_left _ (List.mem_append_left _ (List.mem_append_left _ (List.mem_append_right _ (h)))))

theorem hv_X11_totalEstimate_62 : Cond.fieldLink RX11 62 "FlowExporter" (TX11 7).2.1 (TX11 7).2.2.1 ∈ wsX11_totalEstimate := List.mem_cons_of_mem _ (List.mem_append_left _ (List.mem_append_left _ (List.mem_append_left _ (List.mem_append_left _ (List.mem_of_getElem? (i := 0) rfl)))))

set_option maxHeartbeats 4000000 in
set_option maxRecDepth 100000 in
theorem s_X11_totalEstimate (G : EnvG) (l : Launch) (hl9 : l.stackTraces = false) (Φ : Hm) (sz x ca : Nat) (a : Int32) (hx : G.2.2.2 ≤ x) (hI : In G x ca Φ)  : CtB G l yX11_totalEstimate wsX11_totalEstimate ({ frames := 7, cells := 1, slots := 6, locals := 101 }) 1 6 [.ref x, .int a] Φ sz (fun v Φ1 sz1 => (∃ r9 : Int64, v = some (.long r9)) ∧ sz1 = sz ∧ In G x (ca) Φ1 ∧ Fr x (fun j9 => False) Φ Φ1) (fun Φ1 => In G x ca Φ1 ∧ Fr x (fun j9 => False) Φ Φ1) [xIA] := by
  refine CtB.of (cc := cX11_totalEstimate) (maxL := 2) (ret := (some .long)) (by decide) rfl (Nat.le_of_ble_eq_true rfl) ?_
  intro p9 e9 s9 m9 w9 t9 k9 B htab9
  show Z p9 l e9 _ s9 m9 _ w9 t9 k9 _ G 2 0 [(0, .ref x), (1, .int a)] [] Φ sz 0 0
  refine z_iload_n B dX11_totalEstimate_0 rfl 1 rfl ?_
  refine zb_callS (As := [.int a]) (rest := []) B htab9 (s_X11_requireWhat2 G l hl9 Φ sz x (ca) a hx hI ) (va_cwS 1 B.1.2.2.2.2 gX11_totalEstimate_X11_requireWhat rfl rfl rfl (by decide +kernel) ⟨Nat.le_of_ble_eq_true rfl, Nat.le_of_ble_eq_true rfl⟩) rfl rfl (Nat.le_of_ble_eq_true rfl) dX11_totalEstimate_1 ⟨Nat.le_of_ble_eq_true rfl, Nat.le_of_ble_eq_true rfl⟩ ⟨Nat.le_of_ble_eq_true rfl, Nat.le_of_ble_eq_true rfl⟩ (by decide) (fun Φ9 h9 => ⟨h9.1, fun b9 h8 => ((h9.2 b9 h8).trans ((fun b9 h9 => rfl) b9 h8))⟩) (fun r_1 Φ1 sz1 st1 hp1 hs1 => ?_)
  obtain ⟨⟨rfl, n_1, b_1, rfl⟩, hq1, hI1, hF1⟩ := hp1
  subst sz1
  replace hs1 : st1 = [] := hs1
  subst st1
  replace hI1 : In G x (ca) Φ1 := hI1
  replace b_1 : n_1 < 2 := b_1
  refine z_aload_n B dX11_totalEstimate_4 rfl 0 rfl ?_
  have h_1 := in0 (k := 0) hI1 rfl
  have h_2 : Φ1 x = some (o_ 13 [.ref (x + 1), .ref (x + 3), .ref (x + 24), .ref (x + 46), .ref (x + 74), .ref (x + 80), .ref (x + 132), .ref (x + 121)]) := h_1
  refine z_get (ref := "FlowExporter") (C := RX11) (T := TX11) (N := 8) (ci := 13) (v := .ref (x + 121)) B hu_X11_totalEstimate_X11 rfl 7 (Nat.le_of_ble_eq_true rfl) hv_X11_totalEstimate_62 rfl h_2 rfl dX11_totalEstimate_5 ?_
  refine z_iload_n B dX11_totalEstimate_8 rfl 1 rfl ?_
  obtain ⟨n_2, h_3, b_2⟩ := in20 (k := 121) hI1 rfl
  have h_4 : Φ1 (x + 121) = some (o_ 11 [.ref (x + 122), .ref (x + 123), .ref (x + 126), .ref (x + 129), .int (nI n_2)]) := h_3
  refine z_callV (As := [.int (nI n_1)]) (rest := []) B (s_X9_estimateOfAll G l Φ1 sz x (ca) n_1 hx hI1 (show n_1 < 2 by omega)) (cwV 1 B.1.2.2.2.2 gX11_totalEstimate_X9_estimateOfAll rfl rfl rfl (by decide +kernel) ⟨Nat.le_of_ble_eq_true rfl, Nat.le_of_ble_eq_true rfl⟩) h_4 rfl rfl rfl rfl (Nat.le_of_ble_eq_true rfl) dX11_totalEstimate_9 ⟨Nat.le_of_ble_eq_true rfl, Nat.le_of_ble_eq_true rfl⟩ (fun r_2 Φ2 sz2 st2 hp2 hs2 => ?_)
  obtain ⟨⟨v_1, rfl⟩, hq2, hI2, hF2⟩ := hp2
  subst sz2
  replace hs2 : st2 = [.long v_1] := hs2
  subst st2
  replace hI2 : In G x (ca) Φ2 := hI2
  exact zb_ret (Nat.le_of_ble_eq_true rfl) (Nat.le_of_ble_eq_true rfl) (z_ret_l B dX11_totalEstimate_12 ⟨⟨_, rfl⟩, rfl, hI2, (fun b9 h9 => ((hF2 b9 (fun j9 h8 h7 => (show False from h7).elim)).trans ((hF1 b9 (fun j9 h8 h7 => (show False from h7).elim)).trans rfl)))⟩)

theorem hu_X11_totalMargin_X11 : ∀ w ∈ u_ws RX11 TX11 8, w ∈ wsX11_totalMargin := fun _ h => List.mem_cons_of_mem _ (List.mem_append_left _ (List.mem_append_left _ (List.mem_append_left _ (List.mem_append_right _ (h)))))

theorem hv_X11_totalMargin_62 : Cond.fieldLink RX11 62 "FlowExporter" (TX11 7).2.1 (TX11 7).2.2.1 ∈ wsX11_totalMargin := List.mem_cons_of_mem _ (List.mem_append_left _ (List.mem_append_left _ (List.mem_append_left _ (List.mem_append_left _ (List.mem_append_left _ (List.mem_of_getElem? (i := 0) rfl))))))

set_option maxHeartbeats 4000000 in
set_option maxRecDepth 100000 in
theorem s_X11_totalMargin (G : EnvG) (l : Launch) (hl9 : l.stackTraces = false) (Φ : Hm) (sz x ca : Nat) (a : Int32) (hx : G.2.2.2 ≤ x) (hI : In G x ca Φ)  : CtB G l yX11_totalMargin wsX11_totalMargin ({ frames := 7, cells := 1, slots := 6, locals := 101 }) 1 6 [.ref x, .int a] Φ sz (fun v Φ1 sz1 => (∃ r9 : UInt64, v = some (.double r9) ∧ nn64 r9) ∧ sz1 = sz ∧ In G x (ca) Φ1 ∧ Fr x (fun j9 => False) Φ Φ1) (fun Φ1 => In G x ca Φ1 ∧ Fr x (fun j9 => False) Φ Φ1) [xIA] := by
  refine CtB.of (cc := cX11_totalMargin) (maxL := 2) (ret := (some .double)) (by decide) rfl (Nat.le_of_ble_eq_true rfl) ?_
  intro p9 e9 s9 m9 w9 t9 k9 B htab9
  show Z p9 l e9 _ s9 m9 _ w9 t9 k9 _ G 2 0 [(0, .ref x), (1, .int a)] [] Φ sz 0 0
  refine z_iload_n B dX11_totalMargin_0 rfl 1 rfl ?_
  refine zb_callS (As := [.int a]) (rest := []) B htab9 (s_X11_requireWhat2 G l hl9 Φ sz x (ca) a hx hI ) (va_cwS 1 B.1.2.2.2.2 gX11_totalMargin_X11_requireWhat rfl rfl rfl (by decide +kernel) ⟨Nat.le_of_ble_eq_true rfl, Nat.le_of_ble_eq_true rfl⟩) rfl rfl (Nat.le_of_ble_eq_true rfl) dX11_totalMargin_1 ⟨Nat.le_of_ble_eq_true rfl, Nat.le_of_ble_eq_true rfl⟩ ⟨Nat.le_of_ble_eq_true rfl, Nat.le_of_ble_eq_true rfl⟩ (by decide) (fun Φ9 h9 => ⟨h9.1, fun b9 h8 => ((h9.2 b9 h8).trans ((fun b9 h9 => rfl) b9 h8))⟩) (fun r_1 Φ1 sz1 st1 hp1 hs1 => ?_)
  obtain ⟨⟨rfl, n_1, b_1, rfl⟩, hq1, hI1, hF1⟩ := hp1
  subst sz1
  replace hs1 : st1 = [] := hs1
  subst st1
  replace hI1 : In G x (ca) Φ1 := hI1
  replace b_1 : n_1 < 2 := b_1
  refine z_aload_n B dX11_totalMargin_4 rfl 0 rfl ?_
  have h_1 := in0 (k := 0) hI1 rfl
  have h_2 : Φ1 x = some (o_ 13 [.ref (x + 1), .ref (x + 3), .ref (x + 24), .ref (x + 46), .ref (x + 74), .ref (x + 80), .ref (x + 132), .ref (x + 121)]) := h_1
  refine z_get (ref := "FlowExporter") (C := RX11) (T := TX11) (N := 8) (ci := 13) (v := .ref (x + 121)) B hu_X11_totalMargin_X11 rfl 7 (Nat.le_of_ble_eq_true rfl) hv_X11_totalMargin_62 rfl h_2 rfl dX11_totalMargin_5 ?_
  refine z_iload_n B dX11_totalMargin_8 rfl 1 rfl ?_
  obtain ⟨n_2, h_3, b_2⟩ := in20 (k := 121) hI1 rfl
  have h_4 : Φ1 (x + 121) = some (o_ 11 [.ref (x + 122), .ref (x + 123), .ref (x + 126), .ref (x + 129), .int (nI n_2)]) := h_3
  refine z_callV (As := [.int (nI n_1)]) (rest := []) B (s_X9_marginOfAll G l Φ1 sz x (ca) n_1 hx hI1 (show n_1 < 2 by omega)) (cwV 1 B.1.2.2.2.2 gX11_totalMargin_X9_marginOfAll rfl rfl rfl (by decide +kernel) ⟨Nat.le_of_ble_eq_true rfl, Nat.le_of_ble_eq_true rfl⟩) h_4 rfl rfl rfl rfl (Nat.le_of_ble_eq_true rfl) dX11_totalMargin_9 ⟨Nat.le_of_ble_eq_true rfl, Nat.le_of_ble_eq_true rfl⟩ (fun r_2 Φ2 sz2 st2 hp2 hs2 => ?_)
  obtain ⟨⟨v_1, rfl, q_1⟩, hq2, hI2, hF2⟩ := hp2
  subst sz2
  replace hs2 : st2 = [.double v_1] := hs2
  subst st2
  replace hI2 : In G x (ca) Φ2 := hI2
  exact zb_ret (Nat.le_of_ble_eq_true rfl) (Nat.le_of_ble_eq_true rfl) (z_ret_d B dX11_totalMargin_12 ⟨⟨_, rfl, q_1⟩, rfl, hI2, (fun b9 h9 => ((hF2 b9 (fun j9 h8 h7 => (show False from h7).elim)).trans ((hF1 b9 (fun j9 h8 h7 => (show False from h7).elim)).trans rfl)))⟩)

theorem hu_X11_ranked_X11 : ∀ w ∈ u_ws RX11 TX11 8, w ∈ wsX11_ranked := fun _ h => List.mem_cons_of_mem _ (List.mem_append_left _ (List.mem_append_left _ (List.mem_append_left _ (List.mem_append_right _ (h)))))

theorem hv_X11_ranked_62 : Cond.fieldLink RX11 62 "FlowExporter" (TX11 7).2.1 (TX11 7).2.2.1 ∈ wsX11_ranked := List.mem_cons_of_mem _ (List.mem_append_left _ (List.mem_append_left _ (List.mem_append_left _ (List.mem_append_left _ (List.mem_of_getElem? (i := 0) rfl)))))

set_option maxHeartbeats 4000000 in
set_option maxRecDepth 100000 in
theorem s_X11_ranked (G : EnvG) (l : Launch) (hl9 : l.stackTraces = false) (Φ : Hm) (sz x ca : Nat) (a : Int32) (b : Int32) (hx : G.2.2.2 ≤ x) (hI : In G x ca Φ)  : CtB G l yX11_ranked wsX11_ranked ({ frames := 7, cells := 1, slots := 6, locals := 101 }) 1 6 [.ref x, .int a, .int b] Φ sz (fun v Φ1 sz1 => (∃ r9 : Int32, v = some (.int r9)) ∧ sz1 = sz ∧ In G x (ca) Φ1 ∧ Fr x (fun j9 => False) Φ Φ1) (fun Φ1 => In G x ca Φ1 ∧ Fr x (fun j9 => False) Φ Φ1) [xIA] := by
  refine CtB.of (cc := cX11_ranked) (maxL := 3) (ret := (some .int)) (by decide) rfl (Nat.le_of_ble_eq_true rfl) ?_
  intro p9 e9 s9 m9 w9 t9 k9 B htab9
  show Z p9 l e9 _ s9 m9 _ w9 t9 k9 _ G 3 0 [(0, .ref x), (1, .int a), (2, .int b)] [] Φ sz 0 0
  refine z_iload_n B dX11_ranked_0 rfl 2 rfl ?_
  refine zb_callS (As := [.int b]) (rest := []) B htab9 (s_X11_requireWhat2 G l hl9 Φ sz x (ca) b hx hI ) (va_cwS 1 B.1.2.2.2.2 gX11_ranked_X11_requireWhat rfl rfl rfl (by decide +kernel) ⟨Nat.le_of_ble_eq_true rfl, Nat.le_of_ble_eq_true rfl⟩) rfl rfl (Nat.le_of_ble_eq_true rfl) dX11_ranked_1 ⟨Nat.le_of_ble_eq_true rfl, Nat.le_of_ble_eq_true rfl⟩ ⟨Nat.le_of_ble_eq_true rfl, Nat.le_of_ble_eq_true rfl⟩ (by decide) (fun Φ9 h9 => ⟨h9.1, fun b9 h8 => ((h9.2 b9 h8).trans ((fun b9 h9 => rfl) b9 h8))⟩) (fun r_1 Φ1 sz1 st1 hp1 hs1 => ?_)
  obtain ⟨⟨rfl, n_1, b_1, rfl⟩, hq1, hI1, hF1⟩ := hp1
  subst sz1
  replace hs1 : st1 = [] := hs1
  subst st1
  replace hI1 : In G x (ca) Φ1 := hI1
  replace b_1 : n_1 < 2 := b_1
  refine z_aload_n B dX11_ranked_4 rfl 0 rfl ?_
  have h_1 := in0 (k := 0) hI1 rfl
  have h_2 : Φ1 x = some (o_ 13 [.ref (x + 1), .ref (x + 3), .ref (x + 24), .ref (x + 46), .ref (x + 74), .ref (x + 80), .ref (x + 132), .ref (x + 121)]) := h_1
  refine z_get (ref := "FlowExporter") (C := RX11) (T := TX11) (N := 8) (ci := 13) (v := .ref (x + 121)) B hu_X11_ranked_X11 rfl 7 (Nat.le_of_ble_eq_true rfl) hv_X11_ranked_62 rfl h_2 rfl dX11_ranked_5 ?_
  refine z_iload_n B dX11_ranked_8 rfl 1 rfl ?_
  refine z_iload_n B dX11_ranked_9 rfl 2 rfl ?_
  obtain ⟨n_2, h_3, b_2⟩ := in20 (k := 121) hI1 rfl
  have h_4 : Φ1 (x + 121) = some (o_ 11 [.ref (x + 122), .ref (x + 123), .ref (x + 126), .ref (x + 129), .int (nI n_2)]) := h_3
  refine z_callV (As := [.int a, .int (nI n_1)]) (rest := []) B (s_X9_indexWithRank G l Φ1 sz x (ca) a n_1 hx hI1 (show n_1 < 2 by omega)) (cwV 2 B.1.2.2.2.2 gX11_ranked_X9_indexWithRank rfl rfl rfl (by decide +kernel) ⟨Nat.le_of_ble_eq_true rfl, Nat.le_of_ble_eq_true rfl⟩) h_4 rfl rfl rfl rfl (Nat.le_of_ble_eq_true rfl) dX11_ranked_10 ⟨Nat.le_of_ble_eq_true rfl, Nat.le_of_ble_eq_true rfl⟩ (fun r_2 Φ2 sz2 st2 hp2 hs2 => ?_)
  obtain ⟨⟨v_1, rfl⟩, hq2, hI2, hF2⟩ := hp2
  subst sz2
  replace hs2 : st2 = [.int v_1] := hs2
  subst st2
  replace hI2 : In G x (ca) Φ2 := hI2
  exact zb_ret (Nat.le_of_ble_eq_true rfl) (Nat.le_of_ble_eq_true rfl) (z_ret_i B dX11_ranked_13 ⟨⟨_, rfl⟩, rfl, hI2, (fun b9 h9 => ((hF2 b9 (fun j9 h8 h7 => (show False from h7).elim)).trans ((hF1 b9 (fun j9 h8 h7 => (show False from h7).elim)).trans rfl)))⟩)

set_option maxHeartbeats 4000000 in
set_option maxRecDepth 100000 in
theorem s_X11_observeMany (G : EnvG) (l : Launch) (hl9 : l.stackTraces = false) (Φ : Hm) (sz x ca : Nat) (nw : Int32) (rt : Int32) (dw : Int32) (aq : Int32) (xp : Int32) (xb : Int32) (ob : Int64) (sm : Int64) (un : Int64) (a : Int32) (b : Int32) (d : Int32) (f : Int32) (g : Int32) (h : Int32) (hx : G.2.2.2 ≤ x) (hI : In G x ca Φ) (hc0 : Φ (x + 80) = some (o_ 4 [.ref (x + 3), .ref (x + 74), .ref (x + 81), .ref (x + 95), .int nw, .int rt, .int dw, .int aq, .int xp, .int xb, .long ob, .long sm, .long un])) (had : aq = 0 ∨ aq = 1) : CtB G l yX11_observeMany wsX11_observeMany ({ frames := 7, cells := 1, slots := 6, locals := 151 }) 1 6 [.ref x, .int a, .int b, .int d, .int f, .int g, .int h] Φ sz (fun v Φ1 sz1 => (((∃ r9 : Int32, v = some (.int r9)) ∧ ¬ RqP (keyF a b d f) g h) ∧ ∃ dw8 : Int32, ∃ xp8 : Int32, ∃ sm8 : Int64, ∃ un8 : Int64, Φ1 (x + 80) = some (o_ 4 [.ref (x + 3), .ref (x + 74), .ref (x + 81), .ref (x + 95), .int nw, .int rt, .int dw8, .int aq, .int xp8, .int xb, .long (ob + h.toInt64), .long sm8, .long un8])) ∧ sz1 = sz ∧ In G x (ca) Φ1 ∧ Fr x (fun j9 => 46 ≤ j9 ∧ j9 < 121) Φ Φ1) (fun Φ1 => (RqP (keyF a b d f) g h) ∧ In G x ca Φ1 ∧ Fr x (fun j9 => False) Φ Φ1) [xIA] := by
  refine CtB.of (cc := cX11_observeMany) (maxL := 9) (ret := (some .int)) (by decide) rfl (Nat.le_of_ble_eq_true rfl) ?_
  intro p9 e9 s9 m9 w9 t9 k9 B htab9
  show Z p9 l e9 _ s9 m9 _ w9 t9 k9 _ G 9 0 [(0, .ref x), (1, .int a), (2, .int b), (3, .int d), (4, .int f), (5, .int g), (6, .int h)] [] Φ sz 0 0
  refine z_iload_n B dX11_observeMany_0 rfl 1 rfl ?_
  refine z_iload_n B dX11_observeMany_1 rfl 2 rfl ?_
  refine z_iload_n B dX11_observeMany_2 rfl 3 rfl ?_
  refine z_iload B dX11_observeMany_3 4 rfl ?_
  refine z_callS (As := [.int a, .int b, .int d, .int f]) (rest := []) B (s_X3_keyOf G l Φ sz x (ca) a b d f hx hI ) (va_cwS 4 B.1.2.2.2.2 gX11_observeMany_X3_keyOf rfl rfl rfl (by decide +kernel) ⟨Nat.le_of_ble_eq_true rfl, Nat.le_of_ble_eq_true rfl⟩) rfl rfl (Nat.le_of_ble_eq_true rfl) dX11_observeMany_5 ⟨Nat.le_of_ble_eq_true rfl, Nat.le_of_ble_eq_true rfl⟩ (fun r_1 Φ1 sz1 st1 hp1 hs1 => ?_)
  obtain ⟨rfl, hq1, hI1, hF1⟩ := hp1
  subst sz1
  replace hs1 : st1 = [.long (keyF a b d f)] := hs1
  subst st1
  replace hI1 : In G x (ca) Φ1 := hI1
  refine z_lstore (lv' := [(7, .long (keyF a b d f)), (0, .ref x), (1, .int a), (2, .int b), (3, .int d), (4, .int f), (5, .int g), (6, .int h)]) B dX11_observeMany_8 (Nat.le_of_ble_eq_true rfl) rfl ?_
  refine z_lload B dX11_observeMany_10 0 rfl ?_
  refine z_iload B dX11_observeMany_12 6 rfl ?_
  refine z_iload B dX11_observeMany_14 7 rfl ?_
  refine zb_callS (As := [.long (keyF a b d f), .int g, .int h]) (rest := []) B htab9 (s_X11_requirePackets2 G l hl9 Φ1 sz x (ca) (keyF a b d f) g h hx hI1 ) (va_cwS 3 B.1.2.2.2.2 gX11_observeMany_X11_requirePackets rfl rfl rfl (by decide +kernel) ⟨Nat.le_of_ble_eq_true rfl, Nat.le_of_ble_eq_true rfl⟩) rfl rfl (Nat.le_of_ble_eq_true rfl) dX11_observeMany_16 ⟨Nat.le_of_ble_eq_true rfl, Nat.le_of_ble_eq_true rfl⟩ ⟨Nat.le_of_ble_eq_true rfl, Nat.le_of_ble_eq_true rfl⟩ (by decide) (fun Φ9 h9 => ⟨h9.1, h9.2.1, fun b9 h8 => ((h9.2.2 b9 h8).trans ((fun b9 h9 => ((hF1 b9 (fun j9 h8 h7 => (show False from h7).elim)).trans rfl)) b9 h8))⟩) (fun r_2 Φ2 sz2 st2 hp2 hs2 => ?_)
  obtain ⟨⟨rfl, ⟨n_1, b_1, rfl⟩, hq3⟩, hq2, hI2, hF2⟩ := hp2
  subst sz2
  replace hs2 : st2 = [] := hs2
  subst st2
  replace hI2 : In G x (ca) Φ2 := hI2
  replace b_1 : n_1 ≤ 200 := b_1
  replace hq3 : ¬ RqP (keyF a b d f) g (nI n_1) := hq3
  refine z_aload_n B dX11_observeMany_19 rfl 1 rfl ?_
  have h_1 := in0 (k := 0) hI2 rfl
  have h_2 : Φ2 x = some (o_ 13 [.ref (x + 1), .ref (x + 3), .ref (x + 24), .ref (x + 46), .ref (x + 74), .ref (x + 80), .ref (x + 132), .ref (x + 121)]) := h_1
  refine z_get (ref := "FlowExporter") (C := RX11) (T := TX11) (N := 8) (ci := 13) (v := .ref (x + 80)) B hu_X11_observeMany_X11 rfl 5 (Nat.le_of_ble_eq_true rfl) hv_X11_observeMany_55 rfl h_2 rfl dX11_observeMany_20 ?_
  refine z_lload B dX11_observeMany_23 0 rfl ?_
  refine z_iload B dX11_observeMany_25 6 rfl ?_
  refine z_iload B dX11_observeMany_27 7 rfl ?_
  have h_3 : Φ2 (x + 80) = some (o_ 4 [.ref (x + 3), .ref (x + 74), .ref (x + 81), .ref (x + 95), .int nw, .int rt, .int dw, .int aq, .int xp, .int xb, .long ob, .long sm, .long un]) := ((hF2 (x + 80) (fun j9 h8 h7 => (show False from h7).elim)).trans ((hF1 (x + 80) (fun j9 h8 h7 => (show False from h7).elim)).trans hc0))
  refine z_callV (As := [.long (keyF a b d f), .int g, .int (nI n_1)]) (rest := []) B (s_X2_takePackets G l Φ2 sz x (ca) nw rt dw aq xp xb ob sm un (keyF a b d f) g n_1 hx hI2 h_3 (show n_1 ≤ 200 by omega) had) (cwV 3 B.1.2.2.2.2 gX11_observeMany_X2_takePackets rfl rfl rfl (by decide +kernel) ⟨Nat.le_of_ble_eq_true rfl, Nat.le_of_ble_eq_true rfl⟩) h_3 rfl rfl rfl rfl (Nat.le_of_ble_eq_true rfl) dX11_observeMany_29 ⟨Nat.le_of_ble_eq_true rfl, Nat.le_of_ble_eq_true rfl⟩ (fun r_3 Φ3 sz3 st3 hp3 hs3 => ?_)
  obtain ⟨⟨⟨v_1, rfl⟩, v_2, v_3, v_4, v_5, h_4⟩, hq4, hI3, hF3⟩ := hp3
  subst sz3
  replace hs3 : st3 = [.int v_1] := hs3
  subst st3
  replace hI3 : In G x (ca) Φ3 := hI3
  exact zb_ret (Nat.le_of_ble_eq_true rfl) (Nat.le_of_ble_eq_true rfl) (z_ret_i B dX11_observeMany_32 ⟨⟨⟨⟨_, rfl⟩, hq3⟩, v_2, v_3, v_4, v_5, h_4⟩, rfl, hI3, (fun b9 h9 => ((hF3 b9 h9).trans ((hF2 b9 (fun j9 h8 h7 => (show False from h7).elim)).trans ((hF1 b9 (fun j9 h8 h7 => (show False from h7).elim)).trans rfl))))⟩)

set_option maxHeartbeats 4000000 in
set_option maxRecDepth 100000 in
theorem s_X11_advance (G : EnvG) (l : Launch) (hl9 : l.stackTraces = false) (Φ : Hm) (sz x ca : Nat) (nw : Int32) (rt : Int32) (dw : Int32) (aq : Int32) (xp : Int32) (xb : Int32) (ob : Int64) (sm : Int64) (un : Int64) (a : Int32) (hx : G.2.2.2 ≤ x) (hI : In G x ca Φ) (hc0 : Φ (x + 80) = some (o_ 4 [.ref (x + 3), .ref (x + 74), .ref (x + 81), .ref (x + 95), .int nw, .int rt, .int dw, .int aq, .int xp, .int xb, .long ob, .long sm, .long un])) (had : aq = 0 ∨ aq = 1) : CtB G l yX11_advance wsX11_advance ({ frames := 6, cells := 1, slots := 6, locals := 146 }) 1 6 [.ref x, .int a] Φ sz (fun v Φ1 sz1 => (((∃ r9 : Int32, v = some (.int r9)) ∧ (1 ≤ a.toInt ∧ a.toInt ≤ 1000 ∧ nw + a ≤ 1000000)) ∧ ∃ rt8 : Int32, ∃ xp8 : Int32, ∃ xb8 : Int32, ∃ un8 : Int64, Φ1 (x + 80) = some (o_ 4 [.ref (x + 3), .ref (x + 74), .ref (x + 81), .ref (x + 95), .int (nw + a), .int rt8, .int dw, .int aq, .int xp8, .int xb8, .long ob, .long sm, .long un8])) ∧ sz1 = sz ∧ In G x (ca) Φ1 ∧ Fr x (fun j9 => 46 ≤ j9 ∧ j9 < 95) Φ Φ1) (fun Φ1 => (¬ (1 ≤ a.toInt ∧ a.toInt ≤ 1000 ∧ nw + a ≤ 1000000)) ∧ In G x ca Φ1 ∧ Fr x (fun j9 => False) Φ Φ1) [xIA, xIS] := by
  refine CtB.of (cc := cX11_advance) (maxL := 4) (ret := (some .int)) (by decide) rfl (Nat.le_of_ble_eq_true rfl) ?_
  intro p9 e9 s9 m9 w9 t9 k9 B htab9
  show Z p9 l e9 _ s9 m9 _ w9 t9 k9 _ G 4 0 [(0, .ref x), (1, .int a)] [] Φ sz 0 0
  refine z_iload_n B dX11_advance_0 rfl 1 rfl ?_
  refine z_iconst (v := 1) B dX11_advance_1 rfl ?_
  refine z_icmp_lt (tgt := 12) B dX11_advance_2 rfl (fun c_1 => ?_) (fun c_1 => ?_)
  · have k_1 : (1 : Int32).toInt = 1 := by decide
    have q_1 : (a.toInt < (1 : Int32).toInt) := Int32.lt_iff_toInt_lt.mp c_1
    exact zb_throw (cls := xIA) (ik := 116) (ic := 118) B hl9 htab9 (by decide) ⟨(fun h9 => by omega), hI, (fun b9 h9 => rfl)⟩ (by decide) (by decide +kernel) (by decide +kernel) (by decide +kernel) (by decide +kernel) (by decide +kernel) (by decide +kernel) (by decide +kernel) dX11_advance_12 dX11_advance_15 dX11_advance_16 dX11_advance_19 ⟨Nat.le_of_ble_eq_true rfl, Nat.le_of_ble_eq_true rfl, Nat.le_of_ble_eq_true rfl, Nat.le_of_ble_eq_true rfl⟩ ⟨Nat.le_of_ble_eq_true rfl, Nat.le_of_ble_eq_true rfl⟩
  · obtain ⟨n_1, e_2, e_1, rfl⟩ := nI_ofge (c := 1) (by omega) c_1
    refine z_iload_n B dX11_advance_5 rfl 1 rfl ?_
    refine z_sipush (v := 1000) B dX11_advance_6 rfl ?_
    refine z_icmp_le (tgt := 20) B dX11_advance_9 rfl (fun c_2 => ?_) (fun c_2 => ?_)
    · have e_3 : n_1 ≤ 1000 := (nI_leI (a := n_1) (b := 1000) (by omega) (by omega)).mp c_2
      refine z_aload_n B dX11_advance_20 rfl 0 rfl ?_
      have h_1 := in0 (k := 0) hI rfl
      have h_2 : Φ x = some (o_ 13 [.ref (x + 1), .ref (x + 3), .ref (x + 24), .ref (x + 46), .ref (x + 74), .ref (x + 80), .ref (x + 132), .ref (x + 121)]) := h_1
      refine z_get (ref := "FlowExporter") (C := RX11) (T := TX11) (N := 8) (ci := 13) (v := .ref (x + 80)) B hu_X11_advance_X11 rfl 5 (Nat.le_of_ble_eq_true rfl) hv_X11_advance_55 rfl h_2 rfl dX11_advance_21 ?_
      refine z_get (ref := "FlowExporter$Exporter") (C := RX2) (T := TX2) (N := 13) (ci := 4) (v := .int nw) B hu_X11_advance_X2 rfl 4 (Nat.le_of_ble_eq_true rfl) hv_X11_advance_110 rfl hc0 rfl dX11_advance_24 ?_
      refine z_iload_n B dX11_advance_27 rfl 1 rfl ?_
      refine z_iadd B dX11_advance_28 ?_
      refine z_ldc (v := 1000000) B (by decide +kernel) dX11_advance_29 ?_
      refine z_icmp_le (tgt := 42) B dX11_advance_31 rfl (fun c_3 => ?_) (fun c_3 => ?_)
      · refine z_aload_n B dX11_advance_42 rfl 0 rfl ?_
        refine z_get (ref := "FlowExporter") (C := RX11) (T := TX11) (N := 8) (ci := 13) (v := .ref (x + 80)) B hu_X11_advance_X11 rfl 5 (Nat.le_of_ble_eq_true rfl) hv_X11_advance_55 rfl h_2 rfl dX11_advance_43 ?_
        refine z_get (ref := "FlowExporter$Exporter") (C := RX2) (T := TX2) (N := 13) (ci := 4) (v := .int xp) B hu_X11_advance_X2 rfl 8 (Nat.le_of_ble_eq_true rfl) hv_X11_advance_137 rfl hc0 rfl dX11_advance_46 ?_
        refine z_istore_n (lv' := [(2, .int xp), (0, .ref x), (1, .int (nI n_1))]) B dX11_advance_49 rfl (Nat.le_of_ble_eq_true rfl) rfl ?_
        refine z_iconst (v := 0) B dX11_advance_50 rfl ?_
        refine z_istore_n (lv' := [(3, .int 0), (2, .int xp), (0, .ref x), (1, .int (nI n_1))]) B dX11_advance_51 rfl (Nat.le_of_ble_eq_true rfl) rfl ?_
        refine z_lv [0, 1, 2, 3] rfl ?_
        refine z_loop (α := Nat × Int32 × Int32 × Int32 × Int32 × Int64) (fun (a9 : Nat × Int32 × Int32 × Int32 × Int32 × Int64) Φi => In G x (ca) Φi ∧ Fr x (fun j9 => 46 ≤ j9 ∧ j9 < 95) Φ Φi ∧ (a9.1 ≤ n_1) ∧ (a9.2.1 = nw + nI a9.1) ∧ (Φi (x + 80) = some (o_ 4 [.ref (x + 3), .ref (x + 74), .ref (x + 81), .ref (x + 95), .int a9.2.1, .int a9.2.2.1, .int dw, .int aq, .int a9.2.2.2.1, .int a9.2.2.2.2.1, .long ob, .long sm, .long a9.2.2.2.2.2])) ∧ True) (fun a9 => [(3, .int (nI (a9.1))), (2, .int xp), (0, .ref x), (1, .int (nI n_1))]) (fun a9 => n_1 - a9.1) ?_ (0, nw, rt, xp, xb, un) ⟨hI, fun _ _ => rfl, (show 0 ≤ n_1 by omega), nadd_0, hc0, trivial⟩
        rintro ⟨i_1, i_2, i_3, i_4, i_5, i_6⟩ Φl1 ⟨hI1, hF1, b_1, b_2, b_3, -⟩ ih1
        replace hI1 : In G x (ca) Φl1 := hI1
        replace b_1 : i_1 ≤ n_1 := b_1
        replace b_2 : i_2 = nw + nI i_1 := b_2
        replace b_3 : Φl1 (x + 80) = some (o_ 4 [.ref (x + 3), .ref (x + 74), .ref (x + 81), .ref (x + 95), .int i_2, .int i_3, .int dw, .int aq, .int i_4, .int i_5, .long ob, .long sm, .long i_6]) := b_3
        show Z p9 l e9 _ s9 m9 _ w9 t9 k9 _ G 4 52 [(3, .int (nI i_1)), (2, .int xp), (0, .ref x), (1, .int (nI n_1))] [] Φl1 _ _ _
        obtain rfl := b_2
        refine z_iload_n B dX11_advance_52 rfl 0 rfl ?_
        refine z_iload_n B dX11_advance_53 rfl 3 rfl ?_
        refine z_icmp_ge (tgt := 70) B dX11_advance_54 rfl (fun c_4 => ?_) (fun c_4 => ?_)
        · have e_4 : n_1 ≤ i_1 := (nI_leI (a := n_1) (b := i_1) (by omega) (by omega)).mp c_4
          refine z_aload_n B dX11_advance_70 rfl 2 rfl ?_
          have h_3 : Φl1 x = some (o_ 13 [.ref (x + 1), .ref (x + 3), .ref (x + 24), .ref (x + 46), .ref (x + 74), .ref (x + 80), .ref (x + 132), .ref (x + 121)]) := ((hF1 x fq_505).trans h_2)
          refine z_get (ref := "FlowExporter") (C := RX11) (T := TX11) (N := 8) (ci := 13) (v := .ref (x + 80)) B hu_X11_advance_X11 rfl 5 (Nat.le_of_ble_eq_true rfl) hv_X11_advance_55 rfl h_3 rfl dX11_advance_71 ?_
          refine z_get (ref := "FlowExporter$Exporter") (C := RX2) (T := TX2) (N := 13) (ci := 4) (v := .int i_4) B hu_X11_advance_X2 rfl 8 (Nat.le_of_ble_eq_true rfl) hv_X11_advance_137 rfl b_3 rfl dX11_advance_74 ?_
          refine z_iload_n B dX11_advance_77 rfl 1 rfl ?_
          refine z_isub B dX11_advance_78 ?_
          refine z_fi (fun v_1 => ?_)
          have k_2 : (nI n_1).toInt = ((n_1 : Nat) : Int) := nI_toInt (by omega)
          have k_3 : (1 : Int32).toInt = 1 := by decide
          have q_2 : ¬ ((nI n_1).toInt < (1 : Int32).toInt) := fun h9 => c_1 (Int32.lt_iff_toInt_lt.mpr h9)
          have k_4 : (1000 : Int32).toInt = 1000 := by decide
          have q_3 : ((nI n_1).toInt ≤ (1000 : Int32).toInt) := Int32.le_iff_toInt_le.mp c_2
          have k_5 : (1000000 : Int32).toInt = 1000000 := by decide
          have q_4 : ((nw + (nI n_1)).toInt ≤ (1000000 : Int32).toInt) := Int32.le_iff_toInt_le.mp c_3
          have k_6 : (nI i_1).toInt = ((i_1 : Nat) : Int) := nI_toInt (by omega)
          have q_5 : ((nI n_1).toInt ≤ (nI i_1).toInt) := Int32.le_iff_toInt_le.mp c_4
          exact zb_ret (Nat.le_of_ble_eq_true rfl) (Nat.le_of_ble_eq_true rfl) (z_ret_i B dX11_advance_79 ⟨⟨⟨⟨_, rfl⟩, ⟨by omega, by omega, c_3⟩⟩, i_3, i_4, i_5, i_6, (b_3.trans (congrArg (fun w9 : Int32 => some (o_ 4 [.ref (x + 3), .ref (x + 74), .ref (x + 81), .ref (x + 95), .int w9, .int i_3, .int dw, .int aq, .int i_4, .int i_5, .long ob, .long sm, .long i_6])) (congrArg (fun w8 : Nat => nw + nI w8) (show i_1 = n_1 by omega))))⟩, rfl, hI1, (fun b9 h9 => ((hF1 b9 h9).trans rfl))⟩)
        · have e_5 : ¬ (n_1 ≤ i_1) := fun h9 => c_4 ((nI_leI (a := n_1) (b := i_1) (by omega) (by omega)).mpr h9)
          refine z_aload_n B dX11_advance_57 rfl 2 rfl ?_
          have h_4 : Φl1 x = some (o_ 13 [.ref (x + 1), .ref (x + 3), .ref (x + 24), .ref (x + 46), .ref (x + 74), .ref (x + 80), .ref (x + 132), .ref (x + 121)]) := ((hF1 x fq_505).trans h_2)
          refine z_get (ref := "FlowExporter") (C := RX11) (T := TX11) (N := 8) (ci := 13) (v := .ref (x + 80)) B hu_X11_advance_X11 rfl 5 (Nat.le_of_ble_eq_true rfl) hv_X11_advance_55 rfl h_4 rfl dX11_advance_58 ?_
          refine z_callV (As := []) (rest := []) B (s_X2_tick G l Φl1 sz x (ca) (nw + nI i_1) i_3 dw aq i_4 i_5 ob sm i_6 hx hI1 b_3 had) (cwV 0 B.1.2.2.2.2 gX11_advance_X2_tick rfl rfl rfl (by decide +kernel) ⟨Nat.le_of_ble_eq_true rfl, Nat.le_of_ble_eq_true rfl⟩) b_3 rfl rfl rfl rfl (Nat.le_of_ble_eq_true rfl) dX11_advance_61 ⟨Nat.le_of_ble_eq_true rfl, Nat.le_of_ble_eq_true rfl⟩ (fun r_1 Φ1 sz1 st1 hp1 hs1 => ?_)
          obtain ⟨⟨rfl, v_2, v_3, v_4, v_5, h_5⟩, hq1, hI2, hF2⟩ := hp1
          subst sz1
          replace hs1 : st1 = [] := hs1
          subst st1
          replace hI2 : In G x (ca) Φ1 := hI2
          refine z_iinc (k := 0) (v := nI (i_1 + 1)) (lv' := [(3, .int (nI (i_1 + 1))), (2, .int xp), (0, .ref x), (1, .int (nI n_1))]) B dX11_advance_64 rfl (nI_add i_1 1) (Nat.le_of_ble_eq_true rfl) rfl ?_
          refine z_goto (tgt := 52) B dX11_advance_67 rfl ?_
          refine z_lv [0, 1, 2, 3] rfl ?_
          exact ih1 (i_1 + 1, (nw + nI i_1) + 1, v_2, v_3, v_4, v_5) Φ1 (show n_1 - (i_1 + 1) < n_1 - i_1 by omega) ⟨hI2, (fun b9 h9 => ((hF2 b9 h9).trans ((hF1 b9 h9).trans rfl))), (show (i_1 + 1) ≤ n_1 by omega), (nadd nw i_1), h_5, trivial⟩
      · exact zb_throw (cls := xIS) (ik := 134) (ic := 136) B hl9 htab9 (by decide) ⟨(fun h9 => c_3 h9.2.2), hI, (fun b9 h9 => rfl)⟩ (by decide) (by decide +kernel) (by decide +kernel) (by decide +kernel) (by decide +kernel) (by decide +kernel) (by decide +kernel) (by decide +kernel) dX11_advance_34 dX11_advance_37 dX11_advance_38 dX11_advance_41 ⟨Nat.le_of_ble_eq_true rfl, Nat.le_of_ble_eq_true rfl, Nat.le_of_ble_eq_true rfl, Nat.le_of_ble_eq_true rfl⟩ ⟨Nat.le_of_ble_eq_true rfl, Nat.le_of_ble_eq_true rfl⟩
    · have e_6 : ¬ (n_1 ≤ 1000) := fun h9 => c_2 ((nI_leI (a := n_1) (b := 1000) (by omega) (by omega)).mpr h9)
      have k_7 : (nI n_1).toInt = ((n_1 : Nat) : Int) := nI_toInt (by omega)
      have k_8 : (1 : Int32).toInt = 1 := by decide
      have q_6 : ¬ ((nI n_1).toInt < (1 : Int32).toInt) := fun h9 => c_1 (Int32.lt_iff_toInt_lt.mpr h9)
      have k_9 : (1000 : Int32).toInt = 1000 := by decide
      have q_7 : ¬ ((nI n_1).toInt ≤ (1000 : Int32).toInt) := fun h9 => c_2 (Int32.le_iff_toInt_le.mpr h9)
      exact zb_throw (cls := xIA) (ik := 116) (ic := 118) B hl9 htab9 (by decide) ⟨(fun h9 => by omega), hI, (fun b9 h9 => rfl)⟩ (by decide) (by decide +kernel) (by decide +kernel) (by decide +kernel) (by decide +kernel) (by decide +kernel) (by decide +kernel) (by decide +kernel) dX11_advance_12 dX11_advance_15 dX11_advance_16 dX11_advance_19 ⟨Nat.le_of_ble_eq_true rfl, Nat.le_of_ble_eq_true rfl, Nat.le_of_ble_eq_true rfl, Nat.le_of_ble_eq_true rfl⟩ ⟨Nat.le_of_ble_eq_true rfl, Nat.le_of_ble_eq_true rfl⟩

set_option maxRecDepth 20000 in
theorem ggX11_startAnew_X1_copyFrom : GoodIn wsX11_startAnew wsX1_copyFrom := goodIn_ca ((goodIn_ca (goodIn_ca (goodIn_r _ [14, 15, 16, 17, 18, 19, 20, 21, 22, 23, 24, 25, 26, 27, 28, 29, 30, 31, 32, 33, 34, 35, 36, 37, 38, 39, 40, 41, 42, 43, 44, 45, 46, 47, 13, 48, 49] rfl (by decide +kernel)) (goodIn_sub (fun _ h => List.mem_cons_of_mem _ (List.mem_append_left _ (List.mem_append_left _ (List.mem_append_left _ (List.mem_append_left _ (List.mem_append_left _ (List.mem_append_left _ (List.mem_append_left _ (List.mem_append_left _ (List.mem_append_right _ h)))))))))) gw_wsX10)) (goodIn_sub (fun _ h => List.mem_cons_of_mem _ (List.mem_append_left _ (List.mem_append_left _ (List.mem_append_left _ (List.mem_append_left _ (List.mem_append_left _ (List.mem_append_left _ (List.mem_append_left _ (List.mem_append_right _ h))))))))) gw_wsX100))) (goodIn_sub (fun _ h => List.mem_cons_of_mem _ (List.mem_append_right _ h)) (all_fg _))
set_option maxRecDepth 20000 in
theorem gX11_startAnew_X1_copyFrom : GoodIn wsX11_startAnew (wsV RX11 83 RX1 yX1_copyFrom wsX1_copyFrom) := goodIn_app (goodIn_m (mem_cA (List.mem_cons_of_mem _ (List.mem_append_left _ (List.mem_append_left _ (List.mem_append_left _ (List.mem_append_left _ (List.mem_append_left _ (List.mem_append_left _ (List.mem_append_left _ (List.mem_append_left _ (List.mem_append_left _ (List.mem_append_left _ (List.mem_append_left _ (List.mem_append_left _ (List.mem_append_left _ (List.mem_of_getElem? (i := 9) rfl))))))))))))))) (mem_cA (List.mem_cons_of_mem _ (List.mem_append_left _ (List.mem_append_left _ (List.mem_append_left _ (List.mem_append_left _ (List.mem_append_left _ (List.mem_append_left _ (List.mem_append_left _ (List.mem_append_left _ (List.mem_append_left _ (List.mem_append_left _ (List.mem_append_left _ (List.mem_append_left _ (List.mem_append_left _ (List.mem_of_getElem? (i := 10) rfl))))))))))))))) (mem_cA (List.mem_cons_of_mem _ (List.mem_append_left _ (List.mem_append_left _ (List.mem_append_left _ (List.mem_append_left _ (List.mem_append_left _ (List.mem_append_left _ (List.mem_append_left _ (List.mem_append_left _ (List.mem_append_left _ (List.mem_append_left _ (List.mem_append_left _ (List.mem_append_left _ (List.mem_append_left _ (List.mem_of_getElem? (i := 11) rfl))))))))))))))) (mem_cA (List.mem_cons_of_mem _ (List.mem_append_left _ (List.mem_append_left _ (List.mem_append_left _ (List.mem_append_left _ (List.mem_append_left _ (List.mem_append_left _ (List.mem_append_left _ (List.mem_append_left _ (List.mem_append_left _ (List.mem_append_left _ (List.mem_append_left _ (List.mem_append_left _ (List.mem_append_left _ (List.mem_of_getElem? (i := 12) rfl))))))))))))))) mem_cZ)))) (by decide +kernel)) ggX11_startAnew_X1_copyFrom
set_option maxRecDepth 20000 in
theorem ggX11_startAnew_X7_clear : GoodIn wsX11_startAnew wsX7_clear := (goodIn_ca (goodIn_r _ [54, 55, 56] rfl (by decide +kernel)) (goodIn_sub (fun _ h => List.mem_cons_of_mem _ (List.mem_append_left _ (List.mem_append_left _ (List.mem_append_left _ (List.mem_append_left _ (List.mem_append_left _ (List.mem_append_left _ (List.mem_append_right _ h)))))))) gw_wsX70))
set_option maxRecDepth 20000 in
theorem gX11_startAnew_X7_clear : GoodIn wsX11_startAnew (wsV RX11 87 RX7 yX7_clear wsX7_clear) := goodIn_app (goodIn_m (mem_cA (List.mem_cons_of_mem _ (List.mem_append_left _ (List.mem_append_left _ (List.mem_append_left _ (List.mem_append_left _ (List.mem_append_left _ (List.mem_append_left _ (List.mem_append_left _ (List.mem_append_left _ (List.mem_append_left _ (List.mem_append_left _ (List.mem_append_left _ (List.mem_append_left _ (List.mem_append_right _ (List.mem_append_right _ (List.mem_append_left _ (List.mem_of_getElem? (i := 1) rfl))))))))))))))))) (mem_cA (List.mem_cons_of_mem _ (List.mem_append_left _ (List.mem_append_left _ (List.mem_append_left _ (List.mem_append_left _ (List.mem_append_left _ (List.mem_append_left _ (List.mem_append_left _ (List.mem_append_left _ (List.mem_append_left _ (List.mem_append_left _ (List.mem_append_left _ (List.mem_append_left _ (List.mem_append_right _ (List.mem_append_right _ (List.mem_append_left _ (List.mem_of_getElem? (i := 2) rfl))))))))))))))))) (mem_cA (List.mem_cons_of_mem _ (List.mem_append_left _ (List.mem_append_left _ (List.mem_append_left _ (List.mem_append_left _ (List.mem_append_left _ (List.mem_append_left _ (List.mem_append_left _ (List.mem_append_left _ (List.mem_append_left _ (List.mem_append_left _ (List.mem_append_left _ (List.mem_append_left _ (List.mem_append_right _ (List.mem_append_right _ (List.mem_append_left _ (List.mem_of_getElem? (i := 3) rfl))))))))))))))))) (mem_cA (List.mem_cons_of_mem _ (List.mem_append_left _ (List.mem_append_left _ (List.mem_append_left _ (List.mem_append_left _ (List.mem_append_left _ (List.mem_append_left _ (List.mem_append_left _ (List.mem_append_left _ (List.mem_append_left _ (List.mem_append_left _ (List.mem_append_left _ (List.mem_append_left _ (List.mem_append_right _ (List.mem_append_right _ (List.mem_append_left _ (List.mem_of_getElem? (i := 4) rfl))))))))))))))))) mem_cZ)))) (by decide +kernel)) ggX11_startAnew_X7_clear
set_option maxRecDepth 20000 in
theorem ggX11_startAnew_X8_clear : GoodIn wsX11_startAnew wsX8_clear := (goodIn_ca (goodIn_ca (goodIn_r _ [61, 62, 63, 64, 65, 66, 60, 67, 68, 69, 70, 71, 72, 73, 74, 75, 76, 77, 78, 79, 80, 81, 82, 83, 84] rfl (by decide +kernel)) (goodIn_sub (fun _ h => List.mem_cons_of_mem _ (List.mem_append_left _ (List.mem_append_left _ (List.mem_append_left _ (List.mem_append_left _ (List.mem_append_left _ (List.mem_append_right _ h))))))) gw_wsX80)) (goodIn_sub (fun _ h => List.mem_cons_of_mem _ (List.mem_append_left _ (List.mem_append_left _ (List.mem_append_left _ (List.mem_append_left _ (List.mem_append_right _ h)))))) gw_wsX50))
set_option maxRecDepth 20000 in
theorem gX11_startAnew_X8_clear : GoodIn wsX11_startAnew (wsV RX11 90 RX8 yX8_clear wsX8_clear) := goodIn_app (goodIn_m (mem_cA (List.mem_cons_of_mem _ (List.mem_append_left _ (List.mem_append_left _ (List.mem_append_left _ (List.mem_append_left _ (List.mem_append_left _ (List.mem_append_left _ (List.mem_append_left _ (List.mem_append_left _ (List.mem_append_left _ (List.mem_append_left _ (List.mem_append_left _ (List.mem_append_left _ (List.mem_append_right _ (List.mem_append_right _ (List.mem_append_left _ (List.mem_of_getElem? (i := 8) rfl))))))))))))))))) (mem_cA (List.mem_cons_of_mem _ (List.mem_append_left _ (List.mem_append_left _ (List.mem_append_left _ (List.mem_append_left _ (List.mem_append_left _ (List.mem_append_left _ (List.mem_append_left _ (List.mem_append_left _ (List.mem_append_left _ (List.mem_append_left _ (List.mem_append_left _ (List.mem_append_left _ (List.mem_append_right _ (List.mem_append_right _ (List.mem_append_left _ (List.mem_of_getElem? (i := 9) rfl))))))))))))))))) (mem_cA (List.mem_cons_of_mem _ (List.mem_append_left _ (List.mem_append_left _ (List.mem_append_left _ (List.mem_append_left _ (List.mem_append_left _ (List.mem_append_left _ (List.mem_append_left _ (List.mem_append_left _ (List.mem_append_left _ (List.mem_append_left _ (List.mem_append_left _ (List.mem_append_left _ (List.mem_append_right _ (List.mem_append_right _ (List.mem_append_left _ (List.mem_of_getElem? (i := 10) rfl))))))))))))))))) (mem_cA (List.mem_cons_of_mem _ (List.mem_append_left _ (List.mem_append_left _ (List.mem_append_left _ (List.mem_append_left _ (List.mem_append_left _ (List.mem_append_left _ (List.mem_append_left _ (List.mem_append_left _ (List.mem_append_left _ (List.mem_append_left _ (List.mem_append_left _ (List.mem_append_left _ (List.mem_append_right _ (List.mem_append_right _ (List.mem_append_left _ (List.mem_of_getElem? (i := 11) rfl))))))))))))))))) mem_cZ)))) (by decide +kernel)) ggX11_startAnew_X8_clear
set_option maxRecDepth 20000 in
theorem ggX11_startAnew_X2_clear : GoodIn wsX11_startAnew wsX2_clear := goodIn_ca ((goodIn_ca (goodIn_ca (goodIn_ca (goodIn_r _ [89, 90, 91, 92, 93, 94, 95, 96, 97, 98, 99, 100, 101, 102, 103, 104, 105, 13, 106, 15] rfl (by decide +kernel)) (goodIn_sub (fun _ h => List.mem_cons_of_mem _ (List.mem_append_left _ (List.mem_append_left _ (List.mem_append_left _ (List.mem_append_right _ h))))) gw_wsX20)) (goodIn_sub (fun _ h => List.mem_cons_of_mem _ (List.mem_append_left _ (List.mem_append_left _ (List.mem_append_right _ h)))) gw_wsX40)) (goodIn_sub (fun _ h => List.mem_cons_of_mem _ (List.mem_append_left _ (List.mem_append_left _ (List.mem_append_left _ (List.mem_append_left _ (List.mem_append_left _ (List.mem_append_left _ (List.mem_append_left _ (List.mem_append_left _ (List.mem_append_right _ h)))))))))) gw_wsX10))) (goodIn_sub (fun _ h => List.mem_cons_of_mem _ (List.mem_append_right _ h)) (all_fg _))
set_option maxRecDepth 20000 in
theorem gX11_startAnew_X2_clear : GoodIn wsX11_startAnew (wsV RX11 91 RX2 yX2_clear wsX2_clear) := goodIn_app (goodIn_m (mem_cA (List.mem_cons_of_mem _ (List.mem_append_left _ (List.mem_append_left _ (List.mem_append_left _ (List.mem_append_left _ (List.mem_append_left _ (List.mem_append_left _ (List.mem_append_left _ (List.mem_append_left _ (List.mem_append_left _ (List.mem_append_left _ (List.mem_append_left _ (List.mem_append_left _ (List.mem_append_right _ (List.mem_append_right _ (List.mem_append_right _ (List.mem_append_left _ (List.mem_of_getElem? (i := 12) rfl)))))))))))))))))) (mem_cA (List.mem_cons_of_mem _ (List.mem_append_left _ (List.mem_append_left _ (List.mem_append_left _ (List.mem_append_left _ (List.mem_append_left _ (List.mem_append_left _ (List.mem_append_left _ (List.mem_append_left _ (List.mem_append_left _ (List.mem_append_left _ (List.mem_append_left _ (List.mem_append_left _ (List.mem_append_right _ (List.mem_append_right _ (List.mem_append_right _ (List.mem_append_left _ (List.mem_of_getElem? (i := 13) rfl)))))))))))))))))) (mem_cA (List.mem_cons_of_mem _ (List.mem_append_left _ (List.mem_append_left _ (List.mem_append_left _ (List.mem_append_left _ (List.mem_append_left _ (List.mem_append_left _ (List.mem_append_left _ (List.mem_append_left _ (List.mem_append_left _ (List.mem_append_left _ (List.mem_append_left _ (List.mem_append_left _ (List.mem_append_right _ (List.mem_append_right _ (List.mem_append_right _ (List.mem_append_left _ (List.mem_of_getElem? (i := 14) rfl)))))))))))))))))) (mem_cA (List.mem_cons_of_mem _ (List.mem_append_left _ (List.mem_append_left _ (List.mem_append_left _ (List.mem_append_left _ (List.mem_append_left _ (List.mem_append_left _ (List.mem_append_left _ (List.mem_append_left _ (List.mem_append_left _ (List.mem_append_left _ (List.mem_append_left _ (List.mem_append_left _ (List.mem_append_right _ (List.mem_append_right _ (List.mem_append_right _ (List.mem_append_left _ (List.mem_of_getElem? (i := 15) rfl)))))))))))))))))) mem_cZ)))) (by decide +kernel)) ggX11_startAnew_X2_clear
set_option maxRecDepth 20000 in
theorem ggX11_startAnew_X0_clear : GoodIn wsX11_startAnew wsX0_clear := (goodIn_ca (goodIn_ca (goodIn_r _ [111, 112, 113, 114, 83, 115, 116, 117, 118, 110, 119, 120, 121, 122, 123, 31, 32, 27, 33, 29, 34, 35] rfl (by decide +kernel)) (goodIn_sub (fun _ h => List.mem_cons_of_mem _ (List.mem_append_left _ (List.mem_append_right _ h))) gw_wsX00)) (goodIn_sub (fun _ h => List.mem_cons_of_mem _ (List.mem_append_left _ (List.mem_append_left _ (List.mem_append_left _ (List.mem_append_left _ (List.mem_append_left _ (List.mem_append_left _ (List.mem_append_left _ (List.mem_append_right _ h))))))))) gw_wsX100))
set_option maxRecDepth 20000 in
theorem gX11_startAnew_X0_clear : GoodIn wsX11_startAnew (wsV RX11 96 RX0 yX0_clear wsX0_clear) := goodIn_app (goodIn_m (mem_cA (List.mem_cons_of_mem _ (List.mem_append_left _ (List.mem_append_left _ (List.mem_append_left _ (List.mem_append_left _ (List.mem_append_left _ (List.mem_append_left _ (List.mem_append_left _ (List.mem_append_left _ (List.mem_append_left _ (List.mem_append_left _ (List.mem_append_left _ (List.mem_append_left _ (List.mem_append_right _ (List.mem_append_right _ (List.mem_append_right _ (List.mem_append_right _ (List.mem_append_left _ (List.mem_of_getElem? (i := 10) rfl))))))))))))))))))) (mem_cA (List.mem_cons_of_mem _ (List.mem_append_left _ (List.mem_append_left _ (List.mem_append_left _ (List.mem_append_left _ (List.mem_append_left _ (List.mem_append_left _ (List.mem_append_left _ (List.mem_append_left _ (List.mem_append_left _ (List.mem_append_left _ (List.mem_append_left _ (List.mem_append_left _ (List.mem_append_right _ (List.mem_append_right _ (List.mem_append_right _ (List.mem_append_right _ (List.mem_append_left _ (List.mem_of_getElem? (i := 11) rfl))))))))))))))))))) (mem_cA (List.mem_cons_of_mem _ (List.mem_append_left _ (List.mem_append_left _ (List.mem_append_left _ (List.mem_append_left _ (List.mem_append_left _ (List.mem_append_left _ (List.mem_append_left _ (List.mem_append_left _ (List.mem_append_left _ (List.mem_append_left _ (List.mem_append_left _ (List.mem_append_left _ (List.mem_append_right _ (List.mem_append_right _ (List.mem_append_right _ (List.mem_append_right _ (List.mem_append_left _ (List.mem_of_getElem? (i := 12) rfl))))))))))))))))))) (mem_cA (List.mem_cons_of_mem _ (List.mem_append_left _ (List.mem_append_left _ (List.mem_append_left _ (List.mem_append_left _ (List.mem_append_left _ (List.mem_append_left _ (List.mem_append_left _ (List.mem_append_left _ (List.mem_append_left _ (List.mem_append_left _ (List.mem_append_left _ (List.mem_append_left _ (List.mem_append_right _ (List.mem_append_right _ (List.mem_append_right _ (List.mem_append_right _ (List.mem_append_left _ (List.mem_of_getElem? (i := 13) rfl))))))))))))))))))) mem_cZ)))) (by decide +kernel)) ggX11_startAnew_X0_clear
theorem dX11_startAnew_0 : decode cX11_startAnew 0 = .ok (.aload_n 0, 1) := by decide +kernel
theorem dX11_startAnew_1 : decode cX11_startAnew 1 = .ok (.getfield 21, 3) := by decide +kernel
theorem dX11_startAnew_4 : decode cX11_startAnew 4 = .ok (.aload_n 0, 1) := by decide +kernel
theorem dX11_startAnew_5 : decode cX11_startAnew 5 = .ok (.getfield 30, 3) := by decide +kernel
theorem dX11_startAnew_8 : decode cX11_startAnew 8 = .ok (.getfield 82, 3) := by decide +kernel
theorem dX11_startAnew_11 : decode cX11_startAnew 11 = .ok (.invokevirtual 83, 3) := by decide +kernel
theorem dX11_startAnew_14 : decode cX11_startAnew 14 = .ok (.aload_n 0, 1) := by decide +kernel
theorem dX11_startAnew_15 : decode cX11_startAnew 15 = .ok (.getfield 37, 3) := by decide +kernel
theorem dX11_startAnew_18 : decode cX11_startAnew 18 = .ok (.invokevirtual 87, 3) := by decide +kernel
theorem dX11_startAnew_21 : decode cX11_startAnew 21 = .ok (.aload_n 0, 1) := by decide +kernel
theorem dX11_startAnew_22 : decode cX11_startAnew 22 = .ok (.getfield 46, 3) := by decide +kernel
theorem dX11_startAnew_25 : decode cX11_startAnew 25 = .ok (.invokevirtual 90, 3) := by decide +kernel
theorem dX11_startAnew_28 : decode cX11_startAnew 28 = .ok (.aload_n 0, 1) := by decide +kernel
theorem dX11_startAnew_29 : decode cX11_startAnew 29 = .ok (.getfield 55, 3) := by decide +kernel
theorem dX11_startAnew_32 : decode cX11_startAnew 32 = .ok (.invokevirtual 91, 3) := by decide +kernel
theorem dX11_startAnew_35 : decode cX11_startAnew 35 = .ok (.aload_n 0, 1) := by decide +kernel
theorem dX11_startAnew_36 : decode cX11_startAnew 36 = .ok (.getfield 62, 3) := by decide +kernel
theorem dX11_startAnew_39 : decode cX11_startAnew 39 = .ok (.iconst 0, 1) := by decide +kernel
theorem dX11_startAnew_40 : decode cX11_startAnew 40 = .ok (.putfield 92, 3) := by decide +kernel
theorem dX11_startAnew_43 : decode cX11_startAnew 43 = .ok (.aload_n 0, 1) := by decide +kernel
theorem dX11_startAnew_44 : decode cX11_startAnew 44 = .ok (.getfield 71, 3) := by decide +kernel
theorem dX11_startAnew_47 : decode cX11_startAnew 47 = .ok (.invokevirtual 96, 3) := by decide +kernel
theorem dX11_startAnew_50 : decode cX11_startAnew 50 = .ok (.return_, 1) := by decide +kernel
set_option maxRecDepth 20000 in
theorem ggX11_appendInput_X5_put : GoodIn wsX11_appendInput wsX5_put := goodIn_ca ((goodIn_ca (goodIn_r _ [7, 8, 9] rfl (by decide +kernel)) (goodIn_sub (fun _ h => List.mem_cons_of_mem _ (List.mem_append_left _ (List.mem_append_right _ h))) gw_wsX50))) (goodIn_sub (fun _ h => List.mem_cons_of_mem _ (List.mem_append_right _ h)) (all_fg _))
set_option maxRecDepth 20000 in
theorem gX11_appendInput_X5_put : GoodIn wsX11_appendInput (wsV RX11 100 RX5 yX5_put wsX5_put) := goodIn_app (goodIn_m (mem_cA (List.mem_cons_of_mem _ (List.mem_append_left _ (List.mem_append_left _ (List.mem_append_left _ (List.mem_of_getElem? (i := 2) rfl))))) (mem_cA (List.mem_cons_of_mem _ (List.mem_append_left _ (List.mem_append_left _ (List.mem_append_left _ (List.mem_of_getElem? (i := 3) rfl))))) (mem_cA (List.mem_cons_of_mem _ (List.mem_append_left _ (List.mem_append_left _ (List.mem_append_left _ (List.mem_of_getElem? (i := 4) rfl))))) (mem_cA (List.mem_cons_of_mem _ (List.mem_append_left _ (List.mem_append_left _ (List.mem_append_left _ (List.mem_of_getElem? (i := 5) rfl))))) mem_cZ)))) (by decide +kernel)) ggX11_appendInput_X5_put
theorem dX11_appendInput_0 : decode cX11_appendInput 0 = .ok (.aload_n 0, 1) := by decide +kernel
theorem dX11_appendInput_1 : decode cX11_appendInput 1 = .ok (.getfield 14, 3) := by decide +kernel
theorem dX11_appendInput_4 : decode cX11_appendInput 4 = .ok (.getfield 97, 3) := by decide +kernel
theorem dX11_appendInput_7 : decode cX11_appendInput 7 = .ok (.bipush 20, 2) := by decide +kernel
theorem dX11_appendInput_9 : decode cX11_appendInput 9 = .ok (.iadd, 1) := by decide +kernel
theorem dX11_appendInput_10 : decode cX11_appendInput 10 = .ok (.sipush 700, 3) := by decide +kernel
theorem dX11_appendInput_13 : decode cX11_appendInput 13 = .ok (.if_icmp .le 5, 3) := by decide +kernel
theorem dX11_appendInput_16 : decode cX11_appendInput 16 = .ok (.iconst (-1), 1) := by decide +kernel
theorem dX11_appendInput_17 : decode cX11_appendInput 17 = .ok (.ireturn, 1) := by decide +kernel
theorem dX11_appendInput_18 : decode cX11_appendInput 18 = .ok (.aload_n 0, 1) := by decide +kernel
theorem dX11_appendInput_19 : decode cX11_appendInput 19 = .ok (.getfield 14, 3) := by decide +kernel
theorem dX11_appendInput_22 : decode cX11_appendInput 22 = .ok (.iload_n 1, 1) := by decide +kernel
theorem dX11_appendInput_23 : decode cX11_appendInput 23 = .ok (.i2l, 1) := by decide +kernel
theorem dX11_appendInput_24 : decode cX11_appendInput 24 = .ok (.iconst 4, 1) := by decide +kernel
theorem dX11_appendInput_25 : decode cX11_appendInput 25 = .ok (.invokevirtual 100, 3) := by decide +kernel
theorem dX11_appendInput_28 : decode cX11_appendInput 28 = .ok (.aload_n 0, 1) := by decide +kernel
theorem dX11_appendInput_29 : decode cX11_appendInput 29 = .ok (.getfield 14, 3) := by decide +kernel
theorem dX11_appendInput_32 : decode cX11_appendInput 32 = .ok (.iload_n 2, 1) := by decide +kernel
theorem dX11_appendInput_33 : decode cX11_appendInput 33 = .ok (.i2l, 1) := by decide +kernel
theorem dX11_appendInput_34 : decode cX11_appendInput 34 = .ok (.iconst 4, 1) := by decide +kernel
theorem dX11_appendInput_35 : decode cX11_appendInput 35 = .ok (.invokevirtual 100, 3) := by decide +kernel
theorem dX11_appendInput_38 : decode cX11_appendInput 38 = .ok (.aload_n 0, 1) := by decide +kernel
theorem dX11_appendInput_39 : decode cX11_appendInput 39 = .ok (.getfield 14, 3) := by decide +kernel
theorem dX11_appendInput_42 : decode cX11_appendInput 42 = .ok (.iload_n 3, 1) := by decide +kernel
theorem dX11_appendInput_43 : decode cX11_appendInput 43 = .ok (.i2l, 1) := by decide +kernel
theorem dX11_appendInput_44 : decode cX11_appendInput 44 = .ok (.iconst 4, 1) := by decide +kernel
theorem dX11_appendInput_45 : decode cX11_appendInput 45 = .ok (.invokevirtual 100, 3) := by decide +kernel
theorem dX11_appendInput_48 : decode cX11_appendInput 48 = .ok (.aload_n 0, 1) := by decide +kernel
theorem dX11_appendInput_49 : decode cX11_appendInput 49 = .ok (.getfield 14, 3) := by decide +kernel
theorem dX11_appendInput_52 : decode cX11_appendInput 52 = .ok (.iload 4, 2) := by decide +kernel
theorem dX11_appendInput_54 : decode cX11_appendInput 54 = .ok (.i2l, 1) := by decide +kernel
theorem dX11_appendInput_55 : decode cX11_appendInput 55 = .ok (.iconst 4, 1) := by decide +kernel
theorem dX11_appendInput_56 : decode cX11_appendInput 56 = .ok (.invokevirtual 100, 3) := by decide +kernel
theorem dX11_appendInput_59 : decode cX11_appendInput 59 = .ok (.aload_n 0, 1) := by decide +kernel
theorem dX11_appendInput_60 : decode cX11_appendInput 60 = .ok (.getfield 14, 3) := by decide +kernel
theorem dX11_appendInput_63 : decode cX11_appendInput 63 = .ok (.iload 5, 2) := by decide +kernel
theorem dX11_appendInput_65 : decode cX11_appendInput 65 = .ok (.i2l, 1) := by decide +kernel
theorem dX11_appendInput_66 : decode cX11_appendInput 66 = .ok (.iconst 4, 1) := by decide +kernel
theorem dX11_appendInput_67 : decode cX11_appendInput 67 = .ok (.invokevirtual 100, 3) := by decide +kernel
theorem dX11_appendInput_70 : decode cX11_appendInput 70 = .ok (.aload_n 0, 1) := by decide +kernel
theorem dX11_appendInput_71 : decode cX11_appendInput 71 = .ok (.getfield 14, 3) := by decide +kernel
theorem dX11_appendInput_74 : decode cX11_appendInput 74 = .ok (.getfield 97, 3) := by decide +kernel
theorem dX11_appendInput_77 : decode cX11_appendInput 77 = .ok (.ireturn, 1) := by decide +kernel
theorem dX11_errorCode_0 : decode cX11_errorCode 0 = .ok (.aload_n 0, 1) := by decide +kernel
theorem dX11_errorCode_1 : decode cX11_errorCode 1 = .ok (.getfield 30, 3) := by decide +kernel
theorem dX11_errorCode_4 : decode cX11_errorCode 4 = .ok (.getfield 104, 3) := by decide +kernel
theorem dX11_errorCode_7 : decode cX11_errorCode 7 = .ok (.ireturn, 1) := by decide +kernel
theorem dX11_errorPosition_0 : decode cX11_errorPosition 0 = .ok (.aload_n 0, 1) := by decide +kernel
theorem dX11_errorPosition_1 : decode cX11_errorPosition 1 = .ok (.getfield 30, 3) := by decide +kernel
theorem dX11_errorPosition_4 : decode cX11_errorPosition 4 = .ok (.getfield 107, 3) := by decide +kernel
theorem dX11_errorPosition_7 : decode cX11_errorPosition 7 = .ok (.ireturn, 1) := by decide +kernel
theorem dX11_now_0 : decode cX11_now 0 = .ok (.aload_n 0, 1) := by decide +kernel
theorem dX11_now_1 : decode cX11_now 1 = .ok (.getfield 55, 3) := by decide +kernel
theorem dX11_now_4 : decode cX11_now 4 = .ok (.getfield 110, 3) := by decide +kernel
theorem dX11_now_7 : decode cX11_now 7 = .ok (.ireturn, 1) := by decide +kernel
set_option maxRecDepth 20000 in
theorem ggX11_flush_X2_exportAllAndSend : GoodIn wsX11_flush wsX2_exportAllAndSend := goodIn_ca (goodIn_ca ((goodIn_ca (goodIn_ca (goodIn_ca (goodIn_ca (goodIn_ca (goodIn_ca (goodIn_ca (goodIn_ca (goodIn_r _ [6, 7, 8, 9, 10, 11, 12, 13, 5, 14, 15, 16, 17, 18, 19, 20, 21, 22, 23, 24, 25, 26, 27, 28, 29, 30, 31, 32, 33, 34, 35, 36, 37, 38, 39, 40, 41, 42, 43, 44, 45, 46, 47, 48, 49, 50, 51, 52, 53, 54, 55, 56, 57, 58, 59, 60, 61, 62, 63, 64, 65, 66, 67, 68, 69, 70, 71, 72, 73, 74, 75, 76, 77, 78, 79, 80, 81, 82, 83, 84, 85, 86, 87, 88, 89, 90, 91, 92, 93, 94, 95, 96, 97, 98, 99, 100, 101, 102, 103, 104, 105, 106, 107, 108, 109, 110, 111, 112, 113, 114, 115, 116, 117, 118, 119, 120, 121, 122, 123, 124, 125, 126, 127, 128, 129, 130, 131, 132, 133, 134, 135, 136, 137, 138, 139, 140, 141, 142, 143, 144, 145, 146, 147, 148, 149, 150, 151, 152, 153, 154, 155, 156, 157, 158, 159, 160, 161, 162, 163, 164, 165, 166, 167, 168, 169, 170, 171, 172] rfl (by decide +kernel)) (goodIn_sub (fun _ h => List.mem_cons_of_mem _ (List.mem_append_left _ (List.mem_append_left _ (List.mem_append_left _ (List.mem_append_left _ (List.mem_append_left _ (List.mem_append_left _ (List.mem_append_left _ (List.mem_append_left _ (List.mem_append_left _ (List.mem_append_right _ h))))))))))) gw_wsX20)) (goodIn_sub (fun _ h => List.mem_cons_of_mem _ (List.mem_append_left _ (List.mem_append_left _ (List.mem_append_left _ (List.mem_append_left _ (List.mem_append_left _ (List.mem_append_left _ (List.mem_append_left _ (List.mem_append_left _ (List.mem_append_right _ h)))))))))) gw_wsX40)) (goodIn_sub (fun _ h => List.mem_cons_of_mem _ (List.mem_append_left _ (List.mem_append_left _ (List.mem_append_left _ (List.mem_append_left _ (List.mem_append_left _ (List.mem_append_left _ (List.mem_append_left _ (List.mem_append_right _ h))))))))) gw_wsX30)) (goodIn_sub (fun _ h => List.mem_cons_of_mem _ (List.mem_append_left _ (List.mem_append_left _ (List.mem_append_left _ (List.mem_append_left _ (List.mem_append_left _ (List.mem_append_left _ (List.mem_append_right _ h)))))))) gw_wsX100)) (goodIn_sub (fun _ h => List.mem_cons_of_mem _ (List.mem_append_left _ (List.mem_append_left _ (List.mem_append_left _ (List.mem_append_left _ (List.mem_append_left _ (List.mem_append_right _ h))))))) gw_wsX10)) (goodIn_sub (fun _ h => List.mem_cons_of_mem _ (List.mem_append_left _ (List.mem_append_left _ (List.mem_append_left _ (List.mem_append_left _ (List.mem_append_right _ h)))))) gw_wsX80)) (goodIn_sub (fun _ h => List.mem_cons_of_mem _ (List.mem_append_left _ (List.mem_append_left _ (List.mem_append_left _ (List.mem_append_right _ h))))) gw_wsX50)) (goodIn_sub (fun _ h => List.mem_cons_of_mem _ (List.mem_append_left _ (List.mem_append_left _ (List.mem_append_right _ h)))) gw_wsX70))) (goodIn_sub (fun _ h => List.mem_cons_of_mem _ (List.mem_append_left _ (List.mem_append_right _ h))) (all_fg _))) (goodIn_sub (fun _ h => List.mem_cons_of_mem _ (List.mem_append_right _ h)) (all_fg _))
set_option maxRecDepth 20000 in
theorem gX11_flush_X2_exportAllAndSend : GoodIn wsX11_flush (wsV RX11 143 RX2 yX2_exportAllAndSend wsX2_exportAllAndSend) := goodIn_app (goodIn_m (mem_cA (List.mem_cons_of_mem _ (List.mem_append_left _ (List.mem_append_left _ (List.mem_append_left _ (List.mem_append_left _ (List.mem_append_left _ (List.mem_append_left _ (List.mem_append_left _ (List.mem_append_left _ (List.mem_append_left _ (List.mem_append_left _ (List.mem_append_left _ (List.mem_append_left _ (List.mem_of_getElem? (i := 1) rfl)))))))))))))) (mem_cA (List.mem_cons_of_mem _ (List.mem_append_left _ (List.mem_append_left _ (List.mem_append_left _ (List.mem_append_left _ (List.mem_append_left _ (List.mem_append_left _ (List.mem_append_left _ (List.mem_append_left _ (List.mem_append_left _ (List.mem_append_left _ (List.mem_append_left _ (List.mem_append_left _ (List.mem_of_getElem? (i := 2) rfl)))))))))))))) (mem_cA (List.mem_cons_of_mem _ (List.mem_append_left _ (List.mem_append_left _ (List.mem_append_left _ (List.mem_append_left _ (List.mem_append_left _ (List.mem_append_left _ (List.mem_append_left _ (List.mem_append_left _ (List.mem_append_left _ (List.mem_append_left _ (List.mem_append_left _ (List.mem_append_left _ (List.mem_of_getElem? (i := 3) rfl)))))))))))))) (mem_cA (List.mem_cons_of_mem _ (List.mem_append_left _ (List.mem_append_left _ (List.mem_append_left _ (List.mem_append_left _ (List.mem_append_left _ (List.mem_append_left _ (List.mem_append_left _ (List.mem_append_left _ (List.mem_append_left _ (List.mem_append_left _ (List.mem_append_left _ (List.mem_append_left _ (List.mem_of_getElem? (i := 4) rfl)))))))))))))) mem_cZ)))) (by decide +kernel)) ggX11_flush_X2_exportAllAndSend
theorem dX11_flush_0 : decode cX11_flush 0 = .ok (.aload_n 0, 1) := by decide +kernel
theorem dX11_flush_1 : decode cX11_flush 1 = .ok (.getfield 55, 3) := by decide +kernel
theorem dX11_flush_4 : decode cX11_flush 4 = .ok (.invokevirtual 143, 3) := by decide +kernel
theorem dX11_flush_7 : decode cX11_flush 7 = .ok (.ireturn, 1) := by decide +kernel
theorem dX11_cacheSize_0 : decode cX11_cacheSize 0 = .ok (.aload_n 0, 1) := by decide +kernel
theorem dX11_cacheSize_1 : decode cX11_cacheSize 1 = .ok (.getfield 55, 3) := by decide +kernel
theorem dX11_cacheSize_4 : decode cX11_cacheSize 4 = .ok (.getfield 146, 3) := by decide +kernel
theorem dX11_cacheSize_7 : decode cX11_cacheSize 7 = .ok (.getfield 150, 3) := by decide +kernel
theorem dX11_cacheSize_10 : decode cX11_cacheSize 10 = .ok (.ireturn, 1) := by decide +kernel
theorem dX11_rate_0 : decode cX11_rate 0 = .ok (.aload_n 0, 1) := by decide +kernel
theorem dX11_rate_1 : decode cX11_rate 1 = .ok (.getfield 55, 3) := by decide +kernel
theorem dX11_rate_4 : decode cX11_rate 4 = .ok (.getfield 164, 3) := by decide +kernel
theorem dX11_rate_7 : decode cX11_rate 7 = .ok (.ireturn, 1) := by decide +kernel
set_option maxRecDepth 20000 in
theorem ggX11_rateBits_X2_bitsOfInverse : GoodIn wsX11_rateBits wsX2_bitsOfInverse := goodIn_ca ((goodIn_r _ [6, 7] rfl (by decide +kernel))) (goodIn_sub (fun _ h => List.mem_cons_of_mem _ (List.mem_append_right _ h)) (all_fg _))
set_option maxRecDepth 20000 in
theorem gX11_rateBits_X2_bitsOfInverse : GoodIn wsX11_rateBits (va_wsS RX11 167 yX2_bitsOfInverse wsX2_bitsOfInverse) := goodIn_app (goodIn_m (mem_cA (List.mem_cons_of_mem _ (List.mem_append_left _ (List.mem_append_left _ (List.mem_append_left _ (List.mem_of_getElem? (i := 2) rfl))))) (mem_cA (List.mem_cons_of_mem _ (List.mem_append_left _ (List.mem_append_left _ (List.mem_append_left _ (List.mem_of_getElem? (i := 3) rfl))))) (mem_cA (List.mem_cons_of_mem _ (List.mem_append_left _ (List.mem_append_left _ (List.mem_append_left _ (List.mem_of_getElem? (i := 4) rfl))))) mem_cZ))) (by decide +kernel)) ggX11_rateBits_X2_bitsOfInverse
theorem dX11_rateBits_0 : decode cX11_rateBits 0 = .ok (.aload_n 0, 1) := by decide +kernel
theorem dX11_rateBits_1 : decode cX11_rateBits 1 = .ok (.getfield 55, 3) := by decide +kernel
theorem dX11_rateBits_4 : decode cX11_rateBits 4 = .ok (.getfield 164, 3) := by decide +kernel
theorem dX11_rateBits_7 : decode cX11_rateBits 7 = .ok (.invokestatic 167, 3) := by decide +kernel
theorem dX11_rateBits_10 : decode cX11_rateBits 10 = .ok (.ireturn, 1) := by decide +kernel
set_option maxRecDepth 20000 in
theorem ggX11_restartExporter_X8_restart : GoodIn wsX11_restartExporter wsX8_restart := (goodIn_ca (goodIn_ca (goodIn_r _ [9, 10, 11, 12, 13, 8, 14, 15, 16, 17, 18, 19, 20, 21, 22, 23, 24, 25, 26] rfl (by decide +kernel)) (goodIn_sub (fun _ h => List.mem_cons_of_mem _ (List.mem_append_left _ (List.mem_append_right _ h))) gw_wsX80)) (goodIn_sub (fun _ h => List.mem_cons_of_mem _ (List.mem_append_right _ h)) gw_wsX50))
set_option maxRecDepth 20000 in
theorem gX11_restartExporter_X8_restart : GoodIn wsX11_restartExporter (wsV RX11 178 RX8 yX8_restart wsX8_restart) := goodIn_app (goodIn_m (mem_cA (List.mem_cons_of_mem _ (List.mem_append_left _ (List.mem_append_left _ (List.mem_append_left _ (List.mem_append_left _ (List.mem_append_left _ (List.mem_append_left _ (List.mem_of_getElem? (i := 4) rfl)))))))) (mem_cA (List.mem_cons_of_mem _ (List.mem_append_left _ (List.mem_append_left _ (List.mem_append_left _ (List.mem_append_left _ (List.mem_append_left _ (List.mem_append_left _ (List.mem_of_getElem? (i := 5) rfl)))))))) (mem_cA (List.mem_cons_of_mem _ (List.mem_append_left _ (List.mem_append_left _ (List.mem_append_left _ (List.mem_append_left _ (List.mem_append_left _ (List.mem_append_left _ (List.mem_of_getElem? (i := 6) rfl)))))))) (mem_cA (List.mem_cons_of_mem _ (List.mem_append_left _ (List.mem_append_left _ (List.mem_append_left _ (List.mem_append_left _ (List.mem_append_left _ (List.mem_append_left _ (List.mem_of_getElem? (i := 7) rfl)))))))) mem_cZ)))) (by decide +kernel)) ggX11_restartExporter_X8_restart
theorem dX11_restartExporter_0 : decode cX11_restartExporter 0 = .ok (.aload_n 0, 1) := by decide +kernel
theorem dX11_restartExporter_1 : decode cX11_restartExporter 1 = .ok (.getfield 55, 3) := by decide +kernel
theorem dX11_restartExporter_4 : decode cX11_restartExporter 4 = .ok (.getfield 146, 3) := by decide +kernel
theorem dX11_restartExporter_7 : decode cX11_restartExporter 7 = .ok (.getfield 150, 3) := by decide +kernel
theorem dX11_restartExporter_10 : decode cX11_restartExporter 10 = .ok (.istore_n 1, 1) := by decide +kernel
theorem dX11_restartExporter_11 : decode cX11_restartExporter 11 = .ok (.aload_n 0, 1) := by decide +kernel
theorem dX11_restartExporter_12 : decode cX11_restartExporter 12 = .ok (.getfield 55, 3) := by decide +kernel
theorem dX11_restartExporter_15 : decode cX11_restartExporter 15 = .ok (.getfield 146, 3) := by decide +kernel
theorem dX11_restartExporter_18 : decode cX11_restartExporter 18 = .ok (.iconst 0, 1) := by decide +kernel
theorem dX11_restartExporter_19 : decode cX11_restartExporter 19 = .ok (.putfield 150, 3) := by decide +kernel
theorem dX11_restartExporter_22 : decode cX11_restartExporter 22 = .ok (.aload_n 0, 1) := by decide +kernel
theorem dX11_restartExporter_23 : decode cX11_restartExporter 23 = .ok (.getfield 46, 3) := by decide +kernel
theorem dX11_restartExporter_26 : decode cX11_restartExporter 26 = .ok (.invokevirtual 178, 3) := by decide +kernel
theorem dX11_restartExporter_29 : decode cX11_restartExporter 29 = .ok (.iload_n 1, 1) := by decide +kernel
theorem dX11_restartExporter_30 : decode cX11_restartExporter 30 = .ok (.ireturn, 1) := by decide +kernel
theorem dX11_observed_0 : decode cX11_observed 0 = .ok (.aload_n 0, 1) := by decide +kernel
theorem dX11_observed_1 : decode cX11_observed 1 = .ok (.getfield 55, 3) := by decide +kernel
theorem dX11_observed_4 : decode cX11_observed 4 = .ok (.getfield 181, 3) := by decide +kernel
theorem dX11_observed_7 : decode cX11_observed 7 = .ok (.lreturn, 1) := by decide +kernel
theorem dX11_sampled_0 : decode cX11_sampled 0 = .ok (.aload_n 0, 1) := by decide +kernel
theorem dX11_sampled_1 : decode cX11_sampled 1 = .ok (.getfield 55, 3) := by decide +kernel
theorem dX11_sampled_4 : decode cX11_sampled 4 = .ok (.getfield 185, 3) := by decide +kernel
theorem dX11_sampled_7 : decode cX11_sampled 7 = .ok (.lreturn, 1) := by decide +kernel
theorem dX11_unsent_0 : decode cX11_unsent 0 = .ok (.aload_n 0, 1) := by decide +kernel
theorem dX11_unsent_1 : decode cX11_unsent 1 = .ok (.getfield 55, 3) := by decide +kernel
theorem dX11_unsent_4 : decode cX11_unsent 4 = .ok (.getfield 188, 3) := by decide +kernel
theorem dX11_unsent_7 : decode cX11_unsent 7 = .ok (.lreturn, 1) := by decide +kernel
set_option maxRecDepth 20000 in
theorem ggX11_requestTemplates_X8_forgetTemplates : GoodIn wsX11_requestTemplates wsX8_forgetTemplates := (goodIn_ca (goodIn_r _ [6, 7, 8, 9, 10, 11] rfl (by decide +kernel)) (goodIn_sub (fun _ h => List.mem_cons_of_mem _ (List.mem_append_right _ h)) gw_wsX80))
set_option maxRecDepth 20000 in
theorem gX11_requestTemplates_X8_forgetTemplates : GoodIn wsX11_requestTemplates (wsV RX11 224 RX8 yX8_forgetTemplates wsX8_forgetTemplates) := goodIn_app (goodIn_m (mem_cA (List.mem_cons_of_mem _ (List.mem_append_left _ (List.mem_append_left _ (List.mem_of_getElem? (i := 1) rfl)))) (mem_cA (List.mem_cons_of_mem _ (List.mem_append_left _ (List.mem_append_left _ (List.mem_of_getElem? (i := 2) rfl)))) (mem_cA (List.mem_cons_of_mem _ (List.mem_append_left _ (List.mem_append_left _ (List.mem_of_getElem? (i := 3) rfl)))) (mem_cA (List.mem_cons_of_mem _ (List.mem_append_left _ (List.mem_append_left _ (List.mem_of_getElem? (i := 4) rfl)))) mem_cZ)))) (by decide +kernel)) ggX11_requestTemplates_X8_forgetTemplates
theorem dX11_requestTemplates_0 : decode cX11_requestTemplates 0 = .ok (.aload_n 0, 1) := by decide +kernel
theorem dX11_requestTemplates_1 : decode cX11_requestTemplates 1 = .ok (.getfield 46, 3) := by decide +kernel
theorem dX11_requestTemplates_4 : decode cX11_requestTemplates 4 = .ok (.invokevirtual 224, 3) := by decide +kernel
theorem dX11_requestTemplates_7 : decode cX11_requestTemplates 7 = .ok (.return_, 1) := by decide +kernel
theorem dX11_sent_0 : decode cX11_sent 0 = .ok (.aload_n 0, 1) := by decide +kernel
theorem dX11_sent_1 : decode cX11_sent 1 = .ok (.getfield 46, 3) := by decide +kernel
theorem dX11_sent_4 : decode cX11_sent 4 = .ok (.getfield 232, 3) := by decide +kernel
theorem dX11_sent_7 : decode cX11_sent 7 = .ok (.lreturn, 1) := by decide +kernel
theorem dX11_dropped_0 : decode cX11_dropped 0 = .ok (.aload_n 0, 1) := by decide +kernel
theorem dX11_dropped_1 : decode cX11_dropped 1 = .ok (.getfield 37, 3) := by decide +kernel
theorem dX11_dropped_4 : decode cX11_dropped 4 = .ok (.getfield 235, 3) := by decide +kernel
theorem dX11_dropped_7 : decode cX11_dropped 7 = .ok (.ireturn, 1) := by decide +kernel
theorem dX11_sequence_0 : decode cX11_sequence 0 = .ok (.aload_n 0, 1) := by decide +kernel
theorem dX11_sequence_1 : decode cX11_sequence 1 = .ok (.getfield 46, 3) := by decide +kernel
theorem dX11_sequence_4 : decode cX11_sequence 4 = .ok (.getfield 238, 3) := by decide +kernel
theorem dX11_sequence_7 : decode cX11_sequence 7 = .ok (.i2l, 1) := by decide +kernel
theorem dX11_sequence_8 : decode cX11_sequence 8 = .ok (.ldc2_w 241, 3) := by decide +kernel
theorem dX11_sequence_11 : decode cX11_sequence 11 = .ok (.land, 1) := by decide +kernel
theorem dX11_sequence_12 : decode cX11_sequence 12 = .ok (.lreturn, 1) := by decide +kernel
theorem dX11_queueLength_0 : decode cX11_queueLength 0 = .ok (.aload_n 0, 1) := by decide +kernel
theorem dX11_queueLength_1 : decode cX11_queueLength 1 = .ok (.getfield 37, 3) := by decide +kernel
theorem dX11_queueLength_4 : decode cX11_queueLength 4 = .ok (.getfield 231, 3) := by decide +kernel
theorem dX11_queueLength_7 : decode cX11_queueLength 7 = .ok (.ireturn, 1) := by decide +kernel
set_option maxRecDepth 20000 in
theorem ggX11_knownTemplates_X0_usableTemplates : GoodIn wsX11_knownTemplates wsX0_usableTemplates := goodIn_ca ((goodIn_ca (goodIn_ca (goodIn_ca (goodIn_r _ [8, 9, 10, 11, 7, 12, 13, 14, 15, 16, 17, 18, 19, 20, 21, 22, 23, 24, 25, 26] rfl (by decide +kernel)) (goodIn_sub (fun _ h => List.mem_cons_of_mem _ (List.mem_append_left _ (List.mem_append_left _ (List.mem_append_left _ (List.mem_append_right _ h))))) gw_wsX00)) (goodIn_sub (fun _ h => List.mem_cons_of_mem _ (List.mem_append_left _ (List.mem_append_left _ (List.mem_append_right _ h)))) gw_wsX100)) (goodIn_sub (fun _ h => List.mem_cons_of_mem _ (List.mem_append_left _ (List.mem_append_right _ h))) gw_wsX10))) (goodIn_sub (fun _ h => List.mem_cons_of_mem _ (List.mem_append_right _ h)) (all_fg _))
set_option maxRecDepth 20000 in
theorem gX11_knownTemplates_X0_usableTemplates : GoodIn wsX11_knownTemplates (wsV RX11 275 RX0 yX0_usableTemplates wsX0_usableTemplates) := goodIn_app (goodIn_m (mem_cA (List.mem_cons_of_mem _ (List.mem_append_left _ (List.mem_append_left _ (List.mem_append_left _ (List.mem_append_left _ (List.mem_append_left _ (List.mem_append_left _ (List.mem_append_left _ (List.mem_of_getElem? (i := 3) rfl))))))))) (mem_cA (List.mem_cons_of_mem _ (List.mem_append_left _ (List.mem_append_left _ (List.mem_append_left _ (List.mem_append_left _ (List.mem_append_left _ (List.mem_append_left _ (List.mem_append_left _ (List.mem_of_getElem? (i := 4) rfl))))))))) (mem_cA (List.mem_cons_of_mem _ (List.mem_append_left _ (List.mem_append_left _ (List.mem_append_left _ (List.mem_append_left _ (List.mem_append_left _ (List.mem_append_left _ (List.mem_append_left _ (List.mem_of_getElem? (i := 5) rfl))))))))) (mem_cA (List.mem_cons_of_mem _ (List.mem_append_left _ (List.mem_append_left _ (List.mem_append_left _ (List.mem_append_left _ (List.mem_append_left _ (List.mem_append_left _ (List.mem_append_left _ (List.mem_of_getElem? (i := 6) rfl))))))))) mem_cZ)))) (by decide +kernel)) ggX11_knownTemplates_X0_usableTemplates
theorem dX11_knownTemplates_0 : decode cX11_knownTemplates 0 = .ok (.aload_n 0, 1) := by decide +kernel
theorem dX11_knownTemplates_1 : decode cX11_knownTemplates 1 = .ok (.getfield 71, 3) := by decide +kernel
theorem dX11_knownTemplates_4 : decode cX11_knownTemplates 4 = .ok (.aload_n 0, 1) := by decide +kernel
theorem dX11_knownTemplates_5 : decode cX11_knownTemplates 5 = .ok (.getfield 55, 3) := by decide +kernel
theorem dX11_knownTemplates_8 : decode cX11_knownTemplates 8 = .ok (.getfield 110, 3) := by decide +kernel
theorem dX11_knownTemplates_11 : decode cX11_knownTemplates 11 = .ok (.invokevirtual 275, 3) := by decide +kernel
theorem dX11_knownTemplates_14 : decode cX11_knownTemplates 14 = .ok (.ireturn, 1) := by decide +kernel
set_option maxRecDepth 20000 in
theorem ggX11_expected_X0_hasStarted : GoodIn wsX11_expected wsX0_hasStarted := (goodIn_ca (goodIn_r _ [9, 10] rfl (by decide +kernel)) (goodIn_sub (fun _ h => List.mem_cons_of_mem _ (List.mem_append_right _ h)) gw_wsX00))
set_option maxRecDepth 20000 in
theorem gX11_expected_X0_hasStarted : GoodIn wsX11_expected (wsV RX11 282 RX0 yX0_hasStarted wsX0_hasStarted) := goodIn_app (goodIn_m (mem_cA (List.mem_cons_of_mem _ (List.mem_append_left _ (List.mem_append_left _ (List.mem_of_getElem? (i := 4) rfl)))) (mem_cA (List.mem_cons_of_mem _ (List.mem_append_left _ (List.mem_append_left _ (List.mem_of_getElem? (i := 5) rfl)))) (mem_cA (List.mem_cons_of_mem _ (List.mem_append_left _ (List.mem_append_left _ (List.mem_of_getElem? (i := 6) rfl)))) (mem_cA (List.mem_cons_of_mem _ (List.mem_append_left _ (List.mem_append_left _ (List.mem_of_getElem? (i := 7) rfl)))) mem_cZ)))) (by decide +kernel)) ggX11_expected_X0_hasStarted
theorem dX11_expected_0 : decode cX11_expected 0 = .ok (.aload_n 0, 1) := by decide +kernel
theorem dX11_expected_1 : decode cX11_expected 1 = .ok (.getfield 71, 3) := by decide +kernel
theorem dX11_expected_4 : decode cX11_expected 4 = .ok (.invokevirtual 282, 3) := by decide +kernel
theorem dX11_expected_7 : decode cX11_expected 7 = .ok (.ifCond .eq 18, 3) := by decide +kernel
theorem dX11_expected_10 : decode cX11_expected 10 = .ok (.aload_n 0, 1) := by decide +kernel
theorem dX11_expected_11 : decode cX11_expected 11 = .ok (.getfield 71, 3) := by decide +kernel
theorem dX11_expected_14 : decode cX11_expected 14 = .ok (.getfield 286, 3) := by decide +kernel
theorem dX11_expected_17 : decode cX11_expected 17 = .ok (.i2l, 1) := by decide +kernel
theorem dX11_expected_18 : decode cX11_expected 18 = .ok (.ldc2_w 241, 3) := by decide +kernel
theorem dX11_expected_21 : decode cX11_expected 21 = .ok (.land, 1) := by decide +kernel
theorem dX11_expected_22 : decode cX11_expected 22 = .ok (.goto 6, 3) := by decide +kernel
theorem dX11_expected_25 : decode cX11_expected 25 = .ok (.ldc2_w 113, 3) := by decide +kernel
theorem dX11_expected_28 : decode cX11_expected 28 = .ok (.lreturn, 1) := by decide +kernel
set_option maxRecDepth 20000 in
theorem ggX11_restartCollector_X0_restart : GoodIn wsX11_restartCollector wsX0_restart := (goodIn_ca (goodIn_ca (goodIn_r _ [6, 7, 8, 9, 10, 11, 12, 13, 14, 15, 16, 17] rfl (by decide +kernel)) (goodIn_sub (fun _ h => List.mem_cons_of_mem _ (List.mem_append_left _ (List.mem_append_right _ h))) gw_wsX00)) (goodIn_sub (fun _ h => List.mem_cons_of_mem _ (List.mem_append_right _ h)) gw_wsX100))
set_option maxRecDepth 20000 in
theorem gX11_restartCollector_X0_restart : GoodIn wsX11_restartCollector (wsV RX11 296 RX0 yX0_restart wsX0_restart) := goodIn_app (goodIn_m (mem_cA (List.mem_cons_of_mem _ (List.mem_append_left _ (List.mem_append_left _ (List.mem_append_left _ (List.mem_of_getElem? (i := 1) rfl))))) (mem_cA (List.mem_cons_of_mem _ (List.mem_append_left _ (List.mem_append_left _ (List.mem_append_left _ (List.mem_of_getElem? (i := 2) rfl))))) (mem_cA (List.mem_cons_of_mem _ (List.mem_append_left _ (List.mem_append_left _ (List.mem_append_left _ (List.mem_of_getElem? (i := 3) rfl))))) (mem_cA (List.mem_cons_of_mem _ (List.mem_append_left _ (List.mem_append_left _ (List.mem_append_left _ (List.mem_of_getElem? (i := 4) rfl))))) mem_cZ)))) (by decide +kernel)) ggX11_restartCollector_X0_restart
theorem dX11_restartCollector_0 : decode cX11_restartCollector 0 = .ok (.aload_n 0, 1) := by decide +kernel
theorem dX11_restartCollector_1 : decode cX11_restartCollector 1 = .ok (.getfield 71, 3) := by decide +kernel
theorem dX11_restartCollector_4 : decode cX11_restartCollector 4 = .ok (.invokevirtual 296, 3) := by decide +kernel
theorem dX11_restartCollector_7 : decode cX11_restartCollector 7 = .ok (.ireturn, 1) := by decide +kernel
theorem dX11_keyCount_0 : decode cX11_keyCount 0 = .ok (.aload_n 0, 1) := by decide +kernel
theorem dX11_keyCount_1 : decode cX11_keyCount 1 = .ok (.getfield 62, 3) := by decide +kernel
theorem dX11_keyCount_4 : decode cX11_keyCount 4 = .ok (.getfield 92, 3) := by decide +kernel
theorem dX11_keyCount_7 : decode cX11_keyCount 7 = .ok (.ireturn, 1) := by decide +kernel
theorem hu_X11_startAnew_X11 : ∀ w ∈ u_ws RX11 TX11 8, w ∈ wsX11_startAnew := fun _ h => List.mem_cons_of_mem _ (List.mem_append_left _ (List.mem_append_left _ (List.mem_append_left _ (List.mem_append_left _ (List.mem_append_left _ (List.mem_append_left _ (List.mem_append_left _ (List.mem_append_left _ (List.mem_append_left _ (List.mem_append_left _ (List.mem_append_left _ (List.mem_append_right _ (h)))))))))))))

theorem hv_X11_startAnew_21 : Cond.fieldLink RX11 21 "FlowExporter" (TX11 1).2.1 (TX11 1).2.2.1 ∈ wsX11_startAnew := List.mem_cons_of_mem _ (List.mem_append_left _ (List.mem_append_left _ (List.mem_append_left _ (List.mem_append_left _ (List.mem_append_left _ (List.mem_append_left _ (List.mem_append_left _ (List.mem_append_left _ (List.mem_append_left _ (List.mem_append_left _ (List.mem_append_left _ (List.mem_append_left _ (List.mem_append_left _ (List.mem_of_getElem? (i := 0) rfl))))))))))))))

theorem hv_X11_startAnew_30 : Cond.fieldLink RX11 30 "FlowExporter" (TX11 2).2.1 (TX11 2).2.2.1 ∈ wsX11_startAnew := List.mem_cons_of_mem _ (List.mem_append_left _ (List.mem_append_left _ (List.mem_append_left _ (List.mem_append_left _ (List.mem_append_left _ (List.mem_append_left _ (List.mem_append_left _ (List.mem_append_left _ (List.mem_append_left _ (List.mem_append_left _ (List.mem_append_left _ (List.mem_append_left _ (List.mem_append_left _ (List.mem_of_getElem? (i := 1) rfl))))))))))))))

theorem hu_X11_startAnew_X6 : ∀ w ∈ u_ws RX6 TX6 8, w ∈ wsX11_startAnew := fun _ h => List.mem_cons_of_mem _ (List.mem_append_left _ (List.mem_append_left _ (List.mem_append_left _ (List.mem_append_left _ (List.mem_append_left _ (List.mem_append_left _ (List.mem_append_left _ (List.mem_append_left _ (List.mem_append_left _ (List.mem_append_left _ (List.mem_append_right _ (h))))))))))))

theorem hv_X11_startAnew_82 : Cond.fieldLink RX11 82 "FlowExporter$Parser" (TX6 0).2.1 (TX6 0).2.2.1 ∈ wsX11_startAnew := List.mem_cons_of_mem _ (List.mem_append_left _ (List.mem_append_left _ (List.mem_append_left _ (List.mem_append_left _ (List.mem_append_left _ (List.mem_append_left _ (List.mem_append_left _ (List.mem_append_left _ (List.mem_append_left _ (List.mem_append_left _ (List.mem_append_left _ (List.mem_append_left _ (List.mem_append_left _ (List.mem_of_getElem? (i := 2) rfl))))))))))))))

theorem fq_386 {x : Nat} : ∀ j9 : Nat, x = x + j9 → (3 ≤ j9 ∧ j9 < 24) → False := by
  intro j9 h1 h2
  omega

theorem hv_X11_startAnew_37 : Cond.fieldLink RX11 37 "FlowExporter" (TX11 3).2.1 (TX11 3).2.2.1 ∈ wsX11_startAnew := List.mem_cons_of_mem _ (List.mem_append_left _ (List.mem_append_left _ (List.mem_append_left _ (List.mem_append_left _ (List.mem_append_left _ (List.mem_append_left _ (List.mem_append_left _ (List.mem_append_left _ (List.mem_append_left _ (List.mem_append_left _ (List.mem_append_left _ (List.mem_append_left _ (List.mem_append_left _ (List.mem_of_getElem? (i := 3) rfl))))))))))))))

theorem fq_388 {x : Nat} : ∀ j9 : Nat, x = x + j9 → (j9 = 46) → False := by
  intro j9 h1 h2
  omega

theorem hv_X11_startAnew_46 : Cond.fieldLink RX11 46 "FlowExporter" (TX11 4).2.1 (TX11 4).2.2.1 ∈ wsX11_startAnew := List.mem_cons_of_mem _ (List.mem_append_left _ (List.mem_append_left _ (List.mem_append_left _ (List.mem_append_left _ (List.mem_append_left _ (List.mem_append_left _ (List.mem_append_left _ (List.mem_append_left _ (List.mem_append_left _ (List.mem_append_left _ (List.mem_append_left _ (List.mem_append_left _ (List.mem_append_left _ (List.mem_of_getElem? (i := 4) rfl))))))))))))))

theorem fq_390 {x : Nat} : ∀ j9 : Nat, x = x + j9 → (74 ≤ j9 ∧ j9 < 80) → False := by
  intro j9 h1 h2
  omega

theorem hv_X11_startAnew_55 : Cond.fieldLink RX11 55 "FlowExporter" (TX11 5).2.1 (TX11 5).2.2.1 ∈ wsX11_startAnew := List.mem_cons_of_mem _ (List.mem_append_left _ (List.mem_append_left _ (List.mem_append_left _ (List.mem_append_left _ (List.mem_append_left _ (List.mem_append_left _ (List.mem_append_left _ (List.mem_append_left _ (List.mem_append_left _ (List.mem_append_left _ (List.mem_append_left _ (List.mem_append_left _ (List.mem_append_left _ (List.mem_of_getElem? (i := 5) rfl))))))))))))))

theorem fq_392 {x : Nat} : ∀ j9 : Nat, x + 80 = x + j9 → (3 ≤ j9 ∧ j9 < 24) → False := by
  intro j9 h1 h2
  omega

theorem fq_393 {x : Nat} : ∀ j9 : Nat, x + 80 = x + j9 → (j9 = 46) → False := by
  intro j9 h1 h2
  omega

theorem fq_394 {x : Nat} : ∀ j9 : Nat, x + 80 = x + j9 → (74 ≤ j9 ∧ j9 < 80) → False := by
  intro j9 h1 h2
  omega

theorem fq_395 {x : Nat} : ∀ j9 : Nat, x = x + j9 → (j9 = 80 ∨ j9 = 81 ∨ j9 = 95) → False := by
  intro j9 h1 h2
  omega

theorem hv_X11_startAnew_62 : Cond.fieldLink RX11 62 "FlowExporter" (TX11 7).2.1 (TX11 7).2.2.1 ∈ wsX11_startAnew := List.mem_cons_of_mem _ (List.mem_append_left _ (List.mem_append_left _ (List.mem_append_left _ (List.mem_append_left _ (List.mem_append_left _ (List.mem_append_left _ (List.mem_append_left _ (List.mem_append_left _ (List.mem_append_left _ (List.mem_append_left _ (List.mem_append_left _ (List.mem_append_left _ (List.mem_append_left _ (List.mem_of_getElem? (i := 6) rfl))))))))))))))

theorem hu_X11_startAnew_X9 : ∀ w ∈ u_ws RX9 TX9 5, w ∈ wsX11_startAnew := fun _ h => List.mem_cons_of_mem _ (List.mem_append_left _ (List.mem_append_left _ (List.mem_append_left _ (List.mem_append_left _ (List.mem_append_left _ (List.mem_append_left _ (List.mem_append_left _ (List.mem_append_left _ (List.mem_append_left _ (List.mem_append_right _ (h)))))))))))

theorem hv_X11_startAnew_92 : Cond.fieldLink RX11 92 "FlowExporter$Sums" (TX9 4).2.1 (TX9 4).2.2.1 ∈ wsX11_startAnew := List.mem_cons_of_mem _ (List.mem_append_left _ (List.mem_append_left _ (List.mem_append_left _ (List.mem_append_left _ (List.mem_append_left _ (List.mem_append_left _ (List.mem_append_left _ (List.mem_append_left _ (List.mem_append_left _ (List.mem_append_left _ (List.mem_append_left _ (List.mem_append_left _ (List.mem_append_left _ (List.mem_of_getElem? (i := 7) rfl))))))))))))))

theorem hv_X11_startAnew_71 : Cond.fieldLink RX11 71 "FlowExporter" (TX11 6).2.1 (TX11 6).2.2.1 ∈ wsX11_startAnew := List.mem_cons_of_mem _ (List.mem_append_left _ (List.mem_append_left _ (List.mem_append_left _ (List.mem_append_left _ (List.mem_append_left _ (List.mem_append_left _ (List.mem_append_left _ (List.mem_append_left _ (List.mem_append_left _ (List.mem_append_left _ (List.mem_append_left _ (List.mem_append_left _ (List.mem_append_left _ (List.mem_of_getElem? (i := 8) rfl))))))))))))))

theorem fq_400 {x : Nat} : ∀ j9 : Nat, x + 80 = x + j9 → (132 ≤ j9 ∧ j9 < 149) → False := by
  intro j9 h1 h2
  omega

theorem fq_401 : ∀ j9 : Nat, (3 ≤ j9 ∧ j9 < 24) → ((3 ≤ j9 ∧ j9 < 24) ∨ (46 ≤ j9 ∧ j9 < 149)) := by
  intro j9 h
  omega

theorem fq_402 : ∀ j9 : Nat, (j9 = 46) → ((3 ≤ j9 ∧ j9 < 24) ∨ (46 ≤ j9 ∧ j9 < 149)) := by
  intro j9 h
  omega

theorem fq_403 : ∀ j9 : Nat, (74 ≤ j9 ∧ j9 < 80) → ((3 ≤ j9 ∧ j9 < 24) ∨ (46 ≤ j9 ∧ j9 < 149)) := by
  intro j9 h
  omega

theorem fq_404 : ∀ j9 : Nat, (j9 = 80 ∨ j9 = 81 ∨ j9 = 95) → ((3 ≤ j9 ∧ j9 < 24) ∨ (46 ≤ j9 ∧ j9 < 149)) := by
  intro j9 h
  omega

theorem fq_405 : ∀ j9 : Nat, (132 ≤ j9 ∧ j9 < 149) → ((3 ≤ j9 ∧ j9 < 24) ∨ (46 ≤ j9 ∧ j9 < 149)) := by
  intro j9 h
  omega

set_option maxHeartbeats 4000000 in
set_option maxRecDepth 100000 in
theorem s_X11_startAnew (G : EnvG) (l : Launch) (Φ : Hm) (sz x ca : Nat) (nw : Int32) (rt : Int32) (dw : Int32) (aq : Int32) (xp : Int32) (xb : Int32) (ob : Int64) (sm : Int64) (un : Int64) (hx : G.2.2.2 ≤ x) (hI : In G x ca Φ) (hc0 : Φ (x + 80) = some (o_ 4 [.ref (x + 3), .ref (x + 74), .ref (x + 81), .ref (x + 95), .int nw, .int rt, .int dw, .int aq, .int xp, .int xb, .long ob, .long sm, .long un])) (had : aq = 0 ∨ aq = 1) : Ct G l yX11_startAnew wsX11_startAnew ({ frames := 4, cells := 0, slots := 0, locals := 89 }) 0 0 [.ref x] Φ sz (fun v Φ1 sz1 => ((v = none) ∧ ∃ rt8 : Int32, Φ1 (x + 80) = some (o_ 4 [.ref (x + 3), .ref (x + 74), .ref (x + 81), .ref (x + 95), .int 0, .int rt8, .int 1, .int 0, .int 0, .int 0, .long 0, .long 0, .long 0])) ∧ sz1 = sz ∧ In G x (ca) Φ1 ∧ Fr x (fun j9 => (3 ≤ j9 ∧ j9 < 24) ∨ (46 ≤ j9 ∧ j9 < 149)) Φ Φ1) := by
  refine Ct.of (cc := cX11_startAnew) (maxL := 1) (ret := none) (by decide) rfl (Nat.le_of_ble_eq_true rfl) ?_
  intro p9 e9 s9 m9 w9 t9 k9 B
  show Z p9 l e9 _ s9 m9 _ w9 t9 k9 _ G 1 0 [(0, .ref x)] [] Φ sz 0 0
  refine z_aload_n B dX11_startAnew_0 rfl 0 rfl ?_
  have h_1 := in0 (k := 0) hI rfl
  have h_2 : Φ x = some (o_ 13 [.ref (x + 1), .ref (x + 3), .ref (x + 24), .ref (x + 46), .ref (x + 74), .ref (x + 80), .ref (x + 132), .ref (x + 121)]) := h_1
  refine z_get (ref := "FlowExporter") (C := RX11) (T := TX11) (N := 8) (ci := 13) (v := .ref (x + 3)) B hu_X11_startAnew_X11 rfl 1 (Nat.le_of_ble_eq_true rfl) hv_X11_startAnew_21 rfl h_2 rfl dX11_startAnew_1 ?_
  refine z_aload_n B dX11_startAnew_4 rfl 0 rfl ?_
  refine z_get (ref := "FlowExporter") (C := RX11) (T := TX11) (N := 8) (ci := 13) (v := .ref (x + 24)) B hu_X11_startAnew_X11 rfl 2 (Nat.le_of_ble_eq_true rfl) hv_X11_startAnew_30 rfl h_2 rfl dX11_startAnew_5 ?_
  obtain ⟨v_1, v_2, v_3, v_4, v_5, v_6, h_3⟩ := in10 (k := 24) hI rfl
  have h_4 : Φ (x + 24) = some (o_ 8 [.ref (x + 25), .int v_1, .int v_2, .ref (x + 1), .int v_3, .int v_4, .int v_5, .int v_6]) := h_3
  refine z_get (ref := "FlowExporter$Parser") (C := RX6) (T := TX6) (N := 8) (ci := 8) (v := .ref (x + 25)) B hu_X11_startAnew_X6 rfl 0 (Nat.le_of_ble_eq_true rfl) hv_X11_startAnew_82 rfl h_4 rfl dX11_startAnew_8 ?_
  obtain ⟨v_7, v_8, h_5⟩ := in3 (k := 3) hI rfl
  have h_6 : Φ (x + 3) = some (o_ 3 [.ref (x + 4), .ref (x + 5), .ref (x + 6), .ref (x + 7), .int v_7, .int v_8]) := h_5
  refine z_callV (As := [.ref (x + 25)]) (rest := []) B (s_X1_copyFrom G l Φ sz x (ca)  hx hI ) (cwV 1 B.1.2.2.2.2 gX11_startAnew_X1_copyFrom rfl rfl rfl (by decide +kernel) ⟨Nat.le_of_ble_eq_true rfl, Nat.le_of_ble_eq_true rfl⟩) h_6 rfl rfl rfl rfl (Nat.le_of_ble_eq_true rfl) dX11_startAnew_11 ⟨Nat.le_of_ble_eq_true rfl, Nat.le_of_ble_eq_true rfl⟩ (fun r_1 Φ1 sz1 st1 hp1 hs1 => ?_)
  obtain ⟨rfl, hq1, hI1, hF1⟩ := hp1
  subst sz1
  replace hs1 : st1 = [] := hs1
  subst st1
  replace hI1 : In G x (ca) Φ1 := hI1
  refine z_aload_n B dX11_startAnew_14 rfl 0 rfl ?_
  have h_7 : Φ1 x = some (o_ 13 [.ref (x + 1), .ref (x + 3), .ref (x + 24), .ref (x + 46), .ref (x + 74), .ref (x + 80), .ref (x + 132), .ref (x + 121)]) := ((hF1 x fq_386).trans h_2)
  refine z_get (ref := "FlowExporter") (C := RX11) (T := TX11) (N := 8) (ci := 13) (v := .ref (x + 46)) B hu_X11_startAnew_X11 rfl 3 (Nat.le_of_ble_eq_true rfl) hv_X11_startAnew_37 rfl h_7 rfl dX11_startAnew_15 ?_
  obtain ⟨n_1, v_9, h_8, b_1⟩ := in11 (k := 46) hI1 rfl
  have h_9 : Φ1 (x + 46) = some (o_ 9 [.ref (x + 47), .int (nI n_1), .int v_9]) := h_8
  refine z_callV (As := []) (rest := []) B (s_X7_clear G l Φ1 sz x (ca)  hx hI1 ) (cwV 0 B.1.2.2.2.2 gX11_startAnew_X7_clear rfl rfl rfl (by decide +kernel) ⟨Nat.le_of_ble_eq_true rfl, Nat.le_of_ble_eq_true rfl⟩) h_9 rfl rfl rfl rfl (Nat.le_of_ble_eq_true rfl) dX11_startAnew_18 ⟨Nat.le_of_ble_eq_true rfl, Nat.le_of_ble_eq_true rfl⟩ (fun r_2 Φ2 sz2 st2 hp2 hs2 => ?_)
  obtain ⟨rfl, hq2, hI2, hF2⟩ := hp2
  subst sz2
  replace hs2 : st2 = [] := hs2
  subst st2
  replace hI2 : In G x (ca) Φ2 := hI2
  refine z_aload_n B dX11_startAnew_21 rfl 0 rfl ?_
  have h_10 : Φ2 x = some (o_ 13 [.ref (x + 1), .ref (x + 3), .ref (x + 24), .ref (x + 46), .ref (x + 74), .ref (x + 80), .ref (x + 132), .ref (x + 121)]) := ((hF2 x fq_388).trans h_7)
  refine z_get (ref := "FlowExporter") (C := RX11) (T := TX11) (N := 8) (ci := 13) (v := .ref (x + 74)) B hu_X11_startAnew_X11 rfl 4 (Nat.le_of_ble_eq_true rfl) hv_X11_startAnew_46 rfl h_10 rfl dX11_startAnew_22 ?_
  obtain ⟨n_2, v_10, v_11, v_12, h_11, b_2⟩ := in13 (k := 74) hI2 rfl
  have h_12 : Φ2 (x + 74) = some (o_ 10 [.ref (x + 3), .ref (x + 46), .ref (x + 75), .ref (x + 77), .int (nI n_2), .ref (x + 78), .ref (x + 79), .int v_10, .long v_11, .int v_12]) := h_11
  refine z_callV (As := []) (rest := []) B (s_X8_clear G l Φ2 sz x (ca)  hx hI2 ) (cwV 0 B.1.2.2.2.2 gX11_startAnew_X8_clear rfl rfl rfl (by decide +kernel) ⟨Nat.le_of_ble_eq_true rfl, Nat.le_of_ble_eq_true rfl⟩) h_12 rfl rfl rfl rfl (Nat.le_of_ble_eq_true rfl) dX11_startAnew_25 ⟨Nat.le_of_ble_eq_true rfl, Nat.le_of_ble_eq_true rfl⟩ (fun r_3 Φ3 sz3 st3 hp3 hs3 => ?_)
  obtain ⟨rfl, hq3, hI3, hF3⟩ := hp3
  subst sz3
  replace hs3 : st3 = [] := hs3
  subst st3
  replace hI3 : In G x (ca) Φ3 := hI3
  refine z_aload_n B dX11_startAnew_28 rfl 0 rfl ?_
  have h_13 : Φ3 x = some (o_ 13 [.ref (x + 1), .ref (x + 3), .ref (x + 24), .ref (x + 46), .ref (x + 74), .ref (x + 80), .ref (x + 132), .ref (x + 121)]) := ((hF3 x fq_390).trans h_10)
  refine z_get (ref := "FlowExporter") (C := RX11) (T := TX11) (N := 8) (ci := 13) (v := .ref (x + 80)) B hu_X11_startAnew_X11 rfl 5 (Nat.le_of_ble_eq_true rfl) hv_X11_startAnew_55 rfl h_13 rfl dX11_startAnew_29 ?_
  have h_14 : Φ3 (x + 80) = some (o_ 4 [.ref (x + 3), .ref (x + 74), .ref (x + 81), .ref (x + 95), .int nw, .int rt, .int dw, .int aq, .int xp, .int xb, .long ob, .long sm, .long un]) := ((hF3 (x + 80) fq_394).trans ((hF2 (x + 80) fq_393).trans ((hF1 (x + 80) fq_392).trans hc0)))
  refine z_callV (As := []) (rest := []) B (s_X2_clear G l Φ3 sz x (ca) nw rt dw aq xp xb ob sm un hx hI3 h_14 had) (cwV 0 B.1.2.2.2.2 gX11_startAnew_X2_clear rfl rfl rfl (by decide +kernel) ⟨Nat.le_of_ble_eq_true rfl, Nat.le_of_ble_eq_true rfl⟩) h_14 rfl rfl rfl rfl (Nat.le_of_ble_eq_true rfl) dX11_startAnew_32 ⟨Nat.le_of_ble_eq_true rfl, Nat.le_of_ble_eq_true rfl⟩ (fun r_4 Φ4 sz4 st4 hp4 hs4 => ?_)
  obtain ⟨⟨rfl, v_13, h_15⟩, hq4, hI4, hF4⟩ := hp4
  subst sz4
  replace hs4 : st4 = [] := hs4
  subst st4
  replace hI4 : In G x (ca) Φ4 := hI4
  refine z_aload_n B dX11_startAnew_35 rfl 0 rfl ?_
  have h_16 : Φ4 x = some (o_ 13 [.ref (x + 1), .ref (x + 3), .ref (x + 24), .ref (x + 46), .ref (x + 74), .ref (x + 80), .ref (x + 132), .ref (x + 121)]) := ((hF4 x fq_395).trans h_13)
  refine z_get (ref := "FlowExporter") (C := RX11) (T := TX11) (N := 8) (ci := 13) (v := .ref (x + 121)) B hu_X11_startAnew_X11 rfl 7 (Nat.le_of_ble_eq_true rfl) hv_X11_startAnew_62 rfl h_16 rfl dX11_startAnew_36 ?_
  refine z_iconst (v := 0) B dX11_startAnew_39 rfl ?_
  obtain ⟨n_3, h_17, b_3⟩ := in20 (k := 121) hI4 rfl
  have h_18 : Φ4 (x + 121) = some (o_ 11 [.ref (x + 122), .ref (x + 123), .ref (x + 126), .ref (x + 129), .int (nI n_3)]) := h_17
  refine z_put (ref := "FlowExporter$Sums") (C := RX9) (T := TX9) (N := 5) (ci := 11) (v := .int 0) B hu_X11_startAnew_X9 tyX9 tyX9_ok nmX9 rfl 4 (Nat.le_of_ble_eq_true rfl) hv_X11_startAnew_92 rfl (Or.inl rfl) h_18 (Nat.le_trans hx (Nat.le_add_right x 121)) rfl rfl (Nat.le_of_ble_eq_true rfl) dX11_startAnew_40 (fun Φ5 hΦ1 => ?_)
  have h_19 : Φ5 (x + 121) = some (o_ 11 [.ref (x + 122), .ref (x + 123), .ref (x + 126), .ref (x + 129), .int 0]) := fset_at hΦ1
  have hI5 : In G x (ca) Φ5 := In.put (k := 121) hI4 hΦ1 (ok20 (k := 121) rfl ⟨0, rfl, (show 0 ≤ 24 by omega)⟩)
  refine z_aload_n B dX11_startAnew_43 rfl 0 rfl ?_
  have h_20 : Φ5 x = some (o_ 13 [.ref (x + 1), .ref (x + 3), .ref (x + 24), .ref (x + 46), .ref (x + 74), .ref (x + 80), .ref (x + 132), .ref (x + 121)]) := ((fset_fr hΦ1 (ne_off (x := x) (i := 0) (j := 121) rfl)).trans h_16)
  refine z_get (ref := "FlowExporter") (C := RX11) (T := TX11) (N := 8) (ci := 13) (v := .ref (x + 132)) B hu_X11_startAnew_X11 rfl 6 (Nat.le_of_ble_eq_true rfl) hv_X11_startAnew_71 rfl h_20 rfl dX11_startAnew_44 ?_
  obtain ⟨n_4, v_14, v_15, h_21, b_4⟩ := in25 (k := 132) hI5 rfl
  have h_22 : Φ5 (x + 132) = some (o_ 2 [.ref (x + 3), .ref (x + 121), .ref (x + 133), .ref (x + 134), .ref (x + 135), .ref (x + 137), .ref (x + 138), .ref (x + 139), .ref (x + 140), .int (nI n_4), .int v_14, .int v_15]) := h_21
  refine z_callV (As := []) (rest := []) B (s_X0_clear G l Φ5 sz x (ca)  hx hI5 ) (cwV 0 B.1.2.2.2.2 gX11_startAnew_X0_clear rfl rfl rfl (by decide +kernel) ⟨Nat.le_of_ble_eq_true rfl, Nat.le_of_ble_eq_true rfl⟩) h_22 rfl rfl rfl rfl (Nat.le_of_ble_eq_true rfl) dX11_startAnew_47 ⟨Nat.le_of_ble_eq_true rfl, Nat.le_of_ble_eq_true rfl⟩ (fun r_5 Φ6 sz5 st5 hp5 hs5 => ?_)
  obtain ⟨rfl, hq5, hI6, hF5⟩ := hp5
  subst sz5
  replace hs5 : st5 = [] := hs5
  subst st5
  replace hI6 : In G x (ca) Φ6 := hI6
  have h_23 : Φ6 (x + 80) = some (o_ 4 [.ref (x + 3), .ref (x + 74), .ref (x + 81), .ref (x + 95), .int 0, .int v_13, .int 1, .int 0, .int 0, .int 0, .long 0, .long 0, .long 0]) := ((hF5 (x + 80) fq_400).trans ((fset_fr hΦ1 (ne_off (x := x) (i := 80) (j := 121) rfl)).trans h_15))
  exact z_ret_v B dX11_startAnew_50 ⟨⟨rfl, v_13, h_23⟩, rfl, hI6, (fun b9 h9 => ((hF5 b9 (fun j9 h8 h7 => h9 j9 h8 (fq_405 j9 h7))).trans ((fset_fr hΦ1 (fun h8 => h9 (121) h8 (show (3 ≤ 121 ∧ 121 < 24) ∨ (46 ≤ 121 ∧ 121 < 149) by decide))).trans ((hF4 b9 (fun j9 h8 h7 => h9 j9 h8 (fq_404 j9 h7))).trans ((hF3 b9 (fun j9 h8 h7 => h9 j9 h8 (fq_403 j9 h7))).trans ((hF2 b9 (fun j9 h8 h7 => h9 j9 h8 (fq_402 j9 h7))).trans ((hF1 b9 (fun j9 h8 h7 => h9 j9 h8 (fq_401 j9 h7))).trans rfl)))))))⟩

theorem hu_X11_errorCode_X11 : ∀ w ∈ u_ws RX11 TX11 8, w ∈ wsX11_errorCode := fun _ h => List.mem_cons_of_mem _ (List.mem_append_left _ (List.mem_append_right _ (h)))

theorem hv_X11_errorCode_30 : Cond.fieldLink RX11 30 "FlowExporter" (TX11 2).2.1 (TX11 2).2.2.1 ∈ wsX11_errorCode := List.mem_cons_of_mem _ (List.mem_append_left _ (List.mem_append_left _ (List.mem_of_getElem? (i := 0) rfl)))

theorem hu_X11_errorCode_X6 : ∀ w ∈ u_ws RX6 TX6 8, w ∈ wsX11_errorCode := fun _ h => List.mem_cons_of_mem _ (List.mem_append_right _ (h))

theorem hv_X11_errorCode_104 : Cond.fieldLink RX11 104 "FlowExporter$Parser" (TX6 1).2.1 (TX6 1).2.2.1 ∈ wsX11_errorCode := List.mem_cons_of_mem _ (List.mem_append_left _ (List.mem_append_left _ (List.mem_of_getElem? (i := 1) rfl)))

set_option maxHeartbeats 4000000 in
set_option maxRecDepth 100000 in
theorem s_X11_errorCode (G : EnvG) (l : Launch) (Φ : Hm) (sz x ca : Nat)  (hx : G.2.2.2 ≤ x) (hI : In G x ca Φ)  : Ct G l yX11_errorCode wsX11_errorCode ({ frames := 0, cells := 0, slots := 0, locals := 0 }) 0 0 [.ref x] Φ sz (fun v Φ1 sz1 => (∃ r9 : Int32, v = some (.int r9)) ∧ sz1 = sz ∧ In G x (ca) Φ1 ∧ Fr x (fun j9 => False) Φ Φ1) := by
  refine Ct.of (cc := cX11_errorCode) (maxL := 1) (ret := (some .int)) (by decide) rfl (Nat.le_of_ble_eq_true rfl) ?_
  intro p9 e9 s9 m9 w9 t9 k9 B
  show Z p9 l e9 _ s9 m9 _ w9 t9 k9 _ G 1 0 [(0, .ref x)] [] Φ sz 0 0
  refine z_aload_n B dX11_errorCode_0 rfl 0 rfl ?_
  have h_1 := in0 (k := 0) hI rfl
  have h_2 : Φ x = some (o_ 13 [.ref (x + 1), .ref (x + 3), .ref (x + 24), .ref (x + 46), .ref (x + 74), .ref (x + 80), .ref (x + 132), .ref (x + 121)]) := h_1
  refine z_get (ref := "FlowExporter") (C := RX11) (T := TX11) (N := 8) (ci := 13) (v := .ref (x + 24)) B hu_X11_errorCode_X11 rfl 2 (Nat.le_of_ble_eq_true rfl) hv_X11_errorCode_30 rfl h_2 rfl dX11_errorCode_1 ?_
  obtain ⟨v_1, v_2, v_3, v_4, v_5, v_6, h_3⟩ := in10 (k := 24) hI rfl
  have h_4 : Φ (x + 24) = some (o_ 8 [.ref (x + 25), .int v_1, .int v_2, .ref (x + 1), .int v_3, .int v_4, .int v_5, .int v_6]) := h_3
  refine z_get (ref := "FlowExporter$Parser") (C := RX6) (T := TX6) (N := 8) (ci := 8) (v := .int v_1) B hu_X11_errorCode_X6 rfl 1 (Nat.le_of_ble_eq_true rfl) hv_X11_errorCode_104 rfl h_4 rfl dX11_errorCode_4 ?_
  exact z_ret_i B dX11_errorCode_7 ⟨⟨_, rfl⟩, rfl, hI, (fun b9 h9 => rfl)⟩

theorem hu_X11_errorPosition_X11 : ∀ w ∈ u_ws RX11 TX11 8, w ∈ wsX11_errorPosition := fun _ h => List.mem_cons_of_mem _ (List.mem_append_left _ (List.mem_append_right _ (h)))

theorem hv_X11_errorPosition_30 : Cond.fieldLink RX11 30 "FlowExporter" (TX11 2).2.1 (TX11 2).2.2.1 ∈ wsX11_errorPosition := List.mem_cons_of_mem _ (List.mem_append_left _ (List.mem_append_left _ (List.mem_of_getElem? (i := 0) rfl)))

theorem hu_X11_errorPosition_X6 : ∀ w ∈ u_ws RX6 TX6 8, w ∈ wsX11_errorPosition := fun _ h => List.mem_cons_of_mem _ (List.mem_append_right _ (h))

theorem hv_X11_errorPosition_107 : Cond.fieldLink RX11 107 "FlowExporter$Parser" (TX6 2).2.1 (TX6 2).2.2.1 ∈ wsX11_errorPosition := List.mem_cons_of_mem _ (List.mem_append_left _ (List.mem_append_left _ (List.mem_of_getElem? (i := 1) rfl)))

set_option maxHeartbeats 4000000 in
set_option maxRecDepth 100000 in
theorem s_X11_errorPosition (G : EnvG) (l : Launch) (Φ : Hm) (sz x ca : Nat)  (hx : G.2.2.2 ≤ x) (hI : In G x ca Φ)  : Ct G l yX11_errorPosition wsX11_errorPosition ({ frames := 0, cells := 0, slots := 0, locals := 0 }) 0 0 [.ref x] Φ sz (fun v Φ1 sz1 => (∃ r9 : Int32, v = some (.int r9)) ∧ sz1 = sz ∧ In G x (ca) Φ1 ∧ Fr x (fun j9 => False) Φ Φ1) := by
  refine Ct.of (cc := cX11_errorPosition) (maxL := 1) (ret := (some .int)) (by decide) rfl (Nat.le_of_ble_eq_true rfl) ?_
  intro p9 e9 s9 m9 w9 t9 k9 B
  show Z p9 l e9 _ s9 m9 _ w9 t9 k9 _ G 1 0 [(0, .ref x)] [] Φ sz 0 0
  refine z_aload_n B dX11_errorPosition_0 rfl 0 rfl ?_
  have h_1 := in0 (k := 0) hI rfl
  have h_2 : Φ x = some (o_ 13 [.ref (x + 1), .ref (x + 3), .ref (x + 24), .ref (x + 46), .ref (x + 74), .ref (x + 80), .ref (x + 132), .ref (x + 121)]) := h_1
  refine z_get (ref := "FlowExporter") (C := RX11) (T := TX11) (N := 8) (ci := 13) (v := .ref (x + 24)) B hu_X11_errorPosition_X11 rfl 2 (Nat.le_of_ble_eq_true rfl) hv_X11_errorPosition_30 rfl h_2 rfl dX11_errorPosition_1 ?_
  obtain ⟨v_1, v_2, v_3, v_4, v_5, v_6, h_3⟩ := in10 (k := 24) hI rfl
  have h_4 : Φ (x + 24) = some (o_ 8 [.ref (x + 25), .int v_1, .int v_2, .ref (x + 1), .int v_3, .int v_4, .int v_5, .int v_6]) := h_3
  refine z_get (ref := "FlowExporter$Parser") (C := RX6) (T := TX6) (N := 8) (ci := 8) (v := .int v_2) B hu_X11_errorPosition_X6 rfl 2 (Nat.le_of_ble_eq_true rfl) hv_X11_errorPosition_107 rfl h_4 rfl dX11_errorPosition_4 ?_
  exact z_ret_i B dX11_errorPosition_7 ⟨⟨_, rfl⟩, rfl, hI, (fun b9 h9 => rfl)⟩

theorem hu_X11_now_X11 : ∀ w ∈ u_ws RX11 TX11 8, w ∈ wsX11_now := fun _ h => List.mem_cons_of_mem _ (List.mem_append_left _ (List.mem_append_right _ (h)))

theorem hv_X11_now_55 : Cond.fieldLink RX11 55 "FlowExporter" (TX11 5).2.1 (TX11 5).2.2.1 ∈ wsX11_now := List.mem_cons_of_mem _ (List.mem_append_left _ (List.mem_append_left _ (List.mem_of_getElem? (i := 0) rfl)))

theorem hu_X11_now_X2 : ∀ w ∈ u_ws RX2 TX2 13, w ∈ wsX11_now := fun _ h => List.mem_cons_of_mem _ (List.mem_append_right _ (h))

theorem hv_X11_now_110 : Cond.fieldLink RX11 110 "FlowExporter$Exporter" (TX2 4).2.1 (TX2 4).2.2.1 ∈ wsX11_now := List.mem_cons_of_mem _ (List.mem_append_left _ (List.mem_append_left _ (List.mem_of_getElem? (i := 1) rfl)))

set_option maxHeartbeats 4000000 in
set_option maxRecDepth 100000 in
theorem s_X11_now (G : EnvG) (l : Launch) (Φ : Hm) (sz x ca : Nat) (nw : Int32) (rt : Int32) (dw : Int32) (aq : Int32) (xp : Int32) (xb : Int32) (ob : Int64) (sm : Int64) (un : Int64) (hx : G.2.2.2 ≤ x) (hI : In G x ca Φ) (hc0 : Φ (x + 80) = some (o_ 4 [.ref (x + 3), .ref (x + 74), .ref (x + 81), .ref (x + 95), .int nw, .int rt, .int dw, .int aq, .int xp, .int xb, .long ob, .long sm, .long un])) (had : aq = 0 ∨ aq = 1) : Ct G l yX11_now wsX11_now ({ frames := 0, cells := 0, slots := 0, locals := 0 }) 0 0 [.ref x] Φ sz (fun v Φ1 sz1 => ((v = some (.int nw)) ∧ Φ1 (x + 80) = some (o_ 4 [.ref (x + 3), .ref (x + 74), .ref (x + 81), .ref (x + 95), .int nw, .int rt, .int dw, .int aq, .int xp, .int xb, .long ob, .long sm, .long un])) ∧ sz1 = sz ∧ In G x (ca) Φ1 ∧ Fr x (fun j9 => False) Φ Φ1) := by
  refine Ct.of (cc := cX11_now) (maxL := 1) (ret := (some .int)) (by decide) rfl (Nat.le_of_ble_eq_true rfl) ?_
  intro p9 e9 s9 m9 w9 t9 k9 B
  show Z p9 l e9 _ s9 m9 _ w9 t9 k9 _ G 1 0 [(0, .ref x)] [] Φ sz 0 0
  refine z_aload_n B dX11_now_0 rfl 0 rfl ?_
  have h_1 := in0 (k := 0) hI rfl
  have h_2 : Φ x = some (o_ 13 [.ref (x + 1), .ref (x + 3), .ref (x + 24), .ref (x + 46), .ref (x + 74), .ref (x + 80), .ref (x + 132), .ref (x + 121)]) := h_1
  refine z_get (ref := "FlowExporter") (C := RX11) (T := TX11) (N := 8) (ci := 13) (v := .ref (x + 80)) B hu_X11_now_X11 rfl 5 (Nat.le_of_ble_eq_true rfl) hv_X11_now_55 rfl h_2 rfl dX11_now_1 ?_
  refine z_get (ref := "FlowExporter$Exporter") (C := RX2) (T := TX2) (N := 13) (ci := 4) (v := .int nw) B hu_X11_now_X2 rfl 4 (Nat.le_of_ble_eq_true rfl) hv_X11_now_110 rfl hc0 rfl dX11_now_4 ?_
  exact z_ret_i B dX11_now_7 ⟨⟨rfl, hc0⟩, rfl, hI, (fun b9 h9 => rfl)⟩

theorem hu_X11_flush_X11 : ∀ w ∈ u_ws RX11 TX11 8, w ∈ wsX11_flush := fun _ h => List.mem_cons_of_mem _ (List.mem_append_left _ (List.mem_append_left _ (List.mem_append_left _ (List.mem_append_left _ (List.mem_append_left _ (List.mem_append_left _ (List.mem_append_left _ (List.mem_append_left _ (List.mem_append_left _ (List.mem_append_left _ (List.mem_append_right _ (h))))))))))))

theorem hv_X11_flush_55 : Cond.fieldLink RX11 55 "FlowExporter" (TX11 5).2.1 (TX11 5).2.2.1 ∈ wsX11_flush := List.mem_cons_of_mem _ (List.mem_append_left _ (List.mem_append_left _ (List.mem_append_left _ (List.mem_append_left _ (List.mem_append_left _ (List.mem_append_left _ (List.mem_append_left _ (List.mem_append_left _ (List.mem_append_left _ (List.mem_append_left _ (List.mem_append_left _ (List.mem_append_left _ (List.mem_of_getElem? (i := 0) rfl)))))))))))))

set_option maxHeartbeats 4000000 in
set_option maxRecDepth 100000 in
theorem s_X11_flush (G : EnvG) (l : Launch) (Φ : Hm) (sz x ca : Nat) (nw : Int32) (rt : Int32) (dw : Int32) (aq : Int32) (xp : Int32) (xb : Int32) (ob : Int64) (sm : Int64) (un : Int64) (hx : G.2.2.2 ≤ x) (hI : In G x ca Φ) (hc0 : Φ (x + 80) = some (o_ 4 [.ref (x + 3), .ref (x + 74), .ref (x + 81), .ref (x + 95), .int nw, .int rt, .int dw, .int aq, .int xp, .int xb, .long ob, .long sm, .long un])) (had : aq = 0 ∨ aq = 1) : Ct G l yX11_flush wsX11_flush ({ frames := 6, cells := 0, slots := 0, locals := 146 }) 0 0 [.ref x] Φ sz (fun v Φ1 sz1 => ((∃ n9 : Nat, v = some (.int (nI n9)) ∧ n9 ≤ 12) ∧ ∃ xp8 : Int32, ∃ un8 : Int64, Φ1 (x + 80) = some (o_ 4 [.ref (x + 3), .ref (x + 74), .ref (x + 81), .ref (x + 95), .int nw, .int rt, .int dw, .int aq, .int xp8, .int xb, .long ob, .long sm, .long un8])) ∧ sz1 = sz ∧ In G x (ca) Φ1 ∧ Fr x (fun j9 => 46 ≤ j9 ∧ j9 < 95) Φ Φ1) := by
  refine Ct.of (cc := cX11_flush) (maxL := 1) (ret := (some .int)) (by decide) rfl (Nat.le_of_ble_eq_true rfl) ?_
  intro p9 e9 s9 m9 w9 t9 k9 B
  show Z p9 l e9 _ s9 m9 _ w9 t9 k9 _ G 1 0 [(0, .ref x)] [] Φ sz 0 0
  refine z_aload_n B dX11_flush_0 rfl 0 rfl ?_
  have h_1 := in0 (k := 0) hI rfl
  have h_2 : Φ x = some (o_ 13 [.ref (x + 1), .ref (x + 3), .ref (x + 24), .ref (x + 46), .ref (x + 74), .ref (x + 80), .ref (x + 132), .ref (x + 121)]) := h_1
  refine z_get (ref := "FlowExporter") (C := RX11) (T := TX11) (N := 8) (ci := 13) (v := .ref (x + 80)) B hu_X11_flush_X11 rfl 5 (Nat.le_of_ble_eq_true rfl) hv_X11_flush_55 rfl h_2 rfl dX11_flush_1 ?_
  refine z_callV (As := []) (rest := []) B (s_X2_exportAllAndSend G l Φ sz x (ca) nw rt dw aq xp xb ob sm un hx hI hc0 had) (cwV 0 B.1.2.2.2.2 gX11_flush_X2_exportAllAndSend rfl rfl rfl (by decide +kernel) ⟨Nat.le_of_ble_eq_true rfl, Nat.le_of_ble_eq_true rfl⟩) hc0 rfl rfl rfl rfl (Nat.le_of_ble_eq_true rfl) dX11_flush_4 ⟨Nat.le_of_ble_eq_true rfl, Nat.le_of_ble_eq_true rfl⟩ (fun r_1 Φ1 sz1 st1 hp1 hs1 => ?_)
  obtain ⟨⟨⟨n_1, rfl, b_1⟩, v_1, v_2, h_3⟩, hq1, hI1, hF1⟩ := hp1
  subst sz1
  replace hs1 : st1 = [.int (nI n_1)] := hs1
  subst st1
  replace hI1 : In G x (ca) Φ1 := hI1
  replace b_1 : n_1 ≤ 12 := b_1
  exact z_ret_i B dX11_flush_7 ⟨⟨⟨n_1, rfl, (show n_1 ≤ 12 by omega)⟩, v_1, v_2, h_3⟩, rfl, hI1, (fun b9 h9 => ((hF1 b9 h9).trans rfl))⟩

theorem hu_X11_cacheSize_X11 : ∀ w ∈ u_ws RX11 TX11 8, w ∈ wsX11_cacheSize := fun _ h => List.mem_cons_of_mem _ (List.mem_append_left _ (List.mem_append_left _ (List.mem_append_right _ (h))))

theorem hv_X11_cacheSize_55 : Cond.fieldLink RX11 55 "FlowExporter" (TX11 5).2.1 (TX11 5).2.2.1 ∈ wsX11_cacheSize := List.mem_cons_of_mem _ (List.mem_append_left _ (List.mem_append_left _ (List.mem_append_left _ (List.mem_of_getElem? (i := 0) rfl))))

theorem hu_X11_cacheSize_X2 : ∀ w ∈ u_ws RX2 TX2 13, w ∈ wsX11_cacheSize := fun _ h => List.mem_cons_of_mem _ (List.mem_append_left _ (List.mem_append_right _ (h)))

theorem hv_X11_cacheSize_146 : Cond.fieldLink RX11 146 "FlowExporter$Exporter" (TX2 2).2.1 (TX2 2).2.2.1 ∈ wsX11_cacheSize := List.mem_cons_of_mem _ (List.mem_append_left _ (List.mem_append_left _ (List.mem_append_left _ (List.mem_of_getElem? (i := 1) rfl))))

theorem hu_X11_cacheSize_X4 : ∀ w ∈ u_ws RX4 TX4 2, w ∈ wsX11_cacheSize := fun _ h => List.mem_cons_of_mem _ (List.mem_append_right _ (h))

theorem hv_X11_cacheSize_150 : Cond.fieldLink RX11 150 "FlowExporter$FlowTable" (TX4 1).2.1 (TX4 1).2.2.1 ∈ wsX11_cacheSize := List.mem_cons_of_mem _ (List.mem_append_left _ (List.mem_append_left _ (List.mem_append_left _ (List.mem_of_getElem? (i := 2) rfl))))

set_option maxHeartbeats 4000000 in
set_option maxRecDepth 100000 in
theorem s_X11_cacheSize (G : EnvG) (l : Launch) (Φ : Hm) (sz x ca : Nat)  (hx : G.2.2.2 ≤ x) (hI : In G x ca Φ)  : Ct G l yX11_cacheSize wsX11_cacheSize ({ frames := 0, cells := 0, slots := 0, locals := 0 }) 0 0 [.ref x] Φ sz (fun v Φ1 sz1 => (∃ r9 : Int32, v = some (.int r9)) ∧ sz1 = sz ∧ In G x (ca) Φ1 ∧ Fr x (fun j9 => False) Φ Φ1) := by
  refine Ct.of (cc := cX11_cacheSize) (maxL := 1) (ret := (some .int)) (by decide) rfl (Nat.le_of_ble_eq_true rfl) ?_
  intro p9 e9 s9 m9 w9 t9 k9 B
  show Z p9 l e9 _ s9 m9 _ w9 t9 k9 _ G 1 0 [(0, .ref x)] [] Φ sz 0 0
  refine z_aload_n B dX11_cacheSize_0 rfl 0 rfl ?_
  have h_1 := in0 (k := 0) hI rfl
  have h_2 : Φ x = some (o_ 13 [.ref (x + 1), .ref (x + 3), .ref (x + 24), .ref (x + 46), .ref (x + 74), .ref (x + 80), .ref (x + 132), .ref (x + 121)]) := h_1
  refine z_get (ref := "FlowExporter") (C := RX11) (T := TX11) (N := 8) (ci := 13) (v := .ref (x + 80)) B hu_X11_cacheSize_X11 rfl 5 (Nat.le_of_ble_eq_true rfl) hv_X11_cacheSize_55 rfl h_2 rfl dX11_cacheSize_1 ?_
  obtain ⟨v_1, v_2, v_3, v_4, v_5, v_6, v_7, v_8, v_9, h_3, b_1⟩ := in16 (k := 80) hI rfl
  have h_4 : Φ (x + 80) = some (o_ 4 [.ref (x + 3), .ref (x + 74), .ref (x + 81), .ref (x + 95), .int v_1, .int v_2, .int v_3, .int v_4, .int v_5, .int v_6, .long v_7, .long v_8, .long v_9]) := h_3
  refine z_get (ref := "FlowExporter$Exporter") (C := RX2) (T := TX2) (N := 13) (ci := 4) (v := .ref (x + 81)) B hu_X11_cacheSize_X2 rfl 2 (Nat.le_of_ble_eq_true rfl) hv_X11_cacheSize_146 rfl h_4 rfl dX11_cacheSize_4 ?_
  obtain ⟨n_1, h_5, b_2⟩ := in17 (k := 81) hI rfl
  replace b_2 : n_1 ≤ 12 := b_2
  have h_6 : Φ (x + 81) = some (o_ 6 [.ref (x + 82), .int (nI n_1)]) := h_5
  refine z_get (ref := "FlowExporter$FlowTable") (C := RX4) (T := TX4) (N := 2) (ci := 6) (v := .int (nI n_1)) B hu_X11_cacheSize_X4 rfl 1 (Nat.le_of_ble_eq_true rfl) hv_X11_cacheSize_150 rfl h_6 rfl dX11_cacheSize_7 ?_
  exact z_ret_i B dX11_cacheSize_10 ⟨⟨_, rfl⟩, rfl, hI, (fun b9 h9 => rfl)⟩

theorem hu_X11_rate_X11 : ∀ w ∈ u_ws RX11 TX11 8, w ∈ wsX11_rate := fun _ h => List.mem_cons_of_mem _ (List.mem_append_left _ (List.mem_append_right _ (h)))

theorem hv_X11_rate_55 : Cond.fieldLink RX11 55 "FlowExporter" (TX11 5).2.1 (TX11 5).2.2.1 ∈ wsX11_rate := List.mem_cons_of_mem _ (List.mem_append_left _ (List.mem_append_left _ (List.mem_of_getElem? (i := 0) rfl)))

theorem hu_X11_rate_X2 : ∀ w ∈ u_ws RX2 TX2 13, w ∈ wsX11_rate := fun _ h => List.mem_cons_of_mem _ (List.mem_append_right _ (h))

theorem hv_X11_rate_164 : Cond.fieldLink RX11 164 "FlowExporter$Exporter" (TX2 5).2.1 (TX2 5).2.2.1 ∈ wsX11_rate := List.mem_cons_of_mem _ (List.mem_append_left _ (List.mem_append_left _ (List.mem_of_getElem? (i := 1) rfl)))

set_option maxHeartbeats 4000000 in
set_option maxRecDepth 100000 in
theorem s_X11_rate (G : EnvG) (l : Launch) (Φ : Hm) (sz x ca : Nat)  (hx : G.2.2.2 ≤ x) (hI : In G x ca Φ)  : Ct G l yX11_rate wsX11_rate ({ frames := 0, cells := 0, slots := 0, locals := 0 }) 0 0 [.ref x] Φ sz (fun v Φ1 sz1 => (∃ r9 : Int32, v = some (.int r9)) ∧ sz1 = sz ∧ In G x (ca) Φ1 ∧ Fr x (fun j9 => False) Φ Φ1) := by
  refine Ct.of (cc := cX11_rate) (maxL := 1) (ret := (some .int)) (by decide) rfl (Nat.le_of_ble_eq_true rfl) ?_
  intro p9 e9 s9 m9 w9 t9 k9 B
  show Z p9 l e9 _ s9 m9 _ w9 t9 k9 _ G 1 0 [(0, .ref x)] [] Φ sz 0 0
  refine z_aload_n B dX11_rate_0 rfl 0 rfl ?_
  have h_1 := in0 (k := 0) hI rfl
  have h_2 : Φ x = some (o_ 13 [.ref (x + 1), .ref (x + 3), .ref (x + 24), .ref (x + 46), .ref (x + 74), .ref (x + 80), .ref (x + 132), .ref (x + 121)]) := h_1
  refine z_get (ref := "FlowExporter") (C := RX11) (T := TX11) (N := 8) (ci := 13) (v := .ref (x + 80)) B hu_X11_rate_X11 rfl 5 (Nat.le_of_ble_eq_true rfl) hv_X11_rate_55 rfl h_2 rfl dX11_rate_1 ?_
  obtain ⟨v_1, v_2, v_3, v_4, v_5, v_6, v_7, v_8, v_9, h_3, b_1⟩ := in16 (k := 80) hI rfl
  have h_4 : Φ (x + 80) = some (o_ 4 [.ref (x + 3), .ref (x + 74), .ref (x + 81), .ref (x + 95), .int v_1, .int v_2, .int v_3, .int v_4, .int v_5, .int v_6, .long v_7, .long v_8, .long v_9]) := h_3
  refine z_get (ref := "FlowExporter$Exporter") (C := RX2) (T := TX2) (N := 13) (ci := 4) (v := .int v_2) B hu_X11_rate_X2 rfl 5 (Nat.le_of_ble_eq_true rfl) hv_X11_rate_164 rfl h_4 rfl dX11_rate_4 ?_
  exact z_ret_i B dX11_rate_7 ⟨⟨_, rfl⟩, rfl, hI, (fun b9 h9 => rfl)⟩

theorem hu_X11_rateBits_X11 : ∀ w ∈ u_ws RX11 TX11 8, w ∈ wsX11_rateBits := fun _ h => List.mem_cons_of_mem _ (List.mem_append_left _ (List.mem_append_left _ (List.mem_append_right _ (h))))

theorem hv_X11_rateBits_55 : Cond.fieldLink RX11 55 "FlowExporter" (TX11 5).2.1 (TX11 5).2.2.1 ∈ wsX11_rateBits := List.mem_cons_of_mem _ (List.mem_append_left _ (List.mem_append_left _ (List.mem_append_left _ (List.mem_of_getElem? (i := 0) rfl))))

theorem hu_X11_rateBits_X2 : ∀ w ∈ u_ws RX2 TX2 13, w ∈ wsX11_rateBits := fun _ h => List.mem_cons_of_mem _ (List.mem_append_left _ (List.mem_append_right _ (h)))

theorem hv_X11_rateBits_164 : Cond.fieldLink RX11 164 "FlowExporter$Exporter" (TX2 5).2.1 (TX2 5).2.2.1 ∈ wsX11_rateBits := List.mem_cons_of_mem _ (List.mem_append_left _ (List.mem_append_left _ (List.mem_append_left _ (List.mem_of_getElem? (i := 1) rfl))))

set_option maxHeartbeats 4000000 in
set_option maxRecDepth 100000 in
theorem s_X11_rateBits (G : EnvG) (l : Launch) (Φ : Hm) (sz x ca : Nat)  (hx : G.2.2.2 ≤ x) (hI : In G x ca Φ)  : Ct G l yX11_rateBits wsX11_rateBits ({ frames := 1, cells := 0, slots := 0, locals := 23 }) 0 0 [.ref x] Φ sz (fun v Φ1 sz1 => (∃ r9 : Int32, v = some (.int r9)) ∧ sz1 = sz ∧ In G x (ca) Φ1 ∧ Fr x (fun j9 => False) Φ Φ1) := by
  refine Ct.of (cc := cX11_rateBits) (maxL := 1) (ret := (some .int)) (by decide) rfl (Nat.le_of_ble_eq_true rfl) ?_
  intro p9 e9 s9 m9 w9 t9 k9 B
  show Z p9 l e9 _ s9 m9 _ w9 t9 k9 _ G 1 0 [(0, .ref x)] [] Φ sz 0 0
  refine z_aload_n B dX11_rateBits_0 rfl 0 rfl ?_
  have h_1 := in0 (k := 0) hI rfl
  have h_2 : Φ x = some (o_ 13 [.ref (x + 1), .ref (x + 3), .ref (x + 24), .ref (x + 46), .ref (x + 74), .ref (x + 80), .ref (x + 132), .ref (x + 121)]) := h_1
  refine z_get (ref := "FlowExporter") (C := RX11) (T := TX11) (N := 8) (ci := 13) (v := .ref (x + 80)) B hu_X11_rateBits_X11 rfl 5 (Nat.le_of_ble_eq_true rfl) hv_X11_rateBits_55 rfl h_2 rfl dX11_rateBits_1 ?_
  obtain ⟨v_1, v_2, v_3, v_4, v_5, v_6, v_7, v_8, v_9, h_3, b_1⟩ := in16 (k := 80) hI rfl
  have h_4 : Φ (x + 80) = some (o_ 4 [.ref (x + 3), .ref (x + 74), .ref (x + 81), .ref (x + 95), .int v_1, .int v_2, .int v_3, .int v_4, .int v_5, .int v_6, .long v_7, .long v_8, .long v_9]) := h_3
  refine z_get (ref := "FlowExporter$Exporter") (C := RX2) (T := TX2) (N := 13) (ci := 4) (v := .int v_2) B hu_X11_rateBits_X2 rfl 5 (Nat.le_of_ble_eq_true rfl) hv_X11_rateBits_164 rfl h_4 rfl dX11_rateBits_4 ?_
  refine z_callS (As := [.int v_2]) (rest := []) B (s_X2_bitsOfInverse G l Φ sz x (ca) v_2 hx hI ) (va_cwS 1 B.1.2.2.2.2 gX11_rateBits_X2_bitsOfInverse rfl rfl rfl (by decide +kernel) ⟨Nat.le_of_ble_eq_true rfl, Nat.le_of_ble_eq_true rfl⟩) rfl rfl (Nat.le_of_ble_eq_true rfl) dX11_rateBits_7 ⟨Nat.le_of_ble_eq_true rfl, Nat.le_of_ble_eq_true rfl⟩ (fun r_1 Φ1 sz1 st1 hp1 hs1 => ?_)
  obtain ⟨⟨v_10, rfl⟩, hq1, hI1, hF1⟩ := hp1
  subst sz1
  replace hs1 : st1 = [.int v_10] := hs1
  subst st1
  replace hI1 : In G x (ca) Φ1 := hI1
  exact z_ret_i B dX11_rateBits_10 ⟨⟨_, rfl⟩, rfl, hI1, (fun b9 h9 => ((hF1 b9 (fun j9 h8 h7 => (show False from h7).elim)).trans rfl))⟩

theorem hu_X11_restartExporter_X11 : ∀ w ∈ u_ws RX11 TX11 8, w ∈ wsX11_restartExporter := fun _ h => List.mem_cons_of_mem _ (List.mem_append_left _ (List.mem_append_left _ (List.mem_append_left _ (List.mem_append_left _ (List.mem_append_right _ (h))))))

theorem hv_X11_restartExporter_55 : Cond.fieldLink RX11 55 "FlowExporter" (TX11 5).2.1 (TX11 5).2.2.1 ∈ wsX11_restartExporter := List.mem_cons_of_mem _ (List.mem_append_left _ (List.mem_append_left _ (List.mem_append_left _ (List.mem_append_left _ (List.mem_append_left _ (List.mem_append_left _ (List.mem_of_getElem? (i := 0) rfl)))))))

theorem hu_X11_restartExporter_X2 : ∀ w ∈ u_ws RX2 TX2 13, w ∈ wsX11_restartExporter := fun _ h => List.mem_cons_of_mem _ (List.mem_append_left _ (List.mem_append_left _ (List.mem_append_left _ (List.mem_append_right _ (h)))))

theorem hv_X11_restartExporter_146 : Cond.fieldLink RX11 146 "FlowExporter$Exporter" (TX2 2).2.1 (TX2 2).2.2.1 ∈ wsX11_restartExporter := List.mem_cons_of_mem _ (List.mem_append_left _ (List.mem_append_left _ (List.mem_append_left _ (List.mem_append_left _ (List.mem_append_left _ (List.mem_append_left _ (List.mem_of_getElem? (i := 1) rfl)))))))

theorem hu_X11_restartExporter_X4 : ∀ w ∈ u_ws RX4 TX4 2, w ∈ wsX11_restartExporter := fun _ h => List.mem_cons_of_mem _ (List.mem_append_left _ (List.mem_append_left _ (List.mem_append_right _ (h))))

theorem hv_X11_restartExporter_150 : Cond.fieldLink RX11 150 "FlowExporter$FlowTable" (TX4 1).2.1 (TX4 1).2.2.1 ∈ wsX11_restartExporter := List.mem_cons_of_mem _ (List.mem_append_left _ (List.mem_append_left _ (List.mem_append_left _ (List.mem_append_left _ (List.mem_append_left _ (List.mem_append_left _ (List.mem_of_getElem? (i := 2) rfl)))))))

theorem hv_X11_restartExporter_46 : Cond.fieldLink RX11 46 "FlowExporter" (TX11 4).2.1 (TX11 4).2.2.1 ∈ wsX11_restartExporter := List.mem_cons_of_mem _ (List.mem_append_left _ (List.mem_append_left _ (List.mem_append_left _ (List.mem_append_left _ (List.mem_append_left _ (List.mem_append_left _ (List.mem_of_getElem? (i := 3) rfl)))))))

theorem fq_441 : ∀ j9 : Nat, (74 ≤ j9 ∧ j9 < 80) → (74 ≤ j9 ∧ j9 < 82) := by
  intro j9 h
  omega

set_option maxHeartbeats 4000000 in
set_option maxRecDepth 100000 in
theorem s_X11_restartExporter (G : EnvG) (l : Launch) (Φ : Hm) (sz x ca : Nat)  (hx : G.2.2.2 ≤ x) (hI : In G x ca Φ)  : Ct G l yX11_restartExporter wsX11_restartExporter ({ frames := 3, cells := 0, slots := 0, locals := 63 }) 0 0 [.ref x] Φ sz (fun v Φ1 sz1 => (∃ r9 : Int32, v = some (.int r9)) ∧ sz1 = sz ∧ In G x (ca) Φ1 ∧ Fr x (fun j9 => 74 ≤ j9 ∧ j9 < 82) Φ Φ1) := by
  refine Ct.of (cc := cX11_restartExporter) (maxL := 2) (ret := (some .int)) (by decide) rfl (Nat.le_of_ble_eq_true rfl) ?_
  intro p9 e9 s9 m9 w9 t9 k9 B
  show Z p9 l e9 _ s9 m9 _ w9 t9 k9 _ G 2 0 [(0, .ref x)] [] Φ sz 0 0
  refine z_aload_n B dX11_restartExporter_0 rfl 0 rfl ?_
  have h_1 := in0 (k := 0) hI rfl
  have h_2 : Φ x = some (o_ 13 [.ref (x + 1), .ref (x + 3), .ref (x + 24), .ref (x + 46), .ref (x + 74), .ref (x + 80), .ref (x + 132), .ref (x + 121)]) := h_1
  refine z_get (ref := "FlowExporter") (C := RX11) (T := TX11) (N := 8) (ci := 13) (v := .ref (x + 80)) B hu_X11_restartExporter_X11 rfl 5 (Nat.le_of_ble_eq_true rfl) hv_X11_restartExporter_55 rfl h_2 rfl dX11_restartExporter_1 ?_
  obtain ⟨v_1, v_2, v_3, v_4, v_5, v_6, v_7, v_8, v_9, h_3, b_1⟩ := in16 (k := 80) hI rfl
  have h_4 : Φ (x + 80) = some (o_ 4 [.ref (x + 3), .ref (x + 74), .ref (x + 81), .ref (x + 95), .int v_1, .int v_2, .int v_3, .int v_4, .int v_5, .int v_6, .long v_7, .long v_8, .long v_9]) := h_3
  refine z_get (ref := "FlowExporter$Exporter") (C := RX2) (T := TX2) (N := 13) (ci := 4) (v := .ref (x + 81)) B hu_X11_restartExporter_X2 rfl 2 (Nat.le_of_ble_eq_true rfl) hv_X11_restartExporter_146 rfl h_4 rfl dX11_restartExporter_4 ?_
  obtain ⟨n_1, h_5, b_2⟩ := in17 (k := 81) hI rfl
  replace b_2 : n_1 ≤ 12 := b_2
  have h_6 : Φ (x + 81) = some (o_ 6 [.ref (x + 82), .int (nI n_1)]) := h_5
  refine z_get (ref := "FlowExporter$FlowTable") (C := RX4) (T := TX4) (N := 2) (ci := 6) (v := .int (nI n_1)) B hu_X11_restartExporter_X4 rfl 1 (Nat.le_of_ble_eq_true rfl) hv_X11_restartExporter_150 rfl h_6 rfl dX11_restartExporter_7 ?_
  refine z_istore_n (lv' := [(1, .int (nI n_1)), (0, .ref x)]) B dX11_restartExporter_10 rfl (Nat.le_of_ble_eq_true rfl) rfl ?_
  refine z_aload_n B dX11_restartExporter_11 rfl 1 rfl ?_
  refine z_get (ref := "FlowExporter") (C := RX11) (T := TX11) (N := 8) (ci := 13) (v := .ref (x + 80)) B hu_X11_restartExporter_X11 rfl 5 (Nat.le_of_ble_eq_true rfl) hv_X11_restartExporter_55 rfl h_2 rfl dX11_restartExporter_12 ?_
  refine z_get (ref := "FlowExporter$Exporter") (C := RX2) (T := TX2) (N := 13) (ci := 4) (v := .ref (x + 81)) B hu_X11_restartExporter_X2 rfl 2 (Nat.le_of_ble_eq_true rfl) hv_X11_restartExporter_146 rfl h_4 rfl dX11_restartExporter_15 ?_
  refine z_iconst (v := 0) B dX11_restartExporter_18 rfl ?_
  refine z_put (ref := "FlowExporter$FlowTable") (C := RX4) (T := TX4) (N := 2) (ci := 6) (v := .int 0) B hu_X11_restartExporter_X4 tyX4 tyX4_ok nmX4 rfl 1 (Nat.le_of_ble_eq_true rfl) hv_X11_restartExporter_150 rfl (Or.inl rfl) h_6 (Nat.le_trans hx (Nat.le_add_right x 81)) rfl rfl (Nat.le_of_ble_eq_true rfl) dX11_restartExporter_19 (fun Φ1 hΦ1 => ?_)
  have h_7 : Φ1 (x + 81) = some (o_ 6 [.ref (x + 82), .int 0]) := fset_at hΦ1
  have hI1 : In G x (ca) Φ1 := In.put (k := 81) hI hΦ1 (ok17 (k := 81) rfl ⟨0, rfl, (show 0 ≤ 12 by omega)⟩)
  refine z_aload_n B dX11_restartExporter_22 rfl 1 rfl ?_
  have h_8 : Φ1 x = some (o_ 13 [.ref (x + 1), .ref (x + 3), .ref (x + 24), .ref (x + 46), .ref (x + 74), .ref (x + 80), .ref (x + 132), .ref (x + 121)]) := ((fset_fr hΦ1 (ne_off (x := x) (i := 0) (j := 81) rfl)).trans h_2)
  refine z_get (ref := "FlowExporter") (C := RX11) (T := TX11) (N := 8) (ci := 13) (v := .ref (x + 74)) B hu_X11_restartExporter_X11 rfl 4 (Nat.le_of_ble_eq_true rfl) hv_X11_restartExporter_46 rfl h_8 rfl dX11_restartExporter_23 ?_
  obtain ⟨n_2, v_10, v_11, v_12, h_9, b_3⟩ := in13 (k := 74) hI1 rfl
  have h_10 : Φ1 (x + 74) = some (o_ 10 [.ref (x + 3), .ref (x + 46), .ref (x + 75), .ref (x + 77), .int (nI n_2), .ref (x + 78), .ref (x + 79), .int v_10, .long v_11, .int v_12]) := h_9
  refine z_callV (As := []) (rest := []) B (s_X8_restart G l Φ1 sz x (ca)  hx hI1 ) (cwV 0 B.1.2.2.2.2 gX11_restartExporter_X8_restart rfl rfl rfl (by decide +kernel) ⟨Nat.le_of_ble_eq_true rfl, Nat.le_of_ble_eq_true rfl⟩) h_10 rfl rfl rfl rfl (Nat.le_of_ble_eq_true rfl) dX11_restartExporter_26 ⟨Nat.le_of_ble_eq_true rfl, Nat.le_of_ble_eq_true rfl⟩ (fun r_1 Φ2 sz1 st1 hp1 hs1 => ?_)
  obtain ⟨rfl, hq1, hI2, hF1⟩ := hp1
  subst sz1
  replace hs1 : st1 = [] := hs1
  subst st1
  replace hI2 : In G x (ca) Φ2 := hI2
  refine z_iload_n B dX11_restartExporter_29 rfl 0 rfl ?_
  exact z_ret_i B dX11_restartExporter_30 ⟨⟨_, rfl⟩, rfl, hI2, (fun b9 h9 => ((hF1 b9 (fun j9 h8 h7 => h9 j9 h8 (fq_441 j9 h7))).trans ((fset_fr hΦ1 (fun h8 => h9 (81) h8 (show 74 ≤ 81 ∧ 81 < 82 by decide))).trans rfl)))⟩

theorem hu_X11_observed_X11 : ∀ w ∈ u_ws RX11 TX11 8, w ∈ wsX11_observed := fun _ h => List.mem_cons_of_mem _ (List.mem_append_left _ (List.mem_append_right _ (h)))

theorem hv_X11_observed_55 : Cond.fieldLink RX11 55 "FlowExporter" (TX11 5).2.1 (TX11 5).2.2.1 ∈ wsX11_observed := List.mem_cons_of_mem _ (List.mem_append_left _ (List.mem_append_left _ (List.mem_of_getElem? (i := 0) rfl)))

theorem hu_X11_observed_X2 : ∀ w ∈ u_ws RX2 TX2 13, w ∈ wsX11_observed := fun _ h => List.mem_cons_of_mem _ (List.mem_append_right _ (h))

theorem hv_X11_observed_181 : Cond.fieldLink RX11 181 "FlowExporter$Exporter" (TX2 10).2.1 (TX2 10).2.2.1 ∈ wsX11_observed := List.mem_cons_of_mem _ (List.mem_append_left _ (List.mem_append_left _ (List.mem_of_getElem? (i := 1) rfl)))

set_option maxHeartbeats 4000000 in
set_option maxRecDepth 100000 in
theorem s_X11_observed (G : EnvG) (l : Launch) (Φ : Hm) (sz x ca : Nat) (nw : Int32) (rt : Int32) (dw : Int32) (aq : Int32) (xp : Int32) (xb : Int32) (ob : Int64) (sm : Int64) (un : Int64) (hx : G.2.2.2 ≤ x) (hI : In G x ca Φ) (hc0 : Φ (x + 80) = some (o_ 4 [.ref (x + 3), .ref (x + 74), .ref (x + 81), .ref (x + 95), .int nw, .int rt, .int dw, .int aq, .int xp, .int xb, .long ob, .long sm, .long un])) (had : aq = 0 ∨ aq = 1) : Ct G l yX11_observed wsX11_observed ({ frames := 0, cells := 0, slots := 0, locals := 0 }) 0 0 [.ref x] Φ sz (fun v Φ1 sz1 => ((v = some (.long ob)) ∧ Φ1 (x + 80) = some (o_ 4 [.ref (x + 3), .ref (x + 74), .ref (x + 81), .ref (x + 95), .int nw, .int rt, .int dw, .int aq, .int xp, .int xb, .long ob, .long sm, .long un])) ∧ sz1 = sz ∧ In G x (ca) Φ1 ∧ Fr x (fun j9 => False) Φ Φ1) := by
  refine Ct.of (cc := cX11_observed) (maxL := 1) (ret := (some .long)) (by decide) rfl (Nat.le_of_ble_eq_true rfl) ?_
  intro p9 e9 s9 m9 w9 t9 k9 B
  show Z p9 l e9 _ s9 m9 _ w9 t9 k9 _ G 1 0 [(0, .ref x)] [] Φ sz 0 0
  refine z_aload_n B dX11_observed_0 rfl 0 rfl ?_
  have h_1 := in0 (k := 0) hI rfl
  have h_2 : Φ x = some (o_ 13 [.ref (x + 1), .ref (x + 3), .ref (x + 24), .ref (x + 46), .ref (x + 74), .ref (x + 80), .ref (x + 132), .ref (x + 121)]) := h_1
  refine z_get (ref := "FlowExporter") (C := RX11) (T := TX11) (N := 8) (ci := 13) (v := .ref (x + 80)) B hu_X11_observed_X11 rfl 5 (Nat.le_of_ble_eq_true rfl) hv_X11_observed_55 rfl h_2 rfl dX11_observed_1 ?_
  refine z_get (ref := "FlowExporter$Exporter") (C := RX2) (T := TX2) (N := 13) (ci := 4) (v := .long ob) B hu_X11_observed_X2 rfl 10 (Nat.le_of_ble_eq_true rfl) hv_X11_observed_181 rfl hc0 rfl dX11_observed_4 ?_
  exact z_ret_l B dX11_observed_7 ⟨⟨rfl, hc0⟩, rfl, hI, (fun b9 h9 => rfl)⟩

theorem hu_X11_sampled_X11 : ∀ w ∈ u_ws RX11 TX11 8, w ∈ wsX11_sampled := fun _ h => List.mem_cons_of_mem _ (List.mem_append_left _ (List.mem_append_right _ (h)))

theorem hv_X11_sampled_55 : Cond.fieldLink RX11 55 "FlowExporter" (TX11 5).2.1 (TX11 5).2.2.1 ∈ wsX11_sampled := List.mem_cons_of_mem _ (List.mem_append_left _ (List.mem_append_left _ (List.mem_of_getElem? (i := 0) rfl)))

theorem hu_X11_sampled_X2 : ∀ w ∈ u_ws RX2 TX2 13, w ∈ wsX11_sampled := fun _ h => List.mem_cons_of_mem _ (List.mem_append_right _ (h))

theorem hv_X11_sampled_185 : Cond.fieldLink RX11 185 "FlowExporter$Exporter" (TX2 11).2.1 (TX2 11).2.2.1 ∈ wsX11_sampled := List.mem_cons_of_mem _ (List.mem_append_left _ (List.mem_append_left _ (List.mem_of_getElem? (i := 1) rfl)))

set_option maxHeartbeats 4000000 in
set_option maxRecDepth 100000 in
theorem s_X11_sampled (G : EnvG) (l : Launch) (Φ : Hm) (sz x ca : Nat)  (hx : G.2.2.2 ≤ x) (hI : In G x ca Φ)  : Ct G l yX11_sampled wsX11_sampled ({ frames := 0, cells := 0, slots := 0, locals := 0 }) 0 0 [.ref x] Φ sz (fun v Φ1 sz1 => (∃ r9 : Int64, v = some (.long r9)) ∧ sz1 = sz ∧ In G x (ca) Φ1 ∧ Fr x (fun j9 => False) Φ Φ1) := by
  refine Ct.of (cc := cX11_sampled) (maxL := 1) (ret := (some .long)) (by decide) rfl (Nat.le_of_ble_eq_true rfl) ?_
  intro p9 e9 s9 m9 w9 t9 k9 B
  show Z p9 l e9 _ s9 m9 _ w9 t9 k9 _ G 1 0 [(0, .ref x)] [] Φ sz 0 0
  refine z_aload_n B dX11_sampled_0 rfl 0 rfl ?_
  have h_1 := in0 (k := 0) hI rfl
  have h_2 : Φ x = some (o_ 13 [.ref (x + 1), .ref (x + 3), .ref (x + 24), .ref (x + 46), .ref (x + 74), .ref (x + 80), .ref (x + 132), .ref (x + 121)]) := h_1
  refine z_get (ref := "FlowExporter") (C := RX11) (T := TX11) (N := 8) (ci := 13) (v := .ref (x + 80)) B hu_X11_sampled_X11 rfl 5 (Nat.le_of_ble_eq_true rfl) hv_X11_sampled_55 rfl h_2 rfl dX11_sampled_1 ?_
  obtain ⟨v_1, v_2, v_3, v_4, v_5, v_6, v_7, v_8, v_9, h_3, b_1⟩ := in16 (k := 80) hI rfl
  have h_4 : Φ (x + 80) = some (o_ 4 [.ref (x + 3), .ref (x + 74), .ref (x + 81), .ref (x + 95), .int v_1, .int v_2, .int v_3, .int v_4, .int v_5, .int v_6, .long v_7, .long v_8, .long v_9]) := h_3
  refine z_get (ref := "FlowExporter$Exporter") (C := RX2) (T := TX2) (N := 13) (ci := 4) (v := .long v_8) B hu_X11_sampled_X2 rfl 11 (Nat.le_of_ble_eq_true rfl) hv_X11_sampled_185 rfl h_4 rfl dX11_sampled_4 ?_
  exact z_ret_l B dX11_sampled_7 ⟨⟨_, rfl⟩, rfl, hI, (fun b9 h9 => rfl)⟩

theorem hu_X11_unsent_X11 : ∀ w ∈ u_ws RX11 TX11 8, w ∈ wsX11_unsent := fun _ h => List.mem_cons_of_mem _ (List.mem_append_left _ (List.mem_append_right _ (h)))

theorem hv_X11_unsent_55 : Cond.fieldLink RX11 55 "FlowExporter" (TX11 5).2.1 (TX11 5).2.2.1 ∈ wsX11_unsent := List.mem_cons_of_mem _ (List.mem_append_left _ (List.mem_append_left _ (List.mem_of_getElem? (i := 0) rfl)))

theorem hu_X11_unsent_X2 : ∀ w ∈ u_ws RX2 TX2 13, w ∈ wsX11_unsent := fun _ h => List.mem_cons_of_mem _ (List.mem_append_right _ (h))

theorem hv_X11_unsent_188 : Cond.fieldLink RX11 188 "FlowExporter$Exporter" (TX2 12).2.1 (TX2 12).2.2.1 ∈ wsX11_unsent := List.mem_cons_of_mem _ (List.mem_append_left _ (List.mem_append_left _ (List.mem_of_getElem? (i := 1) rfl)))

set_option maxHeartbeats 4000000 in
set_option maxRecDepth 100000 in
theorem s_X11_unsent (G : EnvG) (l : Launch) (Φ : Hm) (sz x ca : Nat)  (hx : G.2.2.2 ≤ x) (hI : In G x ca Φ)  : Ct G l yX11_unsent wsX11_unsent ({ frames := 0, cells := 0, slots := 0, locals := 0 }) 0 0 [.ref x] Φ sz (fun v Φ1 sz1 => (∃ r9 : Int64, v = some (.long r9)) ∧ sz1 = sz ∧ In G x (ca) Φ1 ∧ Fr x (fun j9 => False) Φ Φ1) := by
  refine Ct.of (cc := cX11_unsent) (maxL := 1) (ret := (some .long)) (by decide) rfl (Nat.le_of_ble_eq_true rfl) ?_
  intro p9 e9 s9 m9 w9 t9 k9 B
  show Z p9 l e9 _ s9 m9 _ w9 t9 k9 _ G 1 0 [(0, .ref x)] [] Φ sz 0 0
  refine z_aload_n B dX11_unsent_0 rfl 0 rfl ?_
  have h_1 := in0 (k := 0) hI rfl
  have h_2 : Φ x = some (o_ 13 [.ref (x + 1), .ref (x + 3), .ref (x + 24), .ref (x + 46), .ref (x + 74), .ref (x + 80), .ref (x + 132), .ref (x + 121)]) := h_1
  refine z_get (ref := "FlowExporter") (C := RX11) (T := TX11) (N := 8) (ci := 13) (v := .ref (x + 80)) B hu_X11_unsent_X11 rfl 5 (Nat.le_of_ble_eq_true rfl) hv_X11_unsent_55 rfl h_2 rfl dX11_unsent_1 ?_
  obtain ⟨v_1, v_2, v_3, v_4, v_5, v_6, v_7, v_8, v_9, h_3, b_1⟩ := in16 (k := 80) hI rfl
  have h_4 : Φ (x + 80) = some (o_ 4 [.ref (x + 3), .ref (x + 74), .ref (x + 81), .ref (x + 95), .int v_1, .int v_2, .int v_3, .int v_4, .int v_5, .int v_6, .long v_7, .long v_8, .long v_9]) := h_3
  refine z_get (ref := "FlowExporter$Exporter") (C := RX2) (T := TX2) (N := 13) (ci := 4) (v := .long v_9) B hu_X11_unsent_X2 rfl 12 (Nat.le_of_ble_eq_true rfl) hv_X11_unsent_188 rfl h_4 rfl dX11_unsent_4 ?_
  exact z_ret_l B dX11_unsent_7 ⟨⟨_, rfl⟩, rfl, hI, (fun b9 h9 => rfl)⟩

theorem hu_X11_templateCount_X11 : ∀ w ∈ u_ws RX11 TX11 8, w ∈ wsX11_templateCount := fun _ h => List.mem_cons_of_mem _ (List.mem_append_left _ (List.mem_append_right _ (h)))

theorem hv_X11_templateCount_21 : Cond.fieldLink RX11 21 "FlowExporter" (TX11 1).2.1 (TX11 1).2.2.1 ∈ wsX11_templateCount := List.mem_cons_of_mem _ (List.mem_append_left _ (List.mem_append_left _ (List.mem_of_getElem? (i := 0) rfl)))

theorem hu_X11_templateCount_X1 : ∀ w ∈ u_ws RX1 TX1 6, w ∈ wsX11_templateCount := fun _ h => List.mem_cons_of_mem _ (List.mem_append_right _ (h))

theorem hv_X11_templateCount_191 : Cond.fieldLink RX11 191 "FlowExporter$Config" (TX1 4).2.1 (TX1 4).2.2.1 ∈ wsX11_templateCount := List.mem_cons_of_mem _ (List.mem_append_left _ (List.mem_append_left _ (List.mem_of_getElem? (i := 1) rfl)))

theorem hu_X11_requestTemplates_X11 : ∀ w ∈ u_ws RX11 TX11 8, w ∈ wsX11_requestTemplates := fun _ h => List.mem_cons_of_mem _ (List.mem_append_left _ (List.mem_append_right _ (h)))

theorem hv_X11_requestTemplates_46 : Cond.fieldLink RX11 46 "FlowExporter" (TX11 4).2.1 (TX11 4).2.2.1 ∈ wsX11_requestTemplates := List.mem_cons_of_mem _ (List.mem_append_left _ (List.mem_append_left _ (List.mem_of_getElem? (i := 0) rfl)))

set_option maxHeartbeats 4000000 in
set_option maxRecDepth 100000 in
theorem s_X11_requestTemplates (G : EnvG) (l : Launch) (Φ : Hm) (sz x ca : Nat)  (hx : G.2.2.2 ≤ x) (hI : In G x ca Φ)  : Ct G l yX11_requestTemplates wsX11_requestTemplates ({ frames := 2, cells := 0, slots := 0, locals := 43 }) 0 0 [.ref x] Φ sz (fun v Φ1 sz1 => (v = none) ∧ sz1 = sz ∧ In G x (ca) Φ1 ∧ Fr x (fun j9 => j9 = 78) Φ Φ1) := by
  refine Ct.of (cc := cX11_requestTemplates) (maxL := 1) (ret := none) (by decide) rfl (Nat.le_of_ble_eq_true rfl) ?_
  intro p9 e9 s9 m9 w9 t9 k9 B
  show Z p9 l e9 _ s9 m9 _ w9 t9 k9 _ G 1 0 [(0, .ref x)] [] Φ sz 0 0
  refine z_aload_n B dX11_requestTemplates_0 rfl 0 rfl ?_
  have h_1 := in0 (k := 0) hI rfl
  have h_2 : Φ x = some (o_ 13 [.ref (x + 1), .ref (x + 3), .ref (x + 24), .ref (x + 46), .ref (x + 74), .ref (x + 80), .ref (x + 132), .ref (x + 121)]) := h_1
  refine z_get (ref := "FlowExporter") (C := RX11) (T := TX11) (N := 8) (ci := 13) (v := .ref (x + 74)) B hu_X11_requestTemplates_X11 rfl 4 (Nat.le_of_ble_eq_true rfl) hv_X11_requestTemplates_46 rfl h_2 rfl dX11_requestTemplates_1 ?_
  obtain ⟨n_1, v_1, v_2, v_3, h_3, b_1⟩ := in13 (k := 74) hI rfl
  have h_4 : Φ (x + 74) = some (o_ 10 [.ref (x + 3), .ref (x + 46), .ref (x + 75), .ref (x + 77), .int (nI n_1), .ref (x + 78), .ref (x + 79), .int v_1, .long v_2, .int v_3]) := h_3
  refine z_callV (As := []) (rest := []) B (s_X8_forgetTemplates G l Φ sz x (ca)  hx hI ) (cwV 0 B.1.2.2.2.2 gX11_requestTemplates_X8_forgetTemplates rfl rfl rfl (by decide +kernel) ⟨Nat.le_of_ble_eq_true rfl, Nat.le_of_ble_eq_true rfl⟩) h_4 rfl rfl rfl rfl (Nat.le_of_ble_eq_true rfl) dX11_requestTemplates_4 ⟨Nat.le_of_ble_eq_true rfl, Nat.le_of_ble_eq_true rfl⟩ (fun r_1 Φ1 sz1 st1 hp1 hs1 => ?_)
  obtain ⟨rfl, hq1, hI1, hF1⟩ := hp1
  subst sz1
  replace hs1 : st1 = [] := hs1
  subst st1
  replace hI1 : In G x (ca) Φ1 := hI1
  exact z_ret_v B dX11_requestTemplates_7 ⟨rfl, rfl, hI1, (fun b9 h9 => ((hF1 b9 h9).trans rfl))⟩

theorem hu_X11_sent_X11 : ∀ w ∈ u_ws RX11 TX11 8, w ∈ wsX11_sent := fun _ h => List.mem_cons_of_mem _ (List.mem_append_left _ (List.mem_append_right _ (h)))

theorem hv_X11_sent_46 : Cond.fieldLink RX11 46 "FlowExporter" (TX11 4).2.1 (TX11 4).2.2.1 ∈ wsX11_sent := List.mem_cons_of_mem _ (List.mem_append_left _ (List.mem_append_left _ (List.mem_of_getElem? (i := 0) rfl)))

theorem hu_X11_sent_X8 : ∀ w ∈ u_ws RX8 TX8 10, w ∈ wsX11_sent := fun _ h => List.mem_cons_of_mem _ (List.mem_append_right _ (h))

theorem hv_X11_sent_232 : Cond.fieldLink RX11 232 "FlowExporter$Sender" (TX8 8).2.1 (TX8 8).2.2.1 ∈ wsX11_sent := List.mem_cons_of_mem _ (List.mem_append_left _ (List.mem_append_left _ (List.mem_of_getElem? (i := 1) rfl)))

set_option maxHeartbeats 4000000 in
set_option maxRecDepth 100000 in
theorem s_X11_sent (G : EnvG) (l : Launch) (Φ : Hm) (sz x ca : Nat)  (hx : G.2.2.2 ≤ x) (hI : In G x ca Φ)  : Ct G l yX11_sent wsX11_sent ({ frames := 0, cells := 0, slots := 0, locals := 0 }) 0 0 [.ref x] Φ sz (fun v Φ1 sz1 => (∃ r9 : Int64, v = some (.long r9)) ∧ sz1 = sz ∧ In G x (ca) Φ1 ∧ Fr x (fun j9 => False) Φ Φ1) := by
  refine Ct.of (cc := cX11_sent) (maxL := 1) (ret := (some .long)) (by decide) rfl (Nat.le_of_ble_eq_true rfl) ?_
  intro p9 e9 s9 m9 w9 t9 k9 B
  show Z p9 l e9 _ s9 m9 _ w9 t9 k9 _ G 1 0 [(0, .ref x)] [] Φ sz 0 0
  refine z_aload_n B dX11_sent_0 rfl 0 rfl ?_
  have h_1 := in0 (k := 0) hI rfl
  have h_2 : Φ x = some (o_ 13 [.ref (x + 1), .ref (x + 3), .ref (x + 24), .ref (x + 46), .ref (x + 74), .ref (x + 80), .ref (x + 132), .ref (x + 121)]) := h_1
  refine z_get (ref := "FlowExporter") (C := RX11) (T := TX11) (N := 8) (ci := 13) (v := .ref (x + 74)) B hu_X11_sent_X11 rfl 4 (Nat.le_of_ble_eq_true rfl) hv_X11_sent_46 rfl h_2 rfl dX11_sent_1 ?_
  obtain ⟨n_1, v_1, v_2, v_3, h_3, b_1⟩ := in13 (k := 74) hI rfl
  have h_4 : Φ (x + 74) = some (o_ 10 [.ref (x + 3), .ref (x + 46), .ref (x + 75), .ref (x + 77), .int (nI n_1), .ref (x + 78), .ref (x + 79), .int v_1, .long v_2, .int v_3]) := h_3
  refine z_get (ref := "FlowExporter$Sender") (C := RX8) (T := TX8) (N := 10) (ci := 10) (v := .long v_2) B hu_X11_sent_X8 rfl 8 (Nat.le_of_ble_eq_true rfl) hv_X11_sent_232 rfl h_4 rfl dX11_sent_4 ?_
  exact z_ret_l B dX11_sent_7 ⟨⟨_, rfl⟩, rfl, hI, (fun b9 h9 => rfl)⟩

theorem hu_X11_dropped_X11 : ∀ w ∈ u_ws RX11 TX11 8, w ∈ wsX11_dropped := fun _ h => List.mem_cons_of_mem _ (List.mem_append_left _ (List.mem_append_right _ (h)))

theorem hv_X11_dropped_37 : Cond.fieldLink RX11 37 "FlowExporter" (TX11 3).2.1 (TX11 3).2.2.1 ∈ wsX11_dropped := List.mem_cons_of_mem _ (List.mem_append_left _ (List.mem_append_left _ (List.mem_of_getElem? (i := 0) rfl)))

theorem hu_X11_dropped_X7 : ∀ w ∈ u_ws RX7 TX7 3, w ∈ wsX11_dropped := fun _ h => List.mem_cons_of_mem _ (List.mem_append_right _ (h))

theorem hv_X11_dropped_235 : Cond.fieldLink RX11 235 "FlowExporter$Queue" (TX7 2).2.1 (TX7 2).2.2.1 ∈ wsX11_dropped := List.mem_cons_of_mem _ (List.mem_append_left _ (List.mem_append_left _ (List.mem_of_getElem? (i := 1) rfl)))

set_option maxHeartbeats 4000000 in
set_option maxRecDepth 100000 in
theorem s_X11_dropped (G : EnvG) (l : Launch) (Φ : Hm) (sz x ca : Nat)  (hx : G.2.2.2 ≤ x) (hI : In G x ca Φ)  : Ct G l yX11_dropped wsX11_dropped ({ frames := 0, cells := 0, slots := 0, locals := 0 }) 0 0 [.ref x] Φ sz (fun v Φ1 sz1 => (∃ r9 : Int32, v = some (.int r9)) ∧ sz1 = sz ∧ In G x (ca) Φ1 ∧ Fr x (fun j9 => False) Φ Φ1) := by
  refine Ct.of (cc := cX11_dropped) (maxL := 1) (ret := (some .int)) (by decide) rfl (Nat.le_of_ble_eq_true rfl) ?_
  intro p9 e9 s9 m9 w9 t9 k9 B
  show Z p9 l e9 _ s9 m9 _ w9 t9 k9 _ G 1 0 [(0, .ref x)] [] Φ sz 0 0
  refine z_aload_n B dX11_dropped_0 rfl 0 rfl ?_
  have h_1 := in0 (k := 0) hI rfl
  have h_2 : Φ x = some (o_ 13 [.ref (x + 1), .ref (x + 3), .ref (x + 24), .ref (x + 46), .ref (x + 74), .ref (x + 80), .ref (x + 132), .ref (x + 121)]) := h_1
  refine z_get (ref := "FlowExporter") (C := RX11) (T := TX11) (N := 8) (ci := 13) (v := .ref (x + 46)) B hu_X11_dropped_X11 rfl 3 (Nat.le_of_ble_eq_true rfl) hv_X11_dropped_37 rfl h_2 rfl dX11_dropped_1 ?_
  obtain ⟨n_1, v_1, h_3, b_1⟩ := in11 (k := 46) hI rfl
  have h_4 : Φ (x + 46) = some (o_ 9 [.ref (x + 47), .int (nI n_1), .int v_1]) := h_3
  refine z_get (ref := "FlowExporter$Queue") (C := RX7) (T := TX7) (N := 3) (ci := 9) (v := .int v_1) B hu_X11_dropped_X7 rfl 2 (Nat.le_of_ble_eq_true rfl) hv_X11_dropped_235 rfl h_4 rfl dX11_dropped_4 ?_
  exact z_ret_i B dX11_dropped_7 ⟨⟨_, rfl⟩, rfl, hI, (fun b9 h9 => rfl)⟩

theorem hu_X11_sequence_X11 : ∀ w ∈ u_ws RX11 TX11 8, w ∈ wsX11_sequence := fun _ h => List.mem_cons_of_mem _ (List.mem_append_left _ (List.mem_append_right _ (h)))

theorem hv_X11_sequence_46 : Cond.fieldLink RX11 46 "FlowExporter" (TX11 4).2.1 (TX11 4).2.2.1 ∈ wsX11_sequence := List.mem_cons_of_mem _ (List.mem_append_left _ (List.mem_append_left _ (List.mem_of_getElem? (i := 0) rfl)))

theorem hu_X11_sequence_X8 : ∀ w ∈ u_ws RX8 TX8 10, w ∈ wsX11_sequence := fun _ h => List.mem_cons_of_mem _ (List.mem_append_right _ (h))

theorem hv_X11_sequence_238 : Cond.fieldLink RX11 238 "FlowExporter$Sender" (TX8 9).2.1 (TX8 9).2.2.1 ∈ wsX11_sequence := List.mem_cons_of_mem _ (List.mem_append_left _ (List.mem_append_left _ (List.mem_of_getElem? (i := 1) rfl)))

set_option maxHeartbeats 4000000 in
set_option maxRecDepth 100000 in
theorem s_X11_sequence (G : EnvG) (l : Launch) (Φ : Hm) (sz x ca : Nat)  (hx : G.2.2.2 ≤ x) (hI : In G x ca Φ)  : Ct G l yX11_sequence wsX11_sequence ({ frames := 0, cells := 0, slots := 0, locals := 0 }) 0 0 [.ref x] Φ sz (fun v Φ1 sz1 => (∃ r9 : Int64, v = some (.long r9)) ∧ sz1 = sz ∧ In G x (ca) Φ1 ∧ Fr x (fun j9 => False) Φ Φ1) := by
  refine Ct.of (cc := cX11_sequence) (maxL := 1) (ret := (some .long)) (by decide) rfl (Nat.le_of_ble_eq_true rfl) ?_
  intro p9 e9 s9 m9 w9 t9 k9 B
  show Z p9 l e9 _ s9 m9 _ w9 t9 k9 _ G 1 0 [(0, .ref x)] [] Φ sz 0 0
  refine z_aload_n B dX11_sequence_0 rfl 0 rfl ?_
  have h_1 := in0 (k := 0) hI rfl
  have h_2 : Φ x = some (o_ 13 [.ref (x + 1), .ref (x + 3), .ref (x + 24), .ref (x + 46), .ref (x + 74), .ref (x + 80), .ref (x + 132), .ref (x + 121)]) := h_1
  refine z_get (ref := "FlowExporter") (C := RX11) (T := TX11) (N := 8) (ci := 13) (v := .ref (x + 74)) B hu_X11_sequence_X11 rfl 4 (Nat.le_of_ble_eq_true rfl) hv_X11_sequence_46 rfl h_2 rfl dX11_sequence_1 ?_
  obtain ⟨n_1, v_1, v_2, v_3, h_3, b_1⟩ := in13 (k := 74) hI rfl
  have h_4 : Φ (x + 74) = some (o_ 10 [.ref (x + 3), .ref (x + 46), .ref (x + 75), .ref (x + 77), .int (nI n_1), .ref (x + 78), .ref (x + 79), .int v_1, .long v_2, .int v_3]) := h_3
  refine z_get (ref := "FlowExporter$Sender") (C := RX8) (T := TX8) (N := 10) (ci := 10) (v := .int v_3) B hu_X11_sequence_X8 rfl 9 (Nat.le_of_ble_eq_true rfl) hv_X11_sequence_238 rfl h_4 rfl dX11_sequence_4 ?_
  refine z_i2l (v := v_3.toInt64) B dX11_sequence_7 rfl ?_
  refine z_fl (fun v_4 => ?_)
  refine z_ldc2 (v := 4294967295) B (by decide +kernel) dX11_sequence_8 ?_
  refine z_land B dX11_sequence_11 ?_
  refine z_fl (fun v_5 => ?_)
  exact z_ret_l B dX11_sequence_12 ⟨⟨_, rfl⟩, rfl, hI, (fun b9 h9 => rfl)⟩

theorem hu_X11_queueLength_X11 : ∀ w ∈ u_ws RX11 TX11 8, w ∈ wsX11_queueLength := fun _ h => List.mem_cons_of_mem _ (List.mem_append_left _ (List.mem_append_right _ (h)))

theorem hv_X11_queueLength_37 : Cond.fieldLink RX11 37 "FlowExporter" (TX11 3).2.1 (TX11 3).2.2.1 ∈ wsX11_queueLength := List.mem_cons_of_mem _ (List.mem_append_left _ (List.mem_append_left _ (List.mem_of_getElem? (i := 0) rfl)))

theorem hu_X11_queueLength_X7 : ∀ w ∈ u_ws RX7 TX7 3, w ∈ wsX11_queueLength := fun _ h => List.mem_cons_of_mem _ (List.mem_append_right _ (h))

theorem hv_X11_queueLength_231 : Cond.fieldLink RX11 231 "FlowExporter$Queue" (TX7 1).2.1 (TX7 1).2.2.1 ∈ wsX11_queueLength := List.mem_cons_of_mem _ (List.mem_append_left _ (List.mem_append_left _ (List.mem_of_getElem? (i := 1) rfl)))

set_option maxHeartbeats 4000000 in
set_option maxRecDepth 100000 in
theorem s_X11_queueLength (G : EnvG) (l : Launch) (Φ : Hm) (sz x ca : Nat)  (hx : G.2.2.2 ≤ x) (hI : In G x ca Φ)  : Ct G l yX11_queueLength wsX11_queueLength ({ frames := 0, cells := 0, slots := 0, locals := 0 }) 0 0 [.ref x] Φ sz (fun v Φ1 sz1 => (∃ r9 : Int32, v = some (.int r9)) ∧ sz1 = sz ∧ In G x (ca) Φ1 ∧ Fr x (fun j9 => False) Φ Φ1) := by
  refine Ct.of (cc := cX11_queueLength) (maxL := 1) (ret := (some .int)) (by decide) rfl (Nat.le_of_ble_eq_true rfl) ?_
  intro p9 e9 s9 m9 w9 t9 k9 B
  show Z p9 l e9 _ s9 m9 _ w9 t9 k9 _ G 1 0 [(0, .ref x)] [] Φ sz 0 0
  refine z_aload_n B dX11_queueLength_0 rfl 0 rfl ?_
  have h_1 := in0 (k := 0) hI rfl
  have h_2 : Φ x = some (o_ 13 [.ref (x + 1), .ref (x + 3), .ref (x + 24), .ref (x + 46), .ref (x + 74), .ref (x + 80), .ref (x + 132), .ref (x + 121)]) := h_1
  refine z_get (ref := "FlowExporter") (C := RX11) (T := TX11) (N := 8) (ci := 13) (v := .ref (x + 46)) B hu_X11_queueLength_X11 rfl 3 (Nat.le_of_ble_eq_true rfl) hv_X11_queueLength_37 rfl h_2 rfl dX11_queueLength_1 ?_
  obtain ⟨n_1, v_1, h_3, b_1⟩ := in11 (k := 46) hI rfl
  have h_4 : Φ (x + 46) = some (o_ 9 [.ref (x + 47), .int (nI n_1), .int v_1]) := h_3
  refine z_get (ref := "FlowExporter$Queue") (C := RX7) (T := TX7) (N := 3) (ci := 9) (v := .int (nI n_1)) B hu_X11_queueLength_X7 rfl 1 (Nat.le_of_ble_eq_true rfl) hv_X11_queueLength_231 rfl h_4 rfl dX11_queueLength_4 ?_
  exact z_ret_i B dX11_queueLength_7 ⟨⟨_, rfl⟩, rfl, hI, (fun b9 h9 => rfl)⟩

theorem hu_X11_knownTemplates_X11 : ∀ w ∈ u_ws RX11 TX11 8, w ∈ wsX11_knownTemplates := fun _ h => List.mem_cons_of_mem _ (List.mem_append_left _ (List.mem_append_left _ (List.mem_append_left _ (List.mem_append_left _ (List.mem_append_left _ (List.mem_append_right _ (h)))))))

theorem hv_X11_knownTemplates_71 : Cond.fieldLink RX11 71 "FlowExporter" (TX11 6).2.1 (TX11 6).2.2.1 ∈ wsX11_knownTemplates := List.mem_cons_of_mem _ (List.mem_append_left _ (List.mem_append_left _ (List.mem_append_left _ (List.mem_append_left _ (List.mem_append_left _ (List.mem_append_left _ (List.mem_append_left _ (List.mem_of_getElem? (i := 0) rfl))))))))

theorem hv_X11_knownTemplates_55 : Cond.fieldLink RX11 55 "FlowExporter" (TX11 5).2.1 (TX11 5).2.2.1 ∈ wsX11_knownTemplates := List.mem_cons_of_mem _ (List.mem_append_left _ (List.mem_append_left _ (List.mem_append_left _ (List.mem_append_left _ (List.mem_append_left _ (List.mem_append_left _ (List.mem_append_left _ (List.mem_of_getElem? (i := 1) rfl))))))))

theorem hu_X11_knownTemplates_X2 : ∀ w ∈ u_ws RX2 TX2 13, w ∈ wsX11_knownTemplates := fun _ h => List.mem_cons_of_mem _ (List.mem_append_left _ (List.mem_append_left _ (List.mem_append_left _ (List.mem_append_left _ (List.mem_append_right _ (h))))))

theorem hv_X11_knownTemplates_110 : Cond.fieldLink RX11 110 "FlowExporter$Exporter" (TX2 4).2.1 (TX2 4).2.2.1 ∈ wsX11_knownTemplates := List.mem_cons_of_mem _ (List.mem_append_left _ (List.mem_append_left _ (List.mem_append_left _ (List.mem_append_left _ (List.mem_append_left _ (List.mem_append_left _ (List.mem_append_left _ (List.mem_of_getElem? (i := 2) rfl))))))))

set_option maxHeartbeats 4000000 in
set_option maxRecDepth 100000 in
theorem s_X11_knownTemplates (G : EnvG) (l : Launch) (Φ : Hm) (sz x ca : Nat)  (hx : G.2.2.2 ≤ x) (hI : In G x ca Φ)  : Ct G l yX11_knownTemplates wsX11_knownTemplates ({ frames := 3, cells := 0, slots := 0, locals := 68 }) 0 0 [.ref x] Φ sz (fun v Φ1 sz1 => (∃ r9 : Int32, v = some (.int r9)) ∧ sz1 = sz ∧ In G x (ca) Φ1 ∧ Fr x (fun j9 => False) Φ Φ1) := by
  refine Ct.of (cc := cX11_knownTemplates) (maxL := 1) (ret := (some .int)) (by decide) rfl (Nat.le_of_ble_eq_true rfl) ?_
  intro p9 e9 s9 m9 w9 t9 k9 B
  show Z p9 l e9 _ s9 m9 _ w9 t9 k9 _ G 1 0 [(0, .ref x)] [] Φ sz 0 0
  refine z_aload_n B dX11_knownTemplates_0 rfl 0 rfl ?_
  have h_1 := in0 (k := 0) hI rfl
  have h_2 : Φ x = some (o_ 13 [.ref (x + 1), .ref (x + 3), .ref (x + 24), .ref (x + 46), .ref (x + 74), .ref (x + 80), .ref (x + 132), .ref (x + 121)]) := h_1
  refine z_get (ref := "FlowExporter") (C := RX11) (T := TX11) (N := 8) (ci := 13) (v := .ref (x + 132)) B hu_X11_knownTemplates_X11 rfl 6 (Nat.le_of_ble_eq_true rfl) hv_X11_knownTemplates_71 rfl h_2 rfl dX11_knownTemplates_1 ?_
  refine z_aload_n B dX11_knownTemplates_4 rfl 0 rfl ?_
  refine z_get (ref := "FlowExporter") (C := RX11) (T := TX11) (N := 8) (ci := 13) (v := .ref (x + 80)) B hu_X11_knownTemplates_X11 rfl 5 (Nat.le_of_ble_eq_true rfl) hv_X11_knownTemplates_55 rfl h_2 rfl dX11_knownTemplates_5 ?_
  obtain ⟨v_1, v_2, v_3, v_4, v_5, v_6, v_7, v_8, v_9, h_3, b_1⟩ := in16 (k := 80) hI rfl
  have h_4 : Φ (x + 80) = some (o_ 4 [.ref (x + 3), .ref (x + 74), .ref (x + 81), .ref (x + 95), .int v_1, .int v_2, .int v_3, .int v_4, .int v_5, .int v_6, .long v_7, .long v_8, .long v_9]) := h_3
  refine z_get (ref := "FlowExporter$Exporter") (C := RX2) (T := TX2) (N := 13) (ci := 4) (v := .int v_1) B hu_X11_knownTemplates_X2 rfl 4 (Nat.le_of_ble_eq_true rfl) hv_X11_knownTemplates_110 rfl h_4 rfl dX11_knownTemplates_8 ?_
  obtain ⟨n_1, v_10, v_11, h_5, b_2⟩ := in25 (k := 132) hI rfl
  have h_6 : Φ (x + 132) = some (o_ 2 [.ref (x + 3), .ref (x + 121), .ref (x + 133), .ref (x + 134), .ref (x + 135), .ref (x + 137), .ref (x + 138), .ref (x + 139), .ref (x + 140), .int (nI n_1), .int v_10, .int v_11]) := h_5
  refine z_callV (As := [.int v_1]) (rest := []) B (s_X0_usableTemplates G l Φ sz x (ca) v_1 hx hI ) (cwV 1 B.1.2.2.2.2 gX11_knownTemplates_X0_usableTemplates rfl rfl rfl (by decide +kernel) ⟨Nat.le_of_ble_eq_true rfl, Nat.le_of_ble_eq_true rfl⟩) h_6 rfl rfl rfl rfl (Nat.le_of_ble_eq_true rfl) dX11_knownTemplates_11 ⟨Nat.le_of_ble_eq_true rfl, Nat.le_of_ble_eq_true rfl⟩ (fun r_1 Φ1 sz1 st1 hp1 hs1 => ?_)
  obtain ⟨⟨v_12, rfl⟩, hq1, hI1, hF1⟩ := hp1
  subst sz1
  replace hs1 : st1 = [.int v_12] := hs1
  subst st1
  replace hI1 : In G x (ca) Φ1 := hI1
  exact z_ret_i B dX11_knownTemplates_14 ⟨⟨_, rfl⟩, rfl, hI1, (fun b9 h9 => ((hF1 b9 (fun j9 h8 h7 => (show False from h7).elim)).trans rfl))⟩

theorem hu_X11_expected_X11 : ∀ w ∈ u_ws RX11 TX11 8, w ∈ wsX11_expected := fun _ h => List.mem_cons_of_mem _ (List.mem_append_left _ (List.mem_append_right _ (h)))

theorem hv_X11_expected_71 : Cond.fieldLink RX11 71 "FlowExporter" (TX11 6).2.1 (TX11 6).2.2.1 ∈ wsX11_expected := List.mem_cons_of_mem _ (List.mem_append_left _ (List.mem_append_left _ (List.mem_of_getElem? (i := 0) rfl)))

theorem hu_X11_expected_X0 : ∀ w ∈ u_ws RX0 TX0 12, w ∈ wsX11_expected := fun _ h => List.mem_cons_of_mem _ (List.mem_append_right _ (h))

theorem hv_X11_expected_286 : Cond.fieldLink RX11 286 "FlowExporter$Collector" (TX0 11).2.1 (TX0 11).2.2.1 ∈ wsX11_expected := List.mem_cons_of_mem _ (List.mem_append_left _ (List.mem_append_left _ (List.mem_of_getElem? (i := 1) rfl)))

set_option maxHeartbeats 4000000 in
set_option maxRecDepth 100000 in
theorem s_X11_expected (G : EnvG) (l : Launch) (Φ : Hm) (sz x ca : Nat)  (hx : G.2.2.2 ≤ x) (hI : In G x ca Φ) (hca : ca < 1000000) : Ct G l yX11_expected wsX11_expected ({ frames := 1, cells := 0, slots := 0, locals := 20 }) 0 0 [.ref x] Φ sz (fun v Φ1 sz1 => (∃ r9 : Int64, v = some (.long r9)) ∧ sz1 = sz ∧ In G x (ca) Φ1 ∧ Fr x (fun j9 => False) Φ Φ1) := by
  refine Ct.of (cc := cX11_expected) (maxL := 1) (ret := (some .long)) (by decide) rfl (Nat.le_of_ble_eq_true rfl) ?_
  intro p9 e9 s9 m9 w9 t9 k9 B
  show Z p9 l e9 _ s9 m9 _ w9 t9 k9 _ G 1 0 [(0, .ref x)] [] Φ sz 0 0
  refine z_aload_n B dX11_expected_0 rfl 0 rfl ?_
  have h_1 := in0 (k := 0) hI rfl
  have h_2 : Φ x = some (o_ 13 [.ref (x + 1), .ref (x + 3), .ref (x + 24), .ref (x + 46), .ref (x + 74), .ref (x + 80), .ref (x + 132), .ref (x + 121)]) := h_1
  refine z_get (ref := "FlowExporter") (C := RX11) (T := TX11) (N := 8) (ci := 13) (v := .ref (x + 132)) B hu_X11_expected_X11 rfl 6 (Nat.le_of_ble_eq_true rfl) hv_X11_expected_71 rfl h_2 rfl dX11_expected_1 ?_
  obtain ⟨n_1, v_1, v_2, h_3, b_1⟩ := in25 (k := 132) hI rfl
  have h_4 : Φ (x + 132) = some (o_ 2 [.ref (x + 3), .ref (x + 121), .ref (x + 133), .ref (x + 134), .ref (x + 135), .ref (x + 137), .ref (x + 138), .ref (x + 139), .ref (x + 140), .int (nI n_1), .int v_1, .int v_2]) := h_3
  refine z_callV (As := []) (rest := []) B (s_X0_hasStarted G l Φ sz x (ca)  hx hI (show ca < 1000000 by omega)) (cwV 0 B.1.2.2.2.2 gX11_expected_X0_hasStarted rfl rfl rfl (by decide +kernel) ⟨Nat.le_of_ble_eq_true rfl, Nat.le_of_ble_eq_true rfl⟩) h_4 rfl rfl rfl rfl (Nat.le_of_ble_eq_true rfl) dX11_expected_4 ⟨Nat.le_of_ble_eq_true rfl, Nat.le_of_ble_eq_true rfl⟩ (fun r_1 Φ1 sz1 st1 hp1 hs1 => ?_)
  obtain ⟨⟨v_3, rfl, b_2⟩, hq1, hI1, hF1⟩ := hp1
  subst sz1
  replace hs1 : st1 = [.int v_3] := hs1
  subst st1
  replace hI1 : In G x (ca) Φ1 := hI1
  refine z_if_eq (tgt := 25) B dX11_expected_7 rfl (fun c_1 => ?_) (fun c_1 => ?_)
  · refine z_ldc2 (v := (-1)) B (by decide +kernel) dX11_expected_25 ?_
    exact z_ret_l B dX11_expected_28 ⟨⟨_, rfl⟩, rfl, hI1, (fun b9 h9 => ((hF1 b9 (fun j9 h8 h7 => (show False from h7).elim)).trans rfl))⟩
  · refine z_aload_n B dX11_expected_10 rfl 0 rfl ?_
    have h_5 : Φ1 x = some (o_ 13 [.ref (x + 1), .ref (x + 3), .ref (x + 24), .ref (x + 46), .ref (x + 74), .ref (x + 80), .ref (x + 132), .ref (x + 121)]) := ((hF1 x (fun j9 h8 h7 => (show False from h7).elim)).trans h_2)
    refine z_get (ref := "FlowExporter") (C := RX11) (T := TX11) (N := 8) (ci := 13) (v := .ref (x + 132)) B hu_X11_expected_X11 rfl 6 (Nat.le_of_ble_eq_true rfl) hv_X11_expected_71 rfl h_5 rfl dX11_expected_11 ?_
    have h_6 : Φ1 (x + 132) = some (o_ 2 [.ref (x + 3), .ref (x + 121), .ref (x + 133), .ref (x + 134), .ref (x + 135), .ref (x + 137), .ref (x + 138), .ref (x + 139), .ref (x + 140), .int (nI n_1), .int v_1, .int v_2]) := ((hF1 (x + 132) (fun j9 h8 h7 => (show False from h7).elim)).trans h_4)
    refine z_get (ref := "FlowExporter$Collector") (C := RX0) (T := TX0) (N := 12) (ci := 2) (v := .int v_2) B hu_X11_expected_X0 rfl 11 (Nat.le_of_ble_eq_true rfl) hv_X11_expected_286 rfl h_6 rfl dX11_expected_14 ?_
    refine z_i2l (v := v_2.toInt64) B dX11_expected_17 rfl ?_
    refine z_fl (fun v_4 => ?_)
    refine z_ldc2 (v := 4294967295) B (by decide +kernel) dX11_expected_18 ?_
    refine z_land B dX11_expected_21 ?_
    refine z_fl (fun v_5 => ?_)
    refine z_goto (tgt := 28) B dX11_expected_22 rfl ?_
    exact z_ret_l B dX11_expected_28 ⟨⟨_, rfl⟩, rfl, hI1, (fun b9 h9 => ((hF1 b9 (fun j9 h8 h7 => (show False from h7).elim)).trans rfl))⟩

theorem hu_X11_restartCollector_X11 : ∀ w ∈ u_ws RX11 TX11 8, w ∈ wsX11_restartCollector := fun _ h => List.mem_cons_of_mem _ (List.mem_append_left _ (List.mem_append_left _ (List.mem_append_right _ (h))))

theorem hv_X11_restartCollector_71 : Cond.fieldLink RX11 71 "FlowExporter" (TX11 6).2.1 (TX11 6).2.2.1 ∈ wsX11_restartCollector := List.mem_cons_of_mem _ (List.mem_append_left _ (List.mem_append_left _ (List.mem_append_left _ (List.mem_of_getElem? (i := 0) rfl))))

set_option maxHeartbeats 4000000 in
set_option maxRecDepth 100000 in
theorem s_X11_restartCollector (G : EnvG) (l : Launch) (Φ : Hm) (sz x ca : Nat)  (hx : G.2.2.2 ≤ x) (hI : In G x ca Φ)  : Ct G l yX11_restartCollector wsX11_restartCollector ({ frames := 2, cells := 0, slots := 0, locals := 42 }) 0 0 [.ref x] Φ sz (fun v Φ1 sz1 => (∃ r9 : Int32, v = some (.int r9)) ∧ sz1 = sz ∧ In G x (ca) Φ1 ∧ Fr x (fun j9 => 132 ≤ j9 ∧ j9 < 149) Φ Φ1) := by
  refine Ct.of (cc := cX11_restartCollector) (maxL := 1) (ret := (some .int)) (by decide) rfl (Nat.le_of_ble_eq_true rfl) ?_
  intro p9 e9 s9 m9 w9 t9 k9 B
  show Z p9 l e9 _ s9 m9 _ w9 t9 k9 _ G 1 0 [(0, .ref x)] [] Φ sz 0 0
  refine z_aload_n B dX11_restartCollector_0 rfl 0 rfl ?_
  have h_1 := in0 (k := 0) hI rfl
  have h_2 : Φ x = some (o_ 13 [.ref (x + 1), .ref (x + 3), .ref (x + 24), .ref (x + 46), .ref (x + 74), .ref (x + 80), .ref (x + 132), .ref (x + 121)]) := h_1
  refine z_get (ref := "FlowExporter") (C := RX11) (T := TX11) (N := 8) (ci := 13) (v := .ref (x + 132)) B hu_X11_restartCollector_X11 rfl 6 (Nat.le_of_ble_eq_true rfl) hv_X11_restartCollector_71 rfl h_2 rfl dX11_restartCollector_1 ?_
  obtain ⟨n_1, v_1, v_2, h_3, b_1⟩ := in25 (k := 132) hI rfl
  have h_4 : Φ (x + 132) = some (o_ 2 [.ref (x + 3), .ref (x + 121), .ref (x + 133), .ref (x + 134), .ref (x + 135), .ref (x + 137), .ref (x + 138), .ref (x + 139), .ref (x + 140), .int (nI n_1), .int v_1, .int v_2]) := h_3
  refine z_callV (As := []) (rest := []) B (s_X0_restart G l Φ sz x (ca)  hx hI ) (cwV 0 B.1.2.2.2.2 gX11_restartCollector_X0_restart rfl rfl rfl (by decide +kernel) ⟨Nat.le_of_ble_eq_true rfl, Nat.le_of_ble_eq_true rfl⟩) h_4 rfl rfl rfl rfl (Nat.le_of_ble_eq_true rfl) dX11_restartCollector_4 ⟨Nat.le_of_ble_eq_true rfl, Nat.le_of_ble_eq_true rfl⟩ (fun r_1 Φ1 sz1 st1 hp1 hs1 => ?_)
  obtain ⟨⟨v_3, rfl⟩, hq1, hI1, hF1⟩ := hp1
  subst sz1
  replace hs1 : st1 = [.int v_3] := hs1
  subst st1
  replace hI1 : In G x (ca) Φ1 := hI1
  exact z_ret_i B dX11_restartCollector_7 ⟨⟨_, rfl⟩, rfl, hI1, (fun b9 h9 => ((hF1 b9 h9).trans rfl))⟩

theorem hu_X11_keyCount_X11 : ∀ w ∈ u_ws RX11 TX11 8, w ∈ wsX11_keyCount := fun _ h => List.mem_cons_of_mem _ (List.mem_append_left _ (List.mem_append_right _ (h)))

theorem hv_X11_keyCount_62 : Cond.fieldLink RX11 62 "FlowExporter" (TX11 7).2.1 (TX11 7).2.2.1 ∈ wsX11_keyCount := List.mem_cons_of_mem _ (List.mem_append_left _ (List.mem_append_left _ (List.mem_of_getElem? (i := 0) rfl)))

theorem hu_X11_keyCount_X9 : ∀ w ∈ u_ws RX9 TX9 5, w ∈ wsX11_keyCount := fun _ h => List.mem_cons_of_mem _ (List.mem_append_right _ (h))

theorem hv_X11_keyCount_92 : Cond.fieldLink RX11 92 "FlowExporter$Sums" (TX9 4).2.1 (TX9 4).2.2.1 ∈ wsX11_keyCount := List.mem_cons_of_mem _ (List.mem_append_left _ (List.mem_append_left _ (List.mem_of_getElem? (i := 1) rfl)))

set_option maxHeartbeats 4000000 in
set_option maxRecDepth 100000 in
theorem s_X11_keyCount (G : EnvG) (l : Launch) (Φ : Hm) (sz x ca : Nat)  (hx : G.2.2.2 ≤ x) (hI : In G x ca Φ)  : Ct G l yX11_keyCount wsX11_keyCount ({ frames := 0, cells := 0, slots := 0, locals := 0 }) 0 0 [.ref x] Φ sz (fun v Φ1 sz1 => (∃ r9 : Int32, v = some (.int r9)) ∧ sz1 = sz ∧ In G x (ca) Φ1 ∧ Fr x (fun j9 => False) Φ Φ1) := by
  refine Ct.of (cc := cX11_keyCount) (maxL := 1) (ret := (some .int)) (by decide) rfl (Nat.le_of_ble_eq_true rfl) ?_
  intro p9 e9 s9 m9 w9 t9 k9 B
  show Z p9 l e9 _ s9 m9 _ w9 t9 k9 _ G 1 0 [(0, .ref x)] [] Φ sz 0 0
  refine z_aload_n B dX11_keyCount_0 rfl 0 rfl ?_
  have h_1 := in0 (k := 0) hI rfl
  have h_2 : Φ x = some (o_ 13 [.ref (x + 1), .ref (x + 3), .ref (x + 24), .ref (x + 46), .ref (x + 74), .ref (x + 80), .ref (x + 132), .ref (x + 121)]) := h_1
  refine z_get (ref := "FlowExporter") (C := RX11) (T := TX11) (N := 8) (ci := 13) (v := .ref (x + 121)) B hu_X11_keyCount_X11 rfl 7 (Nat.le_of_ble_eq_true rfl) hv_X11_keyCount_62 rfl h_2 rfl dX11_keyCount_1 ?_
  obtain ⟨n_1, h_3, b_1⟩ := in20 (k := 121) hI rfl
  have h_4 : Φ (x + 121) = some (o_ 11 [.ref (x + 122), .ref (x + 123), .ref (x + 126), .ref (x + 129), .int (nI n_1)]) := h_3
  refine z_get (ref := "FlowExporter$Sums") (C := RX9) (T := TX9) (N := 5) (ci := 11) (v := .int (nI n_1)) B hu_X11_keyCount_X9 rfl 4 (Nat.le_of_ble_eq_true rfl) hv_X11_keyCount_92 rfl h_4 rfl dX11_keyCount_4 ?_
  exact z_ret_i B dX11_keyCount_7 ⟨⟨_, rfl⟩, rfl, hI, (fun b9 h9 => rfl)⟩

theorem hu_X11_appendInput_X11 : ∀ w ∈ u_ws RX11 TX11 8, w ∈ wsX11_appendInput := fun _ h => List.mem_cons_of_mem _ (List.mem_append_left _ (List.mem_append_left _ (List.mem_append_right _ (h))))

theorem hv_X11_appendInput_14 : Cond.fieldLink RX11 14 "FlowExporter" (TX11 0).2.1 (TX11 0).2.2.1 ∈ wsX11_appendInput := List.mem_cons_of_mem _ (List.mem_append_left _ (List.mem_append_left _ (List.mem_append_left _ (List.mem_of_getElem? (i := 0) rfl))))

theorem hu_X11_appendInput_X5 : ∀ w ∈ u_ws RX5 TX5 2, w ∈ wsX11_appendInput := fun _ h => List.mem_cons_of_mem _ (List.mem_append_left _ (List.mem_append_right _ (h)))

theorem hv_X11_appendInput_97 : Cond.fieldLink RX11 97 "FlowExporter$Message" (TX5 1).2.1 (TX5 1).2.2.1 ∈ wsX11_appendInput := List.mem_cons_of_mem _ (List.mem_append_left _ (List.mem_append_left _ (List.mem_append_left _ (List.mem_of_getElem? (i := 1) rfl))))

theorem fq_495 {x : Nat} : ∀ j9 : Nat, x = x + j9 → (j9 = 1 ∨ j9 = 2) → False := by
  intro j9 h1 h2
  omega

theorem fq_496 : ∀ j9 : Nat, (j9 = 1 ∨ j9 = 2) → (1 ≤ j9 ∧ j9 < 149) := by
  intro j9 h
  omega

set_option maxHeartbeats 4000000 in
set_option maxRecDepth 100000 in
theorem s_X11_appendInput (G : EnvG) (l : Launch) (Φ : Hm) (sz x ca : Nat) (n : Nat) (a : Int32) (b : Int32) (d : Int32) (f : Int32) (g : Int32) (hx : G.2.2.2 ≤ x) (hI : In G x ca Φ) (hc0 : Φ (x + 1) = some (o_ 7 [.ref (x + 2), .int (nI n)])) (hn : n ≤ 700) : Ct G l yX11_appendInput wsX11_appendInput ({ frames := 1, cells := 0, slots := 0, locals := 24 }) 0 0 [.ref x, .int a, .int b, .int d, .int f, .int g] Φ sz (fun v Φ1 sz1 => (∃ n9 : Nat, Φ1 (x + 1) = some (o_ 7 [.ref (x + 2), .int (nI n9)]) ∧ apV n v n9) ∧ sz1 = sz ∧ In G x (ca) Φ1 ∧ Fr x (fun j9 => 1 ≤ j9 ∧ j9 < 149) Φ Φ1) := by
  refine Ct.of (cc := cX11_appendInput) (maxL := 6) (ret := (some .int)) (by decide) rfl (Nat.le_of_ble_eq_true rfl) ?_
  intro p9 e9 s9 m9 w9 t9 k9 B
  show Z p9 l e9 _ s9 m9 _ w9 t9 k9 _ G 6 0 [(0, .ref x), (1, .int a), (2, .int b), (3, .int d), (4, .int f), (5, .int g)] [] Φ sz 0 0
  refine z_aload_n B dX11_appendInput_0 rfl 0 rfl ?_
  have h_1 := in0 (k := 0) hI rfl
  have h_2 : Φ x = some (o_ 13 [.ref (x + 1), .ref (x + 3), .ref (x + 24), .ref (x + 46), .ref (x + 74), .ref (x + 80), .ref (x + 132), .ref (x + 121)]) := h_1
  refine z_get (ref := "FlowExporter") (C := RX11) (T := TX11) (N := 8) (ci := 13) (v := .ref (x + 1)) B hu_X11_appendInput_X11 rfl 0 (Nat.le_of_ble_eq_true rfl) hv_X11_appendInput_14 rfl h_2 rfl dX11_appendInput_1 ?_
  refine z_get (ref := "FlowExporter$Message") (C := RX5) (T := TX5) (N := 2) (ci := 7) (v := .int (nI n)) B hu_X11_appendInput_X5 rfl 1 (Nat.le_of_ble_eq_true rfl) hv_X11_appendInput_97 rfl hc0 rfl dX11_appendInput_4 ?_
  refine z_bipush (v := 20) B dX11_appendInput_7 rfl ?_
  refine z_iadd B dX11_appendInput_9 ?_
  refine z_top (st1 := [.int (nI (n + 20))]) (congrArg (fun w9 : Int32 => ([.int w9] : List Value)) (nI_add n 20)) ?_
  refine z_sipush (v := 700) B dX11_appendInput_10 rfl ?_
  refine z_icmp_le (tgt := 18) B dX11_appendInput_13 rfl (fun c_1 => ?_) (fun c_1 => ?_)
  · have e_1 : n + 20 ≤ 700 := (nI_leI (a := n + 20) (b := 700) (by omega) (by omega)).mp c_1
    refine z_aload_n B dX11_appendInput_18 rfl 0 rfl ?_
    refine z_get (ref := "FlowExporter") (C := RX11) (T := TX11) (N := 8) (ci := 13) (v := .ref (x + 1)) B hu_X11_appendInput_X11 rfl 0 (Nat.le_of_ble_eq_true rfl) hv_X11_appendInput_14 rfl h_2 rfl dX11_appendInput_19 ?_
    refine z_iload_n B dX11_appendInput_22 rfl 1 rfl ?_
    refine z_i2l (v := a.toInt64) B dX11_appendInput_23 rfl ?_
    refine z_fl (fun v_1 => ?_)
    refine z_iconst (v := 4) B dX11_appendInput_24 rfl ?_
    refine z_callV (As := [.long v_1, .int 4]) (rest := []) B (s_X5_put1 G l Φ sz x (ca) n v_1 4 hx hI hc0 (show 4 ≤ 8 by omega) (show n + 4 ≤ 700 by omega)) (cwV 2 B.1.2.2.2.2 gX11_appendInput_X5_put rfl rfl rfl (by decide +kernel) ⟨Nat.le_of_ble_eq_true rfl, Nat.le_of_ble_eq_true rfl⟩) hc0 rfl rfl rfl rfl (Nat.le_of_ble_eq_true rfl) dX11_appendInput_25 ⟨Nat.le_of_ble_eq_true rfl, Nat.le_of_ble_eq_true rfl⟩ (fun r_1 Φ1 sz1 st1 hp1 hs1 => ?_)
    obtain ⟨⟨rfl, h_3⟩, hq1, hI1, hF1⟩ := hp1
    subst sz1
    replace hs1 : st1 = [] := hs1
    subst st1
    replace hI1 : In G x (ca) Φ1 := hI1
    refine z_aload_n B dX11_appendInput_28 rfl 0 rfl ?_
    have h_4 : Φ1 x = some (o_ 13 [.ref (x + 1), .ref (x + 3), .ref (x + 24), .ref (x + 46), .ref (x + 74), .ref (x + 80), .ref (x + 132), .ref (x + 121)]) := ((hF1 x fq_495).trans h_2)
    refine z_get (ref := "FlowExporter") (C := RX11) (T := TX11) (N := 8) (ci := 13) (v := .ref (x + 1)) B hu_X11_appendInput_X11 rfl 0 (Nat.le_of_ble_eq_true rfl) hv_X11_appendInput_14 rfl h_4 rfl dX11_appendInput_29 ?_
    refine z_iload_n B dX11_appendInput_32 rfl 2 rfl ?_
    refine z_i2l (v := b.toInt64) B dX11_appendInput_33 rfl ?_
    refine z_fl (fun v_2 => ?_)
    refine z_iconst (v := 4) B dX11_appendInput_34 rfl ?_
    refine z_callV (As := [.long v_2, .int 4]) (rest := []) B (s_X5_put1 G l Φ1 sz x (ca) (n + 4) v_2 4 hx hI1 h_3 (show 4 ≤ 8 by omega) (show (n + 4) + 4 ≤ 700 by omega)) (cwV 2 B.1.2.2.2.2 gX11_appendInput_X5_put rfl rfl rfl (by decide +kernel) ⟨Nat.le_of_ble_eq_true rfl, Nat.le_of_ble_eq_true rfl⟩) h_3 rfl rfl rfl rfl (Nat.le_of_ble_eq_true rfl) dX11_appendInput_35 ⟨Nat.le_of_ble_eq_true rfl, Nat.le_of_ble_eq_true rfl⟩ (fun r_2 Φ2 sz2 st2 hp2 hs2 => ?_)
    obtain ⟨⟨rfl, h_5⟩, hq2, hI2, hF2⟩ := hp2
    subst sz2
    replace hs2 : st2 = [] := hs2
    subst st2
    replace hI2 : In G x (ca) Φ2 := hI2
    refine z_aload_n B dX11_appendInput_38 rfl 0 rfl ?_
    have h_6 : Φ2 x = some (o_ 13 [.ref (x + 1), .ref (x + 3), .ref (x + 24), .ref (x + 46), .ref (x + 74), .ref (x + 80), .ref (x + 132), .ref (x + 121)]) := ((hF2 x fq_495).trans h_4)
    refine z_get (ref := "FlowExporter") (C := RX11) (T := TX11) (N := 8) (ci := 13) (v := .ref (x + 1)) B hu_X11_appendInput_X11 rfl 0 (Nat.le_of_ble_eq_true rfl) hv_X11_appendInput_14 rfl h_6 rfl dX11_appendInput_39 ?_
    refine z_iload_n B dX11_appendInput_42 rfl 3 rfl ?_
    refine z_i2l (v := d.toInt64) B dX11_appendInput_43 rfl ?_
    refine z_fl (fun v_3 => ?_)
    refine z_iconst (v := 4) B dX11_appendInput_44 rfl ?_
    refine z_callV (As := [.long v_3, .int 4]) (rest := []) B (s_X5_put1 G l Φ2 sz x (ca) ((n + 4) + 4) v_3 4 hx hI2 h_5 (show 4 ≤ 8 by omega) (show ((n + 4) + 4) + 4 ≤ 700 by omega)) (cwV 2 B.1.2.2.2.2 gX11_appendInput_X5_put rfl rfl rfl (by decide +kernel) ⟨Nat.le_of_ble_eq_true rfl, Nat.le_of_ble_eq_true rfl⟩) h_5 rfl rfl rfl rfl (Nat.le_of_ble_eq_true rfl) dX11_appendInput_45 ⟨Nat.le_of_ble_eq_true rfl, Nat.le_of_ble_eq_true rfl⟩ (fun r_3 Φ3 sz3 st3 hp3 hs3 => ?_)
    obtain ⟨⟨rfl, h_7⟩, hq3, hI3, hF3⟩ := hp3
    subst sz3
    replace hs3 : st3 = [] := hs3
    subst st3
    replace hI3 : In G x (ca) Φ3 := hI3
    refine z_aload_n B dX11_appendInput_48 rfl 0 rfl ?_
    have h_8 : Φ3 x = some (o_ 13 [.ref (x + 1), .ref (x + 3), .ref (x + 24), .ref (x + 46), .ref (x + 74), .ref (x + 80), .ref (x + 132), .ref (x + 121)]) := ((hF3 x fq_495).trans h_6)
    refine z_get (ref := "FlowExporter") (C := RX11) (T := TX11) (N := 8) (ci := 13) (v := .ref (x + 1)) B hu_X11_appendInput_X11 rfl 0 (Nat.le_of_ble_eq_true rfl) hv_X11_appendInput_14 rfl h_8 rfl dX11_appendInput_49 ?_
    refine z_iload B dX11_appendInput_52 4 rfl ?_
    refine z_i2l (v := f.toInt64) B dX11_appendInput_54 rfl ?_
    refine z_fl (fun v_4 => ?_)
    refine z_iconst (v := 4) B dX11_appendInput_55 rfl ?_
    refine z_callV (As := [.long v_4, .int 4]) (rest := []) B (s_X5_put1 G l Φ3 sz x (ca) (((n + 4) + 4) + 4) v_4 4 hx hI3 h_7 (show 4 ≤ 8 by omega) (show (((n + 4) + 4) + 4) + 4 ≤ 700 by omega)) (cwV 2 B.1.2.2.2.2 gX11_appendInput_X5_put rfl rfl rfl (by decide +kernel) ⟨Nat.le_of_ble_eq_true rfl, Nat.le_of_ble_eq_true rfl⟩) h_7 rfl rfl rfl rfl (Nat.le_of_ble_eq_true rfl) dX11_appendInput_56 ⟨Nat.le_of_ble_eq_true rfl, Nat.le_of_ble_eq_true rfl⟩ (fun r_4 Φ4 sz4 st4 hp4 hs4 => ?_)
    obtain ⟨⟨rfl, h_9⟩, hq4, hI4, hF4⟩ := hp4
    subst sz4
    replace hs4 : st4 = [] := hs4
    subst st4
    replace hI4 : In G x (ca) Φ4 := hI4
    refine z_aload_n B dX11_appendInput_59 rfl 0 rfl ?_
    have h_10 : Φ4 x = some (o_ 13 [.ref (x + 1), .ref (x + 3), .ref (x + 24), .ref (x + 46), .ref (x + 74), .ref (x + 80), .ref (x + 132), .ref (x + 121)]) := ((hF4 x fq_495).trans h_8)
    refine z_get (ref := "FlowExporter") (C := RX11) (T := TX11) (N := 8) (ci := 13) (v := .ref (x + 1)) B hu_X11_appendInput_X11 rfl 0 (Nat.le_of_ble_eq_true rfl) hv_X11_appendInput_14 rfl h_10 rfl dX11_appendInput_60 ?_
    refine z_iload B dX11_appendInput_63 5 rfl ?_
    refine z_i2l (v := g.toInt64) B dX11_appendInput_65 rfl ?_
    refine z_fl (fun v_5 => ?_)
    refine z_iconst (v := 4) B dX11_appendInput_66 rfl ?_
    refine z_callV (As := [.long v_5, .int 4]) (rest := []) B (s_X5_put1 G l Φ4 sz x (ca) ((((n + 4) + 4) + 4) + 4) v_5 4 hx hI4 h_9 (show 4 ≤ 8 by omega) (show ((((n + 4) + 4) + 4) + 4) + 4 ≤ 700 by omega)) (cwV 2 B.1.2.2.2.2 gX11_appendInput_X5_put rfl rfl rfl (by decide +kernel) ⟨Nat.le_of_ble_eq_true rfl, Nat.le_of_ble_eq_true rfl⟩) h_9 rfl rfl rfl rfl (Nat.le_of_ble_eq_true rfl) dX11_appendInput_67 ⟨Nat.le_of_ble_eq_true rfl, Nat.le_of_ble_eq_true rfl⟩ (fun r_5 Φ5 sz5 st5 hp5 hs5 => ?_)
    obtain ⟨⟨rfl, h_11⟩, hq5, hI5, hF5⟩ := hp5
    subst sz5
    replace hs5 : st5 = [] := hs5
    subst st5
    replace hI5 : In G x (ca) Φ5 := hI5
    refine z_aload_n B dX11_appendInput_70 rfl 0 rfl ?_
    have h_12 : Φ5 x = some (o_ 13 [.ref (x + 1), .ref (x + 3), .ref (x + 24), .ref (x + 46), .ref (x + 74), .ref (x + 80), .ref (x + 132), .ref (x + 121)]) := ((hF5 x fq_495).trans h_10)
    refine z_get (ref := "FlowExporter") (C := RX11) (T := TX11) (N := 8) (ci := 13) (v := .ref (x + 1)) B hu_X11_appendInput_X11 rfl 0 (Nat.le_of_ble_eq_true rfl) hv_X11_appendInput_14 rfl h_12 rfl dX11_appendInput_71 ?_
    refine z_get (ref := "FlowExporter$Message") (C := RX5) (T := TX5) (N := 2) (ci := 7) (v := .int (nI (((((n + 4) + 4) + 4) + 4) + 4))) B hu_X11_appendInput_X5 rfl 1 (Nat.le_of_ble_eq_true rfl) hv_X11_appendInput_97 rfl h_11 rfl dX11_appendInput_74 ?_
    exact z_ret_i B dX11_appendInput_77 ⟨⟨((((n + 4) + 4) + 4) + 4) + 4, h_11, Or.inr ⟨by omega, congrArg (fun w9 : Nat => some (Value.int (nI w9))) (show ((((n + 4) + 4) + 4) + 4) + 4 = n + 20 by omega), by omega⟩⟩, rfl, hI5, (fun b9 h9 => ((hF5 b9 (fun j9 h8 h7 => h9 j9 h8 (fq_496 j9 h7))).trans ((hF4 b9 (fun j9 h8 h7 => h9 j9 h8 (fq_496 j9 h7))).trans ((hF3 b9 (fun j9 h8 h7 => h9 j9 h8 (fq_496 j9 h7))).trans ((hF2 b9 (fun j9 h8 h7 => h9 j9 h8 (fq_496 j9 h7))).trans ((hF1 b9 (fun j9 h8 h7 => h9 j9 h8 (fq_496 j9 h7))).trans rfl))))))⟩
  · have e_2 : ¬ (n + 20 ≤ 700) := fun h9 => c_1 ((nI_leI (a := n + 20) (b := 700) (by omega) (by omega)).mpr h9)
    refine z_iconst (v := (-1)) B dX11_appendInput_16 rfl ?_
    exact z_ret_i B dX11_appendInput_17 ⟨⟨n, hc0, Or.inl ⟨by omega, rfl, by omega⟩⟩, rfl, hI, (fun b9 h9 => rfl)⟩

theorem hu_X11_truncateInput_X11 : ∀ w ∈ u_ws RX11 TX11 8, w ∈ wsX11_truncateInput := fun _ h => List.mem_cons_of_mem _ (List.mem_append_left _ (List.mem_append_right _ (h)))

theorem hv_X11_truncateInput_14 : Cond.fieldLink RX11 14 "FlowExporter" (TX11 0).2.1 (TX11 0).2.2.1 ∈ wsX11_truncateInput := List.mem_cons_of_mem _ (List.mem_append_left _ (List.mem_append_left _ (List.mem_of_getElem? (i := 0) rfl)))

theorem hu_X11_truncateInput_X5 : ∀ w ∈ u_ws RX5 TX5 2, w ∈ wsX11_truncateInput := fun _ h => List.mem_cons_of_mem _ (List.mem_append_right _ (h))

theorem hv_X11_truncateInput_97 : Cond.fieldLink RX11 97 "FlowExporter$Message" (TX5 1).2.1 (TX5 1).2.2.1 ∈ wsX11_truncateInput := List.mem_cons_of_mem _ (List.mem_append_left _ (List.mem_append_left _ (List.mem_of_getElem? (i := 1) rfl)))

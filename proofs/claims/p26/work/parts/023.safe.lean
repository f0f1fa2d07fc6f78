theorem dX11_truncateInput_0 : decode cX11_truncateInput 0 = .ok (.iload_n 1, 1) := by decide +kernel
theorem dX11_truncateInput_1 : decode cX11_truncateInput 1 = .ok (.ifCond .lt 14, 3) := by decide +kernel
theorem dX11_truncateInput_4 : decode cX11_truncateInput 4 = .ok (.iload_n 1, 1) := by decide +kernel
theorem dX11_truncateInput_5 : decode cX11_truncateInput 5 = .ok (.aload_n 0, 1) := by decide +kernel
theorem dX11_truncateInput_6 : decode cX11_truncateInput 6 = .ok (.getfield 14, 3) := by decide +kernel
theorem dX11_truncateInput_9 : decode cX11_truncateInput 9 = .ok (.getfield 97, 3) := by decide +kernel
theorem dX11_truncateInput_12 : decode cX11_truncateInput 12 = .ok (.if_icmp .le 5, 3) := by decide +kernel
theorem dX11_truncateInput_15 : decode cX11_truncateInput 15 = .ok (.iconst (-1), 1) := by decide +kernel
theorem dX11_truncateInput_16 : decode cX11_truncateInput 16 = .ok (.ireturn, 1) := by decide +kernel
theorem dX11_truncateInput_17 : decode cX11_truncateInput 17 = .ok (.aload_n 0, 1) := by decide +kernel
theorem dX11_truncateInput_18 : decode cX11_truncateInput 18 = .ok (.getfield 14, 3) := by decide +kernel
theorem dX11_truncateInput_21 : decode cX11_truncateInput 21 = .ok (.iload_n 1, 1) := by decide +kernel
theorem dX11_truncateInput_22 : decode cX11_truncateInput 22 = .ok (.putfield 97, 3) := by decide +kernel
theorem dX11_truncateInput_25 : decode cX11_truncateInput 25 = .ok (.iload_n 1, 1) := by decide +kernel
theorem dX11_truncateInput_26 : decode cX11_truncateInput 26 = .ok (.ireturn, 1) := by decide +kernel
set_option maxRecDepth 20000 in
theorem ggX11_setRate_X2_exportAllAndSend : GoodIn wsX11_setRate wsX2_exportAllAndSend := goodIn_ca (goodIn_ca ((goodIn_ca (goodIn_ca (goodIn_ca (goodIn_ca (goodIn_ca (goodIn_ca (goodIn_ca (goodIn_ca (goodIn_r _ [7, 8, 9, 10, 11, 12, 13, 14, 6, 15, 16, 17, 18, 19, 20, 21, 22, 23, 24, 25, 26, 27, 28, 29, 30, 31, 32, 33, 34, 35, 36, 37, 38, 39, 40, 41, 42, 43, 44, 45, 46, 47, 48, 49, 50, 51, 52, 53, 54, 55, 56, 57, 58, 59, 60, 61, 62, 63, 64, 65, 66, 67, 68, 69, 70, 71, 72, 73, 74, 75, 76, 77, 78, 79, 80, 81, 82, 83, 84, 85, 86, 87, 88, 89, 90, 91, 92, 93, 94, 95, 96, 97, 98, 99, 100, 101, 102, 103, 104, 105, 106, 107, 108, 109, 110, 111, 112, 113, 114, 115, 116, 117, 118, 119, 120, 121, 122, 123, 124, 125, 126, 127, 128, 129, 130, 131, 132, 133, 134, 135, 136, 137, 138, 139, 140, 141, 142, 143, 144, 145, 146, 147, 148, 149, 150, 151, 152, 153, 154, 155, 156, 157, 158, 159, 160, 161, 162, 163, 164, 165, 166, 167, 168, 169, 170, 171, 172, 173] rfl (by decide +kernel)) (goodIn_sub (fun _ h => List.mem_cons_of_mem _ (List.mem_append_left _ (List.mem_append_left _ (List.mem_append_left _ (List.mem_append_left _ (List.mem_append_left _ (List.mem_append_left _ (List.mem_append_left _ (List.mem_append_left _ (List.mem_append_left _ (List.mem_append_right _ h))))))))))) gw_wsX20)) (goodIn_sub (fun _ h => List.mem_cons_of_mem _ (List.mem_append_left _ (List.mem_append_left _ (List.mem_append_left _ (List.mem_append_left _ (List.mem_append_left _ (List.mem_append_left _ (List.mem_append_left _ (List.mem_append_left _ (List.mem_append_right _ h)))))))))) gw_wsX40)) (goodIn_sub (fun _ h => List.mem_cons_of_mem _ (List.mem_append_left _ (List.mem_append_left _ (List.mem_append_left _ (List.mem_append_left _ (List.mem_append_left _ (List.mem_append_left _ (List.mem_append_left _ (List.mem_append_right _ h))))))))) gw_wsX30)) (goodIn_sub (fun _ h => List.mem_cons_of_mem _ (List.mem_append_left _ (List.mem_append_left _ (List.mem_append_left _ (List.mem_append_left _ (List.mem_append_left _ (List.mem_append_left _ (List.mem_append_right _ h)))))))) gw_wsX100)) (goodIn_sub (fun _ h => List.mem_cons_of_mem _ (List.mem_append_left _ (List.mem_append_left _ (List.mem_append_left _ (List.mem_append_left _ (List.mem_append_left _ (List.mem_append_right _ h))))))) gw_wsX10)) (goodIn_sub (fun _ h => List.mem_cons_of_mem _ (List.mem_append_left _ (List.mem_append_left _ (List.mem_append_left _ (List.mem_append_left _ (List.mem_append_right _ h)))))) gw_wsX80)) (goodIn_sub (fun _ h => List.mem_cons_of_mem _ (List.mem_append_left _ (List.mem_append_left _ (List.mem_append_left _ (List.mem_append_right _ h))))) gw_wsX50)) (goodIn_sub (fun _ h => List.mem_cons_of_mem _ (List.mem_append_left _ (List.mem_append_left _ (List.mem_append_right _ h)))) gw_wsX70))) (goodIn_sub (fun _ h => List.mem_cons_of_mem _ (List.mem_append_left _ (List.mem_append_right _ h))) (all_fg _))) (goodIn_sub (fun _ h => List.mem_cons_of_mem _ (List.mem_append_right _ h)) (all_fg _))
set_option maxRecDepth 20000 in
theorem gX11_setRate_X2_exportAllAndSend : GoodIn wsX11_setRate (wsV RX11 143 RX2 yX2_exportAllAndSend wsX2_exportAllAndSend) := goodIn_app (goodIn_m (mem_cA (List.mem_cons_of_mem _ (List.mem_append_left _ (List.mem_append_left _ (List.mem_append_left _ (List.mem_append_left _ (List.mem_append_left _ (List.mem_append_left _ (List.mem_append_left _ (List.mem_append_left _ (List.mem_append_left _ (List.mem_append_left _ (List.mem_append_left _ (List.mem_append_left _ (List.mem_of_getElem? (i := 2) rfl)))))))))))))) (mem_cA (List.mem_cons_of_mem _ (List.mem_append_left _ (List.mem_append_left _ (List.mem_append_left _ (List.mem_append_left _ (List.mem_append_left _ (List.mem_append_left _ (List.mem_append_left _ (List.mem_append_left _ (List.mem_append_left _ (List.mem_append_left _ (List.mem_append_left _ (List.mem_append_left _ (List.mem_of_getElem? (i := 3) rfl)))))))))))))) (mem_cA (List.mem_cons_of_mem _ (List.mem_append_left _ (List.mem_append_left _ (List.mem_append_left _ (List.mem_append_left _ (List.mem_append_left _ (List.mem_append_left _ (List.mem_append_left _ (List.mem_append_left _ (List.mem_append_left _ (List.mem_append_left _ (List.mem_append_left _ (List.mem_append_left _ (List.mem_of_getElem? (i := 4) rfl)))))))))))))) (mem_cA (List.mem_cons_of_mem _ (List.mem_append_left _ (List.mem_append_left _ (List.mem_append_left _ (List.mem_append_left _ (List.mem_append_left _ (List.mem_append_left _ (List.mem_append_left _ (List.mem_append_left _ (List.mem_append_left _ (List.mem_append_left _ (List.mem_append_left _ (List.mem_append_left _ (List.mem_of_getElem? (i := 5) rfl)))))))))))))) mem_cZ)))) (by decide +kernel)) ggX11_setRate_X2_exportAllAndSend
theorem dX11_setRate_0 : decode cX11_setRate 0 = .ok (.iload_n 1, 1) := by decide +kernel
theorem dX11_setRate_1 : decode cX11_setRate 1 = .ok (.iconst 1, 1) := by decide +kernel
theorem dX11_setRate_2 : decode cX11_setRate 2 = .ok (.if_icmp .lt 10, 3) := by decide +kernel
theorem dX11_setRate_5 : decode cX11_setRate 5 = .ok (.iload_n 1, 1) := by decide +kernel
theorem dX11_setRate_6 : decode cX11_setRate 6 = .ok (.sipush 1024, 3) := by decide +kernel
theorem dX11_setRate_9 : decode cX11_setRate 9 = .ok (.if_icmp .le 5, 3) := by decide +kernel
theorem dX11_setRate_12 : decode cX11_setRate 12 = .ok (.iconst (-1), 1) := by decide +kernel
theorem dX11_setRate_13 : decode cX11_setRate 13 = .ok (.ireturn, 1) := by decide +kernel
theorem dX11_setRate_14 : decode cX11_setRate 14 = .ok (.iload_n 1, 1) := by decide +kernel
theorem dX11_setRate_15 : decode cX11_setRate 15 = .ok (.aload_n 0, 1) := by decide +kernel
theorem dX11_setRate_16 : decode cX11_setRate 16 = .ok (.getfield 55, 3) := by decide +kernel
theorem dX11_setRate_19 : decode cX11_setRate 19 = .ok (.getfield 164, 3) := by decide +kernel
theorem dX11_setRate_22 : decode cX11_setRate 22 = .ok (.if_icmp .ne 5, 3) := by decide +kernel
theorem dX11_setRate_25 : decode cX11_setRate 25 = .ok (.iconst 0, 1) := by decide +kernel
theorem dX11_setRate_26 : decode cX11_setRate 26 = .ok (.ireturn, 1) := by decide +kernel
theorem dX11_setRate_27 : decode cX11_setRate 27 = .ok (.aload_n 0, 1) := by decide +kernel
theorem dX11_setRate_28 : decode cX11_setRate 28 = .ok (.getfield 55, 3) := by decide +kernel
theorem dX11_setRate_31 : decode cX11_setRate 31 = .ok (.invokevirtual 143, 3) := by decide +kernel
theorem dX11_setRate_34 : decode cX11_setRate 34 = .ok (.istore_n 2, 1) := by decide +kernel
theorem dX11_setRate_35 : decode cX11_setRate 35 = .ok (.aload_n 0, 1) := by decide +kernel
theorem dX11_setRate_36 : decode cX11_setRate 36 = .ok (.getfield 55, 3) := by decide +kernel
theorem dX11_setRate_39 : decode cX11_setRate 39 = .ok (.iload_n 1, 1) := by decide +kernel
theorem dX11_setRate_40 : decode cX11_setRate 40 = .ok (.putfield 164, 3) := by decide +kernel
theorem dX11_setRate_43 : decode cX11_setRate 43 = .ok (.iload_n 2, 1) := by decide +kernel
theorem dX11_setRate_44 : decode cX11_setRate 44 = .ok (.ireturn, 1) := by decide +kernel
theorem dX11_setAdaptive_0 : decode cX11_setAdaptive 0 = .ok (.aload_n 0, 1) := by decide +kernel
theorem dX11_setAdaptive_1 : decode cX11_setAdaptive 1 = .ok (.getfield 55, 3) := by decide +kernel
theorem dX11_setAdaptive_4 : decode cX11_setAdaptive 4 = .ok (.getfield 171, 3) := by decide +kernel
theorem dX11_setAdaptive_7 : decode cX11_setAdaptive 7 = .ok (.istore_n 2, 1) := by decide +kernel
theorem dX11_setAdaptive_8 : decode cX11_setAdaptive 8 = .ok (.aload_n 0, 1) := by decide +kernel
theorem dX11_setAdaptive_9 : decode cX11_setAdaptive 9 = .ok (.getfield 55, 3) := by decide +kernel
theorem dX11_setAdaptive_12 : decode cX11_setAdaptive 12 = .ok (.iload_n 1, 1) := by decide +kernel
theorem dX11_setAdaptive_13 : decode cX11_setAdaptive 13 = .ok (.putfield 171, 3) := by decide +kernel
theorem dX11_setAdaptive_16 : decode cX11_setAdaptive 16 = .ok (.iload_n 2, 1) := by decide +kernel
theorem dX11_setAdaptive_17 : decode cX11_setAdaptive 17 = .ok (.ireturn, 1) := by decide +kernel
theorem dX11_setSeed_0 : decode cX11_setSeed 0 = .ok (.iload_n 1, 1) := by decide +kernel
theorem dX11_setSeed_1 : decode cX11_setSeed 1 = .ok (.ifCond .ge 5, 3) := by decide +kernel
theorem dX11_setSeed_4 : decode cX11_setSeed 4 = .ok (.iconst 0, 1) := by decide +kernel
theorem dX11_setSeed_5 : decode cX11_setSeed 5 = .ok (.ireturn, 1) := by decide +kernel
theorem dX11_setSeed_6 : decode cX11_setSeed 6 = .ok (.aload_n 0, 1) := by decide +kernel
theorem dX11_setSeed_7 : decode cX11_setSeed 7 = .ok (.getfield 55, 3) := by decide +kernel
theorem dX11_setSeed_10 : decode cX11_setSeed 10 = .ok (.iload_n 1, 1) := by decide +kernel
theorem dX11_setSeed_11 : decode cX11_setSeed 11 = .ok (.putfield 175, 3) := by decide +kernel
theorem dX11_setSeed_14 : decode cX11_setSeed 14 = .ok (.iconst 1, 1) := by decide +kernel
theorem dX11_setSeed_15 : decode cX11_setSeed 15 = .ok (.ireturn, 1) := by decide +kernel
set_option maxRecDepth 20000 in
theorem ggX11_deliverAll_X7_takeOut : GoodIn wsX11_deliverAll wsX7_takeOut := (goodIn_ca (goodIn_r _ [10, 11, 12, 13, 14, 15, 9, 16] rfl (by decide +kernel)) (goodIn_sub (fun _ h => List.mem_cons_of_mem _ (List.mem_append_left _ (List.mem_append_left _ (List.mem_append_left _ (List.mem_append_left _ (List.mem_append_left _ (List.mem_append_left _ (List.mem_append_left _ (List.mem_append_right _ h))))))))) gw_wsX70))
set_option maxRecDepth 20000 in
theorem gX11_deliverAll_X7_takeOut : GoodIn wsX11_deliverAll (wsV RX11 253 RX7 yX7_takeOut wsX7_takeOut) := goodIn_app (goodIn_m (mem_cA (List.mem_cons_of_mem _ (List.mem_append_left _ (List.mem_append_left _ (List.mem_append_left _ (List.mem_append_left _ (List.mem_append_left _ (List.mem_append_left _ (List.mem_append_left _ (List.mem_append_left _ (List.mem_append_left _ (List.mem_append_left _ (List.mem_of_getElem? (i := 5) rfl)))))))))))) (mem_cA (List.mem_cons_of_mem _ (List.mem_append_left _ (List.mem_append_left _ (List.mem_append_left _ (List.mem_append_left _ (List.mem_append_left _ (List.mem_append_left _ (List.mem_append_left _ (List.mem_append_left _ (List.mem_append_left _ (List.mem_append_left _ (List.mem_of_getElem? (i := 6) rfl)))))))))))) (mem_cA (List.mem_cons_of_mem _ (List.mem_append_left _ (List.mem_append_left _ (List.mem_append_left _ (List.mem_append_left _ (List.mem_append_left _ (List.mem_append_left _ (List.mem_append_left _ (List.mem_append_left _ (List.mem_append_left _ (List.mem_append_left _ (List.mem_of_getElem? (i := 7) rfl)))))))))))) (mem_cA (List.mem_cons_of_mem _ (List.mem_append_left _ (List.mem_append_left _ (List.mem_append_left _ (List.mem_append_left _ (List.mem_append_left _ (List.mem_append_left _ (List.mem_append_left _ (List.mem_append_left _ (List.mem_append_left _ (List.mem_append_left _ (List.mem_of_getElem? (i := 8) rfl)))))))))))) mem_cZ)))) (by decide +kernel)) ggX11_deliverAll_X7_takeOut
set_option maxRecDepth 20000 in
theorem ggX11_deliverAll_X0_take : GoodIn wsX11_deliverAll wsX0_take := goodIn_ca ((goodIn_ca (goodIn_ca (goodIn_ca (goodIn_ca (goodIn_ca (goodIn_r _ [21, 22, 23, 24, 25, 26, 27, 28, 29, 30, 31, 32, 33, 34, 35, 36, 37, 38, 39, 40, 41, 20, 42, 43, 44, 45, 46, 47, 48, 49, 50, 51, 52, 53, 54, 55, 56, 57, 58, 59, 60, 61, 62, 63, 64, 65, 66, 67, 68, 69, 70, 71, 72, 73, 74, 75, 76, 77, 78, 79, 80, 81, 82, 83, 84, 85, 86, 87, 88, 89, 90, 91, 92, 93, 94, 95, 96, 97, 98, 99, 100, 101, 102, 103, 104, 105, 106, 107, 108, 109, 110, 111, 112, 113, 114, 115, 116, 117, 118, 119, 120, 121, 122, 123, 124, 125, 126, 127, 128, 129, 130, 131, 132, 133, 134, 135, 136, 137, 138, 139, 140, 141, 142, 143, 144, 145, 146, 147, 148, 149, 150, 151, 152, 153, 154, 155, 156, 157, 158, 159, 160, 161, 162, 163, 164, 165, 166, 167, 168, 169, 170, 171] rfl (by decide +kernel)) (goodIn_sub (fun _ h => List.mem_cons_of_mem _ (List.mem_append_left _ (List.mem_append_left _ (List.mem_append_left _ (List.mem_append_left _ (List.mem_append_left _ (List.mem_append_right _ h))))))) gw_wsX00)) (goodIn_sub (fun _ h => List.mem_cons_of_mem _ (List.mem_append_left _ (List.mem_append_left _ (List.mem_append_left _ (List.mem_append_left _ (List.mem_append_right _ h)))))) gw_wsX50)) (goodIn_sub (fun _ h => List.mem_cons_of_mem _ (List.mem_append_left _ (List.mem_append_left _ (List.mem_append_left _ (List.mem_append_right _ h))))) gw_wsX100)) (goodIn_sub (fun _ h => List.mem_cons_of_mem _ (List.mem_append_left _ (List.mem_append_left _ (List.mem_append_right _ h)))) gw_wsX10)) (goodIn_sub (fun _ h => List.mem_cons_of_mem _ (List.mem_append_left _ (List.mem_append_right _ h))) gw_wsX90))) (goodIn_sub (fun _ h => List.mem_cons_of_mem _ (List.mem_append_right _ h)) (all_fg _))
set_option maxRecDepth 20000 in
theorem gX11_deliverAll_X0_take : GoodIn wsX11_deliverAll (wsV RX11 256 RX0 yX0_take wsX0_take) := goodIn_app (goodIn_m (mem_cA (List.mem_cons_of_mem _ (List.mem_append_left _ (List.mem_append_left _ (List.mem_append_left _ (List.mem_append_left _ (List.mem_append_left _ (List.mem_append_left _ (List.mem_append_left _ (List.mem_append_left _ (List.mem_append_left _ (List.mem_append_left _ (List.mem_of_getElem? (i := 16) rfl)))))))))))) (mem_cA (List.mem_cons_of_mem _ (List.mem_append_left _ (List.mem_append_left _ (List.mem_append_left _ (List.mem_append_left _ (List.mem_append_left _ (List.mem_append_left _ (List.mem_append_left _ (List.mem_append_left _ (List.mem_append_left _ (List.mem_append_left _ (List.mem_of_getElem? (i := 17) rfl)))))))))))) (mem_cA (List.mem_cons_of_mem _ (List.mem_append_left _ (List.mem_append_left _ (List.mem_append_left _ (List.mem_append_left _ (List.mem_append_left _ (List.mem_append_left _ (List.mem_append_left _ (List.mem_append_left _ (List.mem_append_left _ (List.mem_append_left _ (List.mem_of_getElem? (i := 18) rfl)))))))))))) (mem_cA (List.mem_cons_of_mem _ (List.mem_append_left _ (List.mem_append_left _ (List.mem_append_left _ (List.mem_append_left _ (List.mem_append_left _ (List.mem_append_left _ (List.mem_append_left _ (List.mem_append_left _ (List.mem_append_left _ (List.mem_append_left _ (List.mem_of_getElem? (i := 19) rfl)))))))))))) mem_cZ)))) (by decide +kernel)) ggX11_deliverAll_X0_take
theorem dX11_deliverAll_0 : decode cX11_deliverAll 0 = .ok (.iconst 0, 1) := by decide +kernel
theorem dX11_deliverAll_1 : decode cX11_deliverAll 1 = .ok (.istore_n 1, 1) := by decide +kernel
theorem dX11_deliverAll_2 : decode cX11_deliverAll 2 = .ok (.aload_n 0, 1) := by decide +kernel
theorem dX11_deliverAll_3 : decode cX11_deliverAll 3 = .ok (.getfield 37, 3) := by decide +kernel
theorem dX11_deliverAll_6 : decode cX11_deliverAll 6 = .ok (.getfield 231, 3) := by decide +kernel
theorem dX11_deliverAll_9 : decode cX11_deliverAll 9 = .ok (.istore_n 2, 1) := by decide +kernel
theorem dX11_deliverAll_10 : decode cX11_deliverAll 10 = .ok (.iload_n 2, 1) := by decide +kernel
theorem dX11_deliverAll_11 : decode cX11_deliverAll 11 = .ok (.ifCond .le 34, 3) := by decide +kernel
theorem dX11_deliverAll_14 : decode cX11_deliverAll 14 = .ok (.iload_n 1, 1) := by decide +kernel
theorem dX11_deliverAll_15 : decode cX11_deliverAll 15 = .ok (.aload_n 0, 1) := by decide +kernel
theorem dX11_deliverAll_16 : decode cX11_deliverAll 16 = .ok (.getfield 71, 3) := by decide +kernel
theorem dX11_deliverAll_19 : decode cX11_deliverAll 19 = .ok (.aload_n 0, 1) := by decide +kernel
theorem dX11_deliverAll_20 : decode cX11_deliverAll 20 = .ok (.getfield 37, 3) := by decide +kernel
theorem dX11_deliverAll_23 : decode cX11_deliverAll 23 = .ok (.iconst 0, 1) := by decide +kernel
theorem dX11_deliverAll_24 : decode cX11_deliverAll 24 = .ok (.invokevirtual 253, 3) := by decide +kernel
theorem dX11_deliverAll_27 : decode cX11_deliverAll 27 = .ok (.aload_n 0, 1) := by decide +kernel
theorem dX11_deliverAll_28 : decode cX11_deliverAll 28 = .ok (.getfield 55, 3) := by decide +kernel
theorem dX11_deliverAll_31 : decode cX11_deliverAll 31 = .ok (.getfield 110, 3) := by decide +kernel
theorem dX11_deliverAll_34 : decode cX11_deliverAll 34 = .ok (.invokevirtual 256, 3) := by decide +kernel
theorem dX11_deliverAll_37 : decode cX11_deliverAll 37 = .ok (.iadd, 1) := by decide +kernel
theorem dX11_deliverAll_38 : decode cX11_deliverAll 38 = .ok (.istore_n 1, 1) := by decide +kernel
theorem dX11_deliverAll_39 : decode cX11_deliverAll 39 = .ok (.iinc 2 (-1), 3) := by decide +kernel
theorem dX11_deliverAll_42 : decode cX11_deliverAll 42 = .ok (.goto (-32), 3) := by decide +kernel
theorem dX11_deliverAll_45 : decode cX11_deliverAll 45 = .ok (.iload_n 1, 1) := by decide +kernel
theorem dX11_deliverAll_46 : decode cX11_deliverAll 46 = .ok (.ireturn, 1) := by decide +kernel
set_option maxRecDepth 20000 in
theorem ggX11_receive_X0_take : GoodIn wsX11_receive wsX0_take := goodIn_ca ((goodIn_ca (goodIn_ca (goodIn_ca (goodIn_ca (goodIn_ca (goodIn_r _ [10, 11, 12, 13, 14, 15, 16, 17, 18, 19, 20, 21, 22, 23, 24, 25, 26, 27, 28, 29, 30, 9, 31, 32, 33, 34, 35, 36, 37, 38, 39, 40, 41, 42, 43, 44, 45, 46, 47, 48, 49, 50, 51, 52, 53, 54, 55, 56, 57, 58, 59, 60, 61, 62, 63, 64, 65, 66, 67, 68, 69, 70, 71, 72, 73, 74, 75, 76, 77, 78, 79, 80, 81, 82, 83, 84, 85, 86, 87, 88, 89, 90, 91, 92, 93, 94, 95, 96, 97, 98, 99, 100, 101, 102, 103, 104, 105, 106, 107, 108, 109, 110, 111, 112, 113, 114, 115, 116, 117, 118, 119, 120, 121, 122, 123, 124, 125, 126, 127, 128, 129, 130, 131, 132, 133, 134, 135, 136, 137, 138, 139, 140, 141, 142, 143, 144, 145, 146, 147, 148, 149, 150, 151, 152, 153, 154, 155, 156, 157, 158, 159, 160] rfl (by decide +kernel)) (goodIn_sub (fun _ h => List.mem_cons_of_mem _ (List.mem_append_left _ (List.mem_append_left _ (List.mem_append_left _ (List.mem_append_left _ (List.mem_append_right _ h)))))) gw_wsX00)) (goodIn_sub (fun _ h => List.mem_cons_of_mem _ (List.mem_append_left _ (List.mem_append_left _ (List.mem_append_left _ (List.mem_append_left _ (List.mem_append_left _ (List.mem_append_right _ h))))))) gw_wsX50)) (goodIn_sub (fun _ h => List.mem_cons_of_mem _ (List.mem_append_left _ (List.mem_append_left _ (List.mem_append_left _ (List.mem_append_right _ h))))) gw_wsX100)) (goodIn_sub (fun _ h => List.mem_cons_of_mem _ (List.mem_append_left _ (List.mem_append_left _ (List.mem_append_right _ h)))) gw_wsX10)) (goodIn_sub (fun _ h => List.mem_cons_of_mem _ (List.mem_append_left _ (List.mem_append_right _ h))) gw_wsX90))) (goodIn_sub (fun _ h => List.mem_cons_of_mem _ (List.mem_append_right _ h)) (all_fg _))
set_option maxRecDepth 20000 in
theorem gX11_receive_X0_take : GoodIn wsX11_receive (wsV RX11 256 RX0 yX0_take wsX0_take) := goodIn_app (goodIn_m (mem_cA (List.mem_cons_of_mem _ (List.mem_append_left _ (List.mem_append_left _ (List.mem_append_left _ (List.mem_append_left _ (List.mem_append_left _ (List.mem_append_left _ (List.mem_append_left _ (List.mem_append_left _ (List.mem_append_left _ (List.mem_of_getElem? (i := 5) rfl))))))))))) (mem_cA (List.mem_cons_of_mem _ (List.mem_append_left _ (List.mem_append_left _ (List.mem_append_left _ (List.mem_append_left _ (List.mem_append_left _ (List.mem_append_left _ (List.mem_append_left _ (List.mem_append_left _ (List.mem_append_left _ (List.mem_of_getElem? (i := 6) rfl))))))))))) (mem_cA (List.mem_cons_of_mem _ (List.mem_append_left _ (List.mem_append_left _ (List.mem_append_left _ (List.mem_append_left _ (List.mem_append_left _ (List.mem_append_left _ (List.mem_append_left _ (List.mem_append_left _ (List.mem_append_left _ (List.mem_of_getElem? (i := 7) rfl))))))))))) (mem_cA (List.mem_cons_of_mem _ (List.mem_append_left _ (List.mem_append_left _ (List.mem_append_left _ (List.mem_append_left _ (List.mem_append_left _ (List.mem_append_left _ (List.mem_append_left _ (List.mem_append_left _ (List.mem_append_left _ (List.mem_of_getElem? (i := 8) rfl))))))))))) mem_cZ)))) (by decide +kernel)) ggX11_receive_X0_take
theorem dX11_receive_0 : decode cX11_receive 0 = .ok (.aload_n 0, 1) := by decide +kernel
theorem dX11_receive_1 : decode cX11_receive 1 = .ok (.getfield 71, 3) := by decide +kernel
theorem dX11_receive_4 : decode cX11_receive 4 = .ok (.aload_n 0, 1) := by decide +kernel
theorem dX11_receive_5 : decode cX11_receive 5 = .ok (.getfield 14, 3) := by decide +kernel
theorem dX11_receive_8 : decode cX11_receive 8 = .ok (.aload_n 0, 1) := by decide +kernel
theorem dX11_receive_9 : decode cX11_receive 9 = .ok (.getfield 55, 3) := by decide +kernel
theorem dX11_receive_12 : decode cX11_receive 12 = .ok (.getfield 110, 3) := by decide +kernel
theorem dX11_receive_15 : decode cX11_receive 15 = .ok (.invokevirtual 256, 3) := by decide +kernel
theorem dX11_receive_18 : decode cX11_receive 18 = .ok (.istore_n 1, 1) := by decide +kernel
theorem dX11_receive_19 : decode cX11_receive 19 = .ok (.aload_n 0, 1) := by decide +kernel
theorem dX11_receive_20 : decode cX11_receive 20 = .ok (.getfield 14, 3) := by decide +kernel
theorem dX11_receive_23 : decode cX11_receive 23 = .ok (.iconst 0, 1) := by decide +kernel
theorem dX11_receive_24 : decode cX11_receive 24 = .ok (.putfield 97, 3) := by decide +kernel
theorem dX11_receive_27 : decode cX11_receive 27 = .ok (.iload_n 1, 1) := by decide +kernel
theorem dX11_receive_28 : decode cX11_receive 28 = .ok (.ireturn, 1) := by decide +kernel
set_option maxRecDepth 20000 in
theorem ggX11_find_X3_keyOf : GoodIn wsX11_find wsX3_keyOf := (goodIn_r _ [5, 6, 7] rfl (by decide +kernel))
set_option maxRecDepth 20000 in
theorem gX11_find_X3_keyOf : GoodIn wsX11_find (va_wsS RX11 119 yX3_keyOf wsX3_keyOf) := goodIn_app (goodIn_m (mem_cA (List.mem_cons_of_mem _ (List.mem_append_left _ (List.mem_append_left _ (List.mem_append_left _ (List.mem_of_getElem? (i := 1) rfl))))) (mem_cA (List.mem_cons_of_mem _ (List.mem_append_left _ (List.mem_append_left _ (List.mem_append_left _ (List.mem_of_getElem? (i := 2) rfl))))) (mem_cA (List.mem_cons_of_mem _ (List.mem_append_left _ (List.mem_append_left _ (List.mem_append_left _ (List.mem_of_getElem? (i := 3) rfl))))) mem_cZ))) (by decide +kernel)) ggX11_find_X3_keyOf
set_option maxRecDepth 20000 in
theorem ggX11_find_X9_indexOf : GoodIn wsX11_find wsX9_indexOf := goodIn_ca ((goodIn_ca (goodIn_r _ [12, 13, 14] rfl (by decide +kernel)) (goodIn_sub (fun _ h => List.mem_cons_of_mem _ (List.mem_append_left _ (List.mem_append_right _ h))) gw_wsX90))) (goodIn_sub (fun _ h => List.mem_cons_of_mem _ (List.mem_append_right _ h)) (all_fg _))
set_option maxRecDepth 20000 in
theorem gX11_find_X9_indexOf : GoodIn wsX11_find (wsV RX11 308 RX9 yX9_indexOf wsX9_indexOf) := goodIn_app (goodIn_m (mem_cA (List.mem_cons_of_mem _ (List.mem_append_left _ (List.mem_append_left _ (List.mem_append_left _ (List.mem_of_getElem? (i := 7) rfl))))) (mem_cA (List.mem_cons_of_mem _ (List.mem_append_left _ (List.mem_append_left _ (List.mem_append_left _ (List.mem_of_getElem? (i := 8) rfl))))) (mem_cA (List.mem_cons_of_mem _ (List.mem_append_left _ (List.mem_append_left _ (List.mem_append_left _ (List.mem_of_getElem? (i := 9) rfl))))) (mem_cA (List.mem_cons_of_mem _ (List.mem_append_left _ (List.mem_append_left _ (List.mem_append_left _ (List.mem_of_getElem? (i := 10) rfl))))) mem_cZ)))) (by decide +kernel)) ggX11_find_X9_indexOf
theorem dX11_find_0 : decode cX11_find 0 = .ok (.aload_n 0, 1) := by decide +kernel
theorem dX11_find_1 : decode cX11_find 1 = .ok (.getfield 62, 3) := by decide +kernel
theorem dX11_find_4 : decode cX11_find 4 = .ok (.iload_n 1, 1) := by decide +kernel
theorem dX11_find_5 : decode cX11_find 5 = .ok (.iload_n 2, 1) := by decide +kernel
theorem dX11_find_6 : decode cX11_find 6 = .ok (.iload_n 3, 1) := by decide +kernel
theorem dX11_find_7 : decode cX11_find 7 = .ok (.iload 4, 2) := by decide +kernel
theorem dX11_find_9 : decode cX11_find 9 = .ok (.invokestatic 119, 3) := by decide +kernel
theorem dX11_find_12 : decode cX11_find 12 = .ok (.invokevirtual 308, 3) := by decide +kernel
theorem dX11_find_15 : decode cX11_find 15 = .ok (.ireturn, 1) := by decide +kernel
set_option maxHeartbeats 4000000 in
set_option maxRecDepth 100000 in
theorem s_X11_truncateInput (G : EnvG) (l : Launch) (Φ : Hm) (sz x ca : Nat) (n : Nat) (a : Int32) (hx : G.2.2.2 ≤ x) (hI : In G x ca Φ) (hc0 : Φ (x + 1) = some (o_ 7 [.ref (x + 2), .int (nI n)])) (hn : n ≤ 700) : Ct G l yX11_truncateInput wsX11_truncateInput ({ frames := 0, cells := 0, slots := 0, locals := 0 }) 0 0 [.ref x, .int a] Φ sz (fun v Φ1 sz1 => (∃ n9 : Nat, Φ1 (x + 1) = some (o_ 7 [.ref (x + 2), .int (nI n9)]) ∧ trV n a v n9) ∧ sz1 = sz ∧ In G x (ca) Φ1 ∧ Fr x (fun j9 => j9 = 1) Φ Φ1) := by
  refine Ct.of (cc := cX11_truncateInput) (maxL := 2) (ret := (some .int)) (by decide) rfl (Nat.le_of_ble_eq_true rfl) ?_
  intro p9 e9 s9 m9 w9 t9 k9 B
  show Z p9 l e9 _ s9 m9 _ w9 t9 k9 _ G 2 0 [(0, .ref x), (1, .int a)] [] Φ sz 0 0
  refine z_iload_n B dX11_truncateInput_0 rfl 1 rfl ?_
  refine z_if_lt (tgt := 15) B dX11_truncateInput_1 rfl (fun c_1 => ?_) (fun c_1 => ?_)
  · refine z_iconst (v := (-1)) B dX11_truncateInput_15 rfl ?_
    exact z_ret_i B dX11_truncateInput_16 ⟨⟨n, hc0, Or.inr ⟨tr_neg (by omega) c_1, rfl, by omega⟩⟩, rfl, hI, (fun b9 h9 => rfl)⟩
  · obtain ⟨n_1, e_1, rfl⟩ := nI_of c_1
    refine z_iload_n B dX11_truncateInput_4 rfl 1 rfl ?_
    refine z_aload_n B dX11_truncateInput_5 rfl 0 rfl ?_
    have h_1 := in0 (k := 0) hI rfl
    have h_2 : Φ x = some (o_ 13 [.ref (x + 1), .ref (x + 3), .ref (x + 24), .ref (x + 46), .ref (x + 74), .ref (x + 80), .ref (x + 132), .ref (x + 121)]) := h_1
    refine z_get (ref := "FlowExporter") (C := RX11) (T := TX11) (N := 8) (ci := 13) (v := .ref (x + 1)) B hu_X11_truncateInput_X11 rfl 0 (Nat.le_of_ble_eq_true rfl) hv_X11_truncateInput_14 rfl h_2 rfl dX11_truncateInput_6 ?_
    refine z_get (ref := "FlowExporter$Message") (C := RX5) (T := TX5) (N := 2) (ci := 7) (v := .int (nI n)) B hu_X11_truncateInput_X5 rfl 1 (Nat.le_of_ble_eq_true rfl) hv_X11_truncateInput_97 rfl hc0 rfl dX11_truncateInput_9 ?_
    refine z_icmp_le (tgt := 17) B dX11_truncateInput_12 rfl (fun c_2 => ?_) (fun c_2 => ?_)
    · have e_2 : n_1 ≤ n := (nI_leI (a := n_1) (b := n) (by omega) (by omega)).mp c_2
      refine z_aload_n B dX11_truncateInput_17 rfl 0 rfl ?_
      refine z_get (ref := "FlowExporter") (C := RX11) (T := TX11) (N := 8) (ci := 13) (v := .ref (x + 1)) B hu_X11_truncateInput_X11 rfl 0 (Nat.le_of_ble_eq_true rfl) hv_X11_truncateInput_14 rfl h_2 rfl dX11_truncateInput_18 ?_
      refine z_iload_n B dX11_truncateInput_21 rfl 1 rfl ?_
      refine z_put (ref := "FlowExporter$Message") (C := RX5) (T := TX5) (N := 2) (ci := 7) (v := .int (nI n_1)) B hu_X11_truncateInput_X5 tyX5 tyX5_ok nmX5 rfl 1 (Nat.le_of_ble_eq_true rfl) hv_X11_truncateInput_97 rfl (Or.inl rfl) hc0 (Nat.le_trans hx (Nat.le_add_right x 1)) rfl rfl (Nat.le_of_ble_eq_true rfl) dX11_truncateInput_22 (fun Φ1 hΦ1 => ?_)
      have h_3 : Φ1 (x + 1) = some (o_ 7 [.ref (x + 2), .int (nI n_1)]) := fset_at hΦ1
      have hI1 : In G x (ca) Φ1 := In.put (k := 1) hI hΦ1 (ok1 (k := 1) rfl ⟨n_1, rfl, (show n_1 ≤ 700 by omega)⟩)
      refine z_iload_n B dX11_truncateInput_25 rfl 1 rfl ?_
      exact z_ret_i B dX11_truncateInput_26 ⟨⟨n_1, h_3, Or.inl ⟨n_1, by omega, rfl, rfl, rfl⟩⟩, rfl, hI1, (fun b9 h9 => ((fset_fr hΦ1 (fun h8 => h9 (1) h8 (show 1 = 1 by decide))).trans rfl))⟩
    · have e_3 : ¬ (n_1 ≤ n) := fun h9 => c_2 ((nI_leI (a := n_1) (b := n) (by omega) (by omega)).mpr h9)
      refine z_iconst (v := (-1)) B dX11_truncateInput_15 rfl ?_
      exact z_ret_i B dX11_truncateInput_16 ⟨⟨n, hc0, Or.inr ⟨tr_big (by omega) (by omega) (by omega), rfl, by omega⟩⟩, rfl, hI, (fun b9 h9 => rfl)⟩

theorem hu_X11_setRate_X11 : ∀ w ∈ u_ws RX11 TX11 8, w ∈ wsX11_setRate := fun _ h => List.mem_cons_of_mem _ (List.mem_append_left _ (List.mem_append_left _ (List.mem_append_left _ (List.mem_append_left _ (List.mem_append_left _ (List.mem_append_left _ (List.mem_append_left _ (List.mem_append_left _ (List.mem_append_left _ (List.mem_append_left _ (List.mem_append_right _ (h))))))))))))

theorem hv_X11_setRate_55 : Cond.fieldLink RX11 55 "FlowExporter" (TX11 5).2.1 (TX11 5).2.2.1 ∈ wsX11_setRate := List.mem_cons_of_mem _ (List.mem_append_left _ (List.mem_append_left _ (List.mem_append_left _ (List.mem_append_left _ (List.mem_append_left _ (List.mem_append_left _ (List.mem_append_left _ (List.mem_append_left _ (List.mem_append_left _ (List.mem_append_left _ (List.mem_append_left _ (List.mem_append_left _ (List.mem_of_getElem? (i := 0) rfl)))))))))))))

theorem hu_X11_setRate_X2 : ∀ w ∈ u_ws RX2 TX2 13, w ∈ wsX11_setRate := fun _ h => List.mem_cons_of_mem _ (List.mem_append_left _ (List.mem_append_left _ (List.mem_append_left _ (List.mem_append_left _ (List.mem_append_left _ (List.mem_append_left _ (List.mem_append_left _ (List.mem_append_left _ (List.mem_append_left _ (List.mem_append_right _ (h)))))))))))

theorem hv_X11_setRate_164 : Cond.fieldLink RX11 164 "FlowExporter$Exporter" (TX2 5).2.1 (TX2 5).2.2.1 ∈ wsX11_setRate := List.mem_cons_of_mem _ (List.mem_append_left _ (List.mem_append_left _ (List.mem_append_left _ (List.mem_append_left _ (List.mem_append_left _ (List.mem_append_left _ (List.mem_append_left _ (List.mem_append_left _ (List.mem_append_left _ (List.mem_append_left _ (List.mem_append_left _ (List.mem_append_left _ (List.mem_of_getElem? (i := 1) rfl)))))))))))))

theorem fq_505 {x : Nat} : ∀ j9 : Nat, x = x + j9 → (46 ≤ j9 ∧ j9 < 95) → False := by
  intro j9 h1 h2
  omega

set_option maxHeartbeats 4000000 in
set_option maxRecDepth 100000 in
theorem s_X11_setRate (G : EnvG) (l : Launch) (Φ : Hm) (sz x ca : Nat) (nw : Int32) (rt : Int32) (dw : Int32) (aq : Int32) (xp : Int32) (xb : Int32) (ob : Int64) (sm : Int64) (un : Int64) (a : Int32) (hx : G.2.2.2 ≤ x) (hI : In G x ca Φ) (hc0 : Φ (x + 80) = some (o_ 4 [.ref (x + 3), .ref (x + 74), .ref (x + 81), .ref (x + 95), .int nw, .int rt, .int dw, .int aq, .int xp, .int xb, .long ob, .long sm, .long un])) (had : aq = 0 ∨ aq = 1) : Ct G l yX11_setRate wsX11_setRate ({ frames := 6, cells := 0, slots := 0, locals := 146 }) 0 0 [.ref x, .int a] Φ sz (fun v Φ1 sz1 => ((∃ r9 : Int32, v = some (.int r9)) ∧ ∃ rt8 : Int32, ∃ xp8 : Int32, ∃ un8 : Int64, Φ1 (x + 80) = some (o_ 4 [.ref (x + 3), .ref (x + 74), .ref (x + 81), .ref (x + 95), .int nw, .int rt8, .int dw, .int aq, .int xp8, .int xb, .long ob, .long sm, .long un8])) ∧ sz1 = sz ∧ In G x (ca) Φ1 ∧ Fr x (fun j9 => 46 ≤ j9 ∧ j9 < 95) Φ Φ1) := by
  refine Ct.of (cc := cX11_setRate) (maxL := 3) (ret := (some .int)) (by decide) rfl (Nat.le_of_ble_eq_true rfl) ?_
  intro p9 e9 s9 m9 w9 t9 k9 B
  show Z p9 l e9 _ s9 m9 _ w9 t9 k9 _ G 3 0 [(0, .ref x), (1, .int a)] [] Φ sz 0 0
  refine z_iload_n B dX11_setRate_0 rfl 1 rfl ?_
  refine z_iconst (v := 1) B dX11_setRate_1 rfl ?_
  refine z_icmp_lt (tgt := 12) B dX11_setRate_2 rfl (fun c_1 => ?_) (fun c_1 => ?_)
  · refine z_iconst (v := (-1)) B dX11_setRate_12 rfl ?_
    exact z_ret_i B dX11_setRate_13 ⟨⟨⟨_, rfl⟩, rt, xp, un, hc0⟩, rfl, hI, (fun b9 h9 => rfl)⟩
  · obtain ⟨n_1, e_2, e_1, rfl⟩ := nI_ofge (c := 1) (by omega) c_1
    refine z_iload_n B dX11_setRate_5 rfl 1 rfl ?_
    refine z_sipush (v := 1024) B dX11_setRate_6 rfl ?_
    refine z_icmp_le (tgt := 14) B dX11_setRate_9 rfl (fun c_2 => ?_) (fun c_2 => ?_)
    · have e_3 : n_1 ≤ 1024 := (nI_leI (a := n_1) (b := 1024) (by omega) (by omega)).mp c_2
      refine z_iload_n B dX11_setRate_14 rfl 1 rfl ?_
      refine z_aload_n B dX11_setRate_15 rfl 0 rfl ?_
      have h_1 := in0 (k := 0) hI rfl
      have h_2 : Φ x = some (o_ 13 [.ref (x + 1), .ref (x + 3), .ref (x + 24), .ref (x + 46), .ref (x + 74), .ref (x + 80), .ref (x + 132), .ref (x + 121)]) := h_1
      refine z_get (ref := "FlowExporter") (C := RX11) (T := TX11) (N := 8) (ci := 13) (v := .ref (x + 80)) B hu_X11_setRate_X11 rfl 5 (Nat.le_of_ble_eq_true rfl) hv_X11_setRate_55 rfl h_2 rfl dX11_setRate_16 ?_
      refine z_get (ref := "FlowExporter$Exporter") (C := RX2) (T := TX2) (N := 13) (ci := 4) (v := .int rt) B hu_X11_setRate_X2 rfl 5 (Nat.le_of_ble_eq_true rfl) hv_X11_setRate_164 rfl hc0 rfl dX11_setRate_19 ?_
      refine z_icmp_ne (tgt := 27) B dX11_setRate_22 rfl (fun c_3 => ?_) (fun c_3 => ?_)
      · refine z_aload_n B dX11_setRate_27 rfl 0 rfl ?_
        refine z_get (ref := "FlowExporter") (C := RX11) (T := TX11) (N := 8) (ci := 13) (v := .ref (x + 80)) B hu_X11_setRate_X11 rfl 5 (Nat.le_of_ble_eq_true rfl) hv_X11_setRate_55 rfl h_2 rfl dX11_setRate_28 ?_
        refine z_callV (As := []) (rest := []) B (s_X2_exportAllAndSend G l Φ sz x (ca) nw rt dw aq xp xb ob sm un hx hI hc0 had) (cwV 0 B.1.2.2.2.2 gX11_setRate_X2_exportAllAndSend rfl rfl rfl (by decide +kernel) ⟨Nat.le_of_ble_eq_true rfl, Nat.le_of_ble_eq_true rfl⟩) hc0 rfl rfl rfl rfl (Nat.le_of_ble_eq_true rfl) dX11_setRate_31 ⟨Nat.le_of_ble_eq_true rfl, Nat.le_of_ble_eq_true rfl⟩ (fun r_1 Φ1 sz1 st1 hp1 hs1 => ?_)
        obtain ⟨⟨⟨n_2, rfl, b_1⟩, v_1, v_2, h_3⟩, hq1, hI1, hF1⟩ := hp1
        subst sz1
        replace hs1 : st1 = [.int (nI n_2)] := hs1
        subst st1
        replace hI1 : In G x (ca) Φ1 := hI1
        replace b_1 : n_2 ≤ 12 := b_1
        refine z_istore_n (lv' := [(2, .int (nI n_2)), (0, .ref x), (1, .int (nI n_1))]) B dX11_setRate_34 rfl (Nat.le_of_ble_eq_true rfl) rfl ?_
        refine z_aload_n B dX11_setRate_35 rfl 1 rfl ?_
        have h_4 : Φ1 x = some (o_ 13 [.ref (x + 1), .ref (x + 3), .ref (x + 24), .ref (x + 46), .ref (x + 74), .ref (x + 80), .ref (x + 132), .ref (x + 121)]) := ((hF1 x fq_505).trans h_2)
        refine z_get (ref := "FlowExporter") (C := RX11) (T := TX11) (N := 8) (ci := 13) (v := .ref (x + 80)) B hu_X11_setRate_X11 rfl 5 (Nat.le_of_ble_eq_true rfl) hv_X11_setRate_55 rfl h_4 rfl dX11_setRate_36 ?_
        refine z_iload_n B dX11_setRate_39 rfl 2 rfl ?_
        refine z_put (ref := "FlowExporter$Exporter") (C := RX2) (T := TX2) (N := 13) (ci := 4) (v := .int (nI n_1)) B hu_X11_setRate_X2 tyX2 tyX2_ok nmX2 rfl 5 (Nat.le_of_ble_eq_true rfl) hv_X11_setRate_164 rfl (Or.inl rfl) h_3 (Nat.le_trans hx (Nat.le_add_right x 80)) rfl rfl (Nat.le_of_ble_eq_true rfl) dX11_setRate_40 (fun Φ2 hΦ1 => ?_)
        have h_5 : Φ2 (x + 80) = some (o_ 4 [.ref (x + 3), .ref (x + 74), .ref (x + 81), .ref (x + 95), .int nw, .int (nI n_1), .int dw, .int aq, .int v_1, .int xb, .long ob, .long sm, .long v_2]) := fset_at hΦ1
        have hI2 : In G x (ca) Φ2 := In.put (k := 80) hI1 hΦ1 (ok16 (k := 80) rfl ⟨nw, nI n_1, dw, aq, v_1, xb, ob, sm, v_2, rfl, had⟩)
        refine z_iload_n B dX11_setRate_43 rfl 0 rfl ?_
        exact z_ret_i B dX11_setRate_44 ⟨⟨⟨_, rfl⟩, nI n_1, v_1, v_2, h_5⟩, rfl, hI2, (fun b9 h9 => ((fset_fr hΦ1 (fun h8 => h9 (80) h8 (show 46 ≤ 80 ∧ 80 < 95 by decide))).trans ((hF1 b9 h9).trans rfl)))⟩
      · refine z_iconst (v := 0) B dX11_setRate_25 rfl ?_
        exact z_ret_i B dX11_setRate_26 ⟨⟨⟨_, rfl⟩, rt, xp, un, hc0⟩, rfl, hI, (fun b9 h9 => rfl)⟩
    · have e_4 : ¬ (n_1 ≤ 1024) := fun h9 => c_2 ((nI_leI (a := n_1) (b := 1024) (by omega) (by omega)).mpr h9)
      refine z_iconst (v := (-1)) B dX11_setRate_12 rfl ?_
      exact z_ret_i B dX11_setRate_13 ⟨⟨⟨_, rfl⟩, rt, xp, un, hc0⟩, rfl, hI, (fun b9 h9 => rfl)⟩

theorem hu_X11_setAdaptive_X11 : ∀ w ∈ u_ws RX11 TX11 8, w ∈ wsX11_setAdaptive := fun _ h => List.mem_cons_of_mem _ (List.mem_append_left _ (List.mem_append_right _ (h)))

theorem hv_X11_setAdaptive_55 : Cond.fieldLink RX11 55 "FlowExporter" (TX11 5).2.1 (TX11 5).2.2.1 ∈ wsX11_setAdaptive := List.mem_cons_of_mem _ (List.mem_append_left _ (List.mem_append_left _ (List.mem_of_getElem? (i := 0) rfl)))

theorem hu_X11_setAdaptive_X2 : ∀ w ∈ u_ws RX2 TX2 13, w ∈ wsX11_setAdaptive := fun _ h => List.mem_cons_of_mem _ (List.mem_append_right _ (h))

theorem hv_X11_setAdaptive_171 : Cond.fieldLink RX11 171 "FlowExporter$Exporter" (TX2 7).2.1 (TX2 7).2.2.1 ∈ wsX11_setAdaptive := List.mem_cons_of_mem _ (List.mem_append_left _ (List.mem_append_left _ (List.mem_of_getElem? (i := 1) rfl)))

set_option maxHeartbeats 4000000 in
set_option maxRecDepth 100000 in
theorem s_X11_setAdaptive (G : EnvG) (l : Launch) (Φ : Hm) (sz x ca : Nat) (nw : Int32) (rt : Int32) (dw : Int32) (aq : Int32) (xp : Int32) (xb : Int32) (ob : Int64) (sm : Int64) (un : Int64) (a : Int32) (hx : G.2.2.2 ≤ x) (hI : In G x ca Φ) (hc0 : Φ (x + 80) = some (o_ 4 [.ref (x + 3), .ref (x + 74), .ref (x + 81), .ref (x + 95), .int nw, .int rt, .int dw, .int aq, .int xp, .int xb, .long ob, .long sm, .long un])) (ha : a = 0 ∨ a = 1) (had : aq = 0 ∨ aq = 1) : Ct G l yX11_setAdaptive wsX11_setAdaptive ({ frames := 0, cells := 0, slots := 0, locals := 0 }) 0 0 [.ref x, .int a] Φ sz (fun v Φ1 sz1 => ((v = some (.int aq)) ∧ Φ1 (x + 80) = some (o_ 4 [.ref (x + 3), .ref (x + 74), .ref (x + 81), .ref (x + 95), .int nw, .int rt, .int dw, .int a, .int xp, .int xb, .long ob, .long sm, .long un])) ∧ sz1 = sz ∧ In G x (ca) Φ1 ∧ Fr x (fun j9 => j9 = 80) Φ Φ1) := by
  refine Ct.of (cc := cX11_setAdaptive) (maxL := 3) (ret := (some .boolean)) (by decide) rfl (Nat.le_of_ble_eq_true rfl) ?_
  intro p9 e9 s9 m9 w9 t9 k9 B
  show Z p9 l e9 _ s9 m9 _ w9 t9 k9 _ G 3 0 [(0, .ref x), (1, .int a)] [] Φ sz 0 0
  refine z_aload_n B dX11_setAdaptive_0 rfl 0 rfl ?_
  have h_1 := in0 (k := 0) hI rfl
  have h_2 : Φ x = some (o_ 13 [.ref (x + 1), .ref (x + 3), .ref (x + 24), .ref (x + 46), .ref (x + 74), .ref (x + 80), .ref (x + 132), .ref (x + 121)]) := h_1
  refine z_get (ref := "FlowExporter") (C := RX11) (T := TX11) (N := 8) (ci := 13) (v := .ref (x + 80)) B hu_X11_setAdaptive_X11 rfl 5 (Nat.le_of_ble_eq_true rfl) hv_X11_setAdaptive_55 rfl h_2 rfl dX11_setAdaptive_1 ?_
  refine z_get (ref := "FlowExporter$Exporter") (C := RX2) (T := TX2) (N := 13) (ci := 4) (v := .int aq) B hu_X11_setAdaptive_X2 rfl 7 (Nat.le_of_ble_eq_true rfl) hv_X11_setAdaptive_171 rfl hc0 rfl dX11_setAdaptive_4 ?_
  refine z_istore_n (lv' := [(2, .int aq), (0, .ref x), (1, .int a)]) B dX11_setAdaptive_7 rfl (Nat.le_of_ble_eq_true rfl) rfl ?_
  refine z_aload_n B dX11_setAdaptive_8 rfl 1 rfl ?_
  refine z_get (ref := "FlowExporter") (C := RX11) (T := TX11) (N := 8) (ci := 13) (v := .ref (x + 80)) B hu_X11_setAdaptive_X11 rfl 5 (Nat.le_of_ble_eq_true rfl) hv_X11_setAdaptive_55 rfl h_2 rfl dX11_setAdaptive_9 ?_
  refine z_iload_n B dX11_setAdaptive_12 rfl 2 rfl ?_
  refine z_put (ref := "FlowExporter$Exporter") (C := RX2) (T := TX2) (N := 13) (ci := 4) (v := .int a) B hu_X11_setAdaptive_X2 tyX2 tyX2_ok nmX2 rfl 7 (Nat.le_of_ble_eq_true rfl) hv_X11_setAdaptive_171 rfl (Or.inl rfl) hc0 (Nat.le_trans hx (Nat.le_add_right x 80)) (nar_z ha) (fit_z ha) (Nat.le_of_ble_eq_true rfl) dX11_setAdaptive_13 (fun Φ1 hΦ1 => ?_)
  have h_3 : Φ1 (x + 80) = some (o_ 4 [.ref (x + 3), .ref (x + 74), .ref (x + 81), .ref (x + 95), .int nw, .int rt, .int dw, .int a, .int xp, .int xb, .long ob, .long sm, .long un]) := fset_at hΦ1
  have hI1 : In G x (ca) Φ1 := In.put (k := 80) hI hΦ1 (ok16 (k := 80) rfl ⟨nw, rt, dw, a, xp, xb, ob, sm, un, rfl, ha⟩)
  refine z_iload_n B dX11_setAdaptive_16 rfl 0 rfl ?_
  exact z_ret_z B dX11_setAdaptive_17 had ⟨⟨rfl, h_3⟩, rfl, hI1, (fun b9 h9 => ((fset_fr hΦ1 (fun h8 => h9 (80) h8 (show 80 = 80 by decide))).trans rfl))⟩

theorem hu_X11_setSeed_X11 : ∀ w ∈ u_ws RX11 TX11 8, w ∈ wsX11_setSeed := fun _ h => List.mem_cons_of_mem _ (List.mem_append_left _ (List.mem_append_right _ (h)))

theorem hv_X11_setSeed_55 : Cond.fieldLink RX11 55 "FlowExporter" (TX11 5).2.1 (TX11 5).2.2.1 ∈ wsX11_setSeed := List.mem_cons_of_mem _ (List.mem_append_left _ (List.mem_append_left _ (List.mem_of_getElem? (i := 0) rfl)))

theorem hu_X11_setSeed_X2 : ∀ w ∈ u_ws RX2 TX2 13, w ∈ wsX11_setSeed := fun _ h => List.mem_cons_of_mem _ (List.mem_append_right _ (h))

theorem hv_X11_setSeed_175 : Cond.fieldLink RX11 175 "FlowExporter$Exporter" (TX2 6).2.1 (TX2 6).2.2.1 ∈ wsX11_setSeed := List.mem_cons_of_mem _ (List.mem_append_left _ (List.mem_append_left _ (List.mem_of_getElem? (i := 1) rfl)))

set_option maxHeartbeats 4000000 in
set_option maxRecDepth 100000 in
theorem s_X11_setSeed (G : EnvG) (l : Launch) (Φ : Hm) (sz x ca : Nat) (nw : Int32) (rt : Int32) (dw : Int32) (aq : Int32) (xp : Int32) (xb : Int32) (ob : Int64) (sm : Int64) (un : Int64) (a : Int32) (hx : G.2.2.2 ≤ x) (hI : In G x ca Φ) (hc0 : Φ (x + 80) = some (o_ 4 [.ref (x + 3), .ref (x + 74), .ref (x + 81), .ref (x + 95), .int nw, .int rt, .int dw, .int aq, .int xp, .int xb, .long ob, .long sm, .long un])) (had : aq = 0 ∨ aq = 1) : Ct G l yX11_setSeed wsX11_setSeed ({ frames := 0, cells := 0, slots := 0, locals := 0 }) 0 0 [.ref x, .int a] Φ sz (fun v Φ1 sz1 => ((∃ r9 : Int32, v = some (.int r9) ∧ (r9 = 0 ∨ r9 = 1)) ∧ ∃ dw8 : Int32, Φ1 (x + 80) = some (o_ 4 [.ref (x + 3), .ref (x + 74), .ref (x + 81), .ref (x + 95), .int nw, .int rt, .int dw8, .int aq, .int xp, .int xb, .long ob, .long sm, .long un])) ∧ sz1 = sz ∧ In G x (ca) Φ1 ∧ Fr x (fun j9 => j9 = 80) Φ Φ1) := by
  refine Ct.of (cc := cX11_setSeed) (maxL := 2) (ret := (some .boolean)) (by decide) rfl (Nat.le_of_ble_eq_true rfl) ?_
  intro p9 e9 s9 m9 w9 t9 k9 B
  show Z p9 l e9 _ s9 m9 _ w9 t9 k9 _ G 2 0 [(0, .ref x), (1, .int a)] [] Φ sz 0 0
  refine z_iload_n B dX11_setSeed_0 rfl 1 rfl ?_
  refine z_if_ge (tgt := 6) B dX11_setSeed_1 rfl (fun c_1 => ?_) (fun c_1 => ?_)
  · obtain ⟨n_1, e_1, rfl⟩ := nI_of (Int32.not_lt.mpr c_1)
    refine z_aload_n B dX11_setSeed_6 rfl 0 rfl ?_
    have h_1 := in0 (k := 0) hI rfl
    have h_2 : Φ x = some (o_ 13 [.ref (x + 1), .ref (x + 3), .ref (x + 24), .ref (x + 46), .ref (x + 74), .ref (x + 80), .ref (x + 132), .ref (x + 121)]) := h_1
    refine z_get (ref := "FlowExporter") (C := RX11) (T := TX11) (N := 8) (ci := 13) (v := .ref (x + 80)) B hu_X11_setSeed_X11 rfl 5 (Nat.le_of_ble_eq_true rfl) hv_X11_setSeed_55 rfl h_2 rfl dX11_setSeed_7 ?_
    refine z_iload_n B dX11_setSeed_10 rfl 1 rfl ?_
    refine z_put (ref := "FlowExporter$Exporter") (C := RX2) (T := TX2) (N := 13) (ci := 4) (v := .int (nI n_1)) B hu_X11_setSeed_X2 tyX2 tyX2_ok nmX2 rfl 6 (Nat.le_of_ble_eq_true rfl) hv_X11_setSeed_175 rfl (Or.inl rfl) hc0 (Nat.le_trans hx (Nat.le_add_right x 80)) rfl rfl (Nat.le_of_ble_eq_true rfl) dX11_setSeed_11 (fun Φ1 hΦ1 => ?_)
    have h_3 : Φ1 (x + 80) = some (o_ 4 [.ref (x + 3), .ref (x + 74), .ref (x + 81), .ref (x + 95), .int nw, .int rt, .int (nI n_1), .int aq, .int xp, .int xb, .long ob, .long sm, .long un]) := fset_at hΦ1
    have hI1 : In G x (ca) Φ1 := In.put (k := 80) hI hΦ1 (ok16 (k := 80) rfl ⟨nw, rt, nI n_1, aq, xp, xb, ob, sm, un, rfl, had⟩)
    refine z_iconst (v := 1) B dX11_setSeed_14 rfl ?_
    exact z_ret_z B dX11_setSeed_15 (by decide) ⟨⟨⟨_, rfl, by decide⟩, nI n_1, h_3⟩, rfl, hI1, (fun b9 h9 => ((fset_fr hΦ1 (fun h8 => h9 (80) h8 (show 80 = 80 by decide))).trans rfl))⟩
  · refine z_iconst (v := 0) B dX11_setSeed_4 rfl ?_
    exact z_ret_z B dX11_setSeed_5 (by decide) ⟨⟨⟨_, rfl, by decide⟩, dw, hc0⟩, rfl, hI, (fun b9 h9 => rfl)⟩

theorem hu_X11_find_X11 : ∀ w ∈ u_ws RX11 TX11 8, w ∈ wsX11_find := fun _ h => List.mem_cons_of_mem _ (List.mem_append_left _ (List.mem_append_left _ (List.mem_append_right _ (h))))

theorem hv_X11_find_62 : Cond.fieldLink RX11 62 "FlowExporter" (TX11 7).2.1 (TX11 7).2.2.1 ∈ wsX11_find := List.mem_cons_of_mem _ (List.mem_append_left _ (List.mem_append_left _ (List.mem_append_left _ (List.mem_of_getElem? (i := 0) rfl))))

set_option maxHeartbeats 4000000 in
set_option maxRecDepth 100000 in
theorem s_X11_find (G : EnvG) (l : Launch) (Φ : Hm) (sz x ca : Nat) (a : Int32) (b : Int32) (d : Int32) (f : Int32) (hx : G.2.2.2 ≤ x) (hI : In G x ca Φ)  : Ct G l yX11_find wsX11_find ({ frames := 1, cells := 0, slots := 0, locals := 23 }) 0 0 [.ref x, .int a, .int b, .int d, .int f] Φ sz (fun v Φ1 sz1 => (∃ r9 : Int32, v = some (.int r9)) ∧ sz1 = sz ∧ In G x (ca) Φ1 ∧ Fr x (fun j9 => False) Φ Φ1) := by
  refine Ct.of (cc := cX11_find) (maxL := 5) (ret := (some .int)) (by decide) rfl (Nat.le_of_ble_eq_true rfl) ?_
  intro p9 e9 s9 m9 w9 t9 k9 B
  show Z p9 l e9 _ s9 m9 _ w9 t9 k9 _ G 5 0 [(0, .ref x), (1, .int a), (2, .int b), (3, .int d), (4, .int f)] [] Φ sz 0 0
  refine z_aload_n B dX11_find_0 rfl 0 rfl ?_
  have h_1 := in0 (k := 0) hI rfl
  have h_2 : Φ x = some (o_ 13 [.ref (x + 1), .ref (x + 3), .ref (x + 24), .ref (x + 46), .ref (x + 74), .ref (x + 80), .ref (x + 132), .ref (x + 121)]) := h_1
  refine z_get (ref := "FlowExporter") (C := RX11) (T := TX11) (N := 8) (ci := 13) (v := .ref (x + 121)) B hu_X11_find_X11 rfl 7 (Nat.le_of_ble_eq_true rfl) hv_X11_find_62 rfl h_2 rfl dX11_find_1 ?_
  refine z_iload_n B dX11_find_4 rfl 1 rfl ?_
  refine z_iload_n B dX11_find_5 rfl 2 rfl ?_
  refine z_iload_n B dX11_find_6 rfl 3 rfl ?_
  refine z_iload B dX11_find_7 4 rfl ?_
  refine z_callS (As := [.int a, .int b, .int d, .int f]) (rest := [.ref (x + 121)]) B (s_X3_keyOf G l Φ sz x (ca) a b d f hx hI ) (va_cwS 4 B.1.2.2.2.2 gX11_find_X3_keyOf rfl rfl rfl (by decide +kernel) ⟨Nat.le_of_ble_eq_true rfl, Nat.le_of_ble_eq_true rfl⟩) rfl rfl (Nat.le_of_ble_eq_true rfl) dX11_find_9 ⟨Nat.le_of_ble_eq_true rfl, Nat.le_of_ble_eq_true rfl⟩ (fun r_1 Φ1 sz1 st1 hp1 hs1 => ?_)
  obtain ⟨rfl, hq1, hI1, hF1⟩ := hp1
  subst sz1
  replace hs1 : st1 = [.long (keyF a b d f), .ref (x + 121)] := hs1
  subst st1
  replace hI1 : In G x (ca) Φ1 := hI1
  obtain ⟨n_1, h_3, b_1⟩ := in20 (k := 121) hI1 rfl
  have h_4 : Φ1 (x + 121) = some (o_ 11 [.ref (x + 122), .ref (x + 123), .ref (x + 126), .ref (x + 129), .int (nI n_1)]) := h_3
  refine z_callV (As := [.long (keyF a b d f)]) (rest := []) B (s_X9_indexOf G l Φ1 sz x (ca) (keyF a b d f) hx hI1 ) (cwV 1 B.1.2.2.2.2 gX11_find_X9_indexOf rfl rfl rfl (by decide +kernel) ⟨Nat.le_of_ble_eq_true rfl, Nat.le_of_ble_eq_true rfl⟩) h_4 rfl rfl rfl rfl (Nat.le_of_ble_eq_true rfl) dX11_find_12 ⟨Nat.le_of_ble_eq_true rfl, Nat.le_of_ble_eq_true rfl⟩ (fun r_2 Φ2 sz2 st2 hp2 hs2 => ?_)
  obtain ⟨⟨v_1, rfl⟩, hq2, hI2, hF2⟩ := hp2
  subst sz2
  replace hs2 : st2 = [.int v_1] := hs2
  subst st2
  replace hI2 : In G x (ca) Φ2 := hI2
  exact z_ret_i B dX11_find_15 ⟨⟨_, rfl⟩, rfl, hI2, (fun b9 h9 => ((hF2 b9 (fun j9 h8 h7 => (show False from h7).elim)).trans ((hF1 b9 (fun j9 h8 h7 => (show False from h7).elim)).trans rfl)))⟩

theorem hu_X11_receive_X11 : ∀ w ∈ u_ws RX11 TX11 8, w ∈ wsX11_receive := fun _ h => List.mem_cons_of_mem _ (List.mem_append_left _ (List.mem_append_left _ (List.mem_append_left _ (List.mem_append_left _ (List.mem_append_left _ (List.mem_append_left _ (List.mem_append_left _ (List.mem_append_right _ (h)))))))))

theorem hv_X11_receive_71 : Cond.fieldLink RX11 71 "FlowExporter" (TX11 6).2.1 (TX11 6).2.2.1 ∈ wsX11_receive := List.mem_cons_of_mem _ (List.mem_append_left _ (List.mem_append_left _ (List.mem_append_left _ (List.mem_append_left _ (List.mem_append_left _ (List.mem_append_left _ (List.mem_append_left _ (List.mem_append_left _ (List.mem_append_left _ (List.mem_of_getElem? (i := 0) rfl))))))))))

theorem hv_X11_receive_14 : Cond.fieldLink RX11 14 "FlowExporter" (TX11 0).2.1 (TX11 0).2.2.1 ∈ wsX11_receive := List.mem_cons_of_mem _ (List.mem_append_left _ (List.mem_append_left _ (List.mem_append_left _ (List.mem_append_left _ (List.mem_append_left _ (List.mem_append_left _ (List.mem_append_left _ (List.mem_append_left _ (List.mem_append_left _ (List.mem_of_getElem? (i := 1) rfl))))))))))

theorem hv_X11_receive_55 : Cond.fieldLink RX11 55 "FlowExporter" (TX11 5).2.1 (TX11 5).2.2.1 ∈ wsX11_receive := List.mem_cons_of_mem _ (List.mem_append_left _ (List.mem_append_left _ (List.mem_append_left _ (List.mem_append_left _ (List.mem_append_left _ (List.mem_append_left _ (List.mem_append_left _ (List.mem_append_left _ (List.mem_append_left _ (List.mem_of_getElem? (i := 2) rfl))))))))))

theorem hu_X11_receive_X2 : ∀ w ∈ u_ws RX2 TX2 13, w ∈ wsX11_receive := fun _ h => List.mem_cons_of_mem _ (List.mem_append_left _ (List.mem_append_left _ (List.mem_append_left _ (List.mem_append_left _ (List.mem_append_left _ (List.mem_append_left _ (List.mem_append_right _ (h))))))))

theorem hv_X11_receive_110 : Cond.fieldLink RX11 110 "FlowExporter$Exporter" (TX2 4).2.1 (TX2 4).2.2.1 ∈ wsX11_receive := List.mem_cons_of_mem _ (List.mem_append_left _ (List.mem_append_left _ (List.mem_append_left _ (List.mem_append_left _ (List.mem_append_left _ (List.mem_append_left _ (List.mem_append_left _ (List.mem_append_left _ (List.mem_append_left _ (List.mem_of_getElem? (i := 3) rfl))))))))))

theorem fq_522 {x : Nat} : ∀ j9 : Nat, x = x + j9 → ((121 ≤ j9 ∧ j9 < 149)) → False := by
  intro j9 h1 h2
  omega

theorem hu_X11_receive_X5 : ∀ w ∈ u_ws RX5 TX5 2, w ∈ wsX11_receive := fun _ h => List.mem_cons_of_mem _ (List.mem_append_left _ (List.mem_append_left _ (List.mem_append_left _ (List.mem_append_left _ (List.mem_append_left _ (List.mem_append_right _ (h)))))))

theorem hv_X11_receive_97 : Cond.fieldLink RX11 97 "FlowExporter$Message" (TX5 1).2.1 (TX5 1).2.2.1 ∈ wsX11_receive := List.mem_cons_of_mem _ (List.mem_append_left _ (List.mem_append_left _ (List.mem_append_left _ (List.mem_append_left _ (List.mem_append_left _ (List.mem_append_left _ (List.mem_append_left _ (List.mem_append_left _ (List.mem_append_left _ (List.mem_of_getElem? (i := 4) rfl))))))))))

theorem fq_525 : ∀ j9 : Nat, ((121 ≤ j9 ∧ j9 < 149)) → (j9 = 1 ∨ (121 ≤ j9 ∧ j9 < 149)) := by
  intro j9 h
  omega

set_option maxHeartbeats 4000000 in
set_option maxRecDepth 100000 in
theorem s_X11_receive (G : EnvG) (l : Launch) (Φ : Hm) (sz x ca : Nat)  (hx : G.2.2.2 ≤ x) (hI : In G x ca Φ) (hca : ca < 1000000) : Ct G l yX11_receive wsX11_receive ({ frames := 6, cells := 0, slots := 0, locals := 156 }) 0 0 [.ref x] Φ sz (fun v Φ1 sz1 => ((∃ r9 : Int32, v = some (.int r9)) ∧ Φ1 (x + 1) = some (o_ 7 [.ref (x + 2), .int (nI 0)])) ∧ sz1 = sz ∧ In G x (ca + 1) Φ1 ∧ Fr x (fun j9 => j9 = 1 ∨ (121 ≤ j9 ∧ j9 < 149)) Φ Φ1) := by
  refine Ct.of (cc := cX11_receive) (maxL := 2) (ret := (some .int)) (by decide) rfl (Nat.le_of_ble_eq_true rfl) ?_
  intro p9 e9 s9 m9 w9 t9 k9 B
  show Z p9 l e9 _ s9 m9 _ w9 t9 k9 _ G 2 0 [(0, .ref x)] [] Φ sz 0 0
  refine z_aload_n B dX11_receive_0 rfl 0 rfl ?_
  have h_1 := in0 (k := 0) hI rfl
  have h_2 : Φ x = some (o_ 13 [.ref (x + 1), .ref (x + 3), .ref (x + 24), .ref (x + 46), .ref (x + 74), .ref (x + 80), .ref (x + 132), .ref (x + 121)]) := h_1
  refine z_get (ref := "FlowExporter") (C := RX11) (T := TX11) (N := 8) (ci := 13) (v := .ref (x + 132)) B hu_X11_receive_X11 rfl 6 (Nat.le_of_ble_eq_true rfl) hv_X11_receive_71 rfl h_2 rfl dX11_receive_1 ?_
  refine z_aload_n B dX11_receive_4 rfl 0 rfl ?_
  refine z_get (ref := "FlowExporter") (C := RX11) (T := TX11) (N := 8) (ci := 13) (v := .ref (x + 1)) B hu_X11_receive_X11 rfl 0 (Nat.le_of_ble_eq_true rfl) hv_X11_receive_14 rfl h_2 rfl dX11_receive_5 ?_
  refine z_aload_n B dX11_receive_8 rfl 0 rfl ?_
  refine z_get (ref := "FlowExporter") (C := RX11) (T := TX11) (N := 8) (ci := 13) (v := .ref (x + 80)) B hu_X11_receive_X11 rfl 5 (Nat.le_of_ble_eq_true rfl) hv_X11_receive_55 rfl h_2 rfl dX11_receive_9 ?_
  obtain ⟨v_1, v_2, v_3, v_4, v_5, v_6, v_7, v_8, v_9, h_3, b_1⟩ := in16 (k := 80) hI rfl
  have h_4 : Φ (x + 80) = some (o_ 4 [.ref (x + 3), .ref (x + 74), .ref (x + 81), .ref (x + 95), .int v_1, .int v_2, .int v_3, .int v_4, .int v_5, .int v_6, .long v_7, .long v_8, .long v_9]) := h_3
  refine z_get (ref := "FlowExporter$Exporter") (C := RX2) (T := TX2) (N := 13) (ci := 4) (v := .int v_1) B hu_X11_receive_X2 rfl 4 (Nat.le_of_ble_eq_true rfl) hv_X11_receive_110 rfl h_4 rfl dX11_receive_12 ?_
  obtain ⟨n_1, v_10, v_11, h_5, b_2⟩ := in25 (k := 132) hI rfl
  have h_6 : Φ (x + 132) = some (o_ 2 [.ref (x + 3), .ref (x + 121), .ref (x + 133), .ref (x + 134), .ref (x + 135), .ref (x + 137), .ref (x + 138), .ref (x + 139), .ref (x + 140), .int (nI n_1), .int v_10, .int v_11]) := h_5
  refine z_callV (As := [.ref (x + 1), .int v_1]) (rest := []) B (s_X0_take G l Φ sz x (ca) 1 v_1 hx hI rfl (show ca < 1000000 by omega)) (cwV 2 B.1.2.2.2.2 gX11_receive_X0_take rfl rfl rfl (by decide +kernel) ⟨Nat.le_of_ble_eq_true rfl, Nat.le_of_ble_eq_true rfl⟩) h_6 rfl rfl rfl rfl (Nat.le_of_ble_eq_true rfl) dX11_receive_15 ⟨Nat.le_of_ble_eq_true rfl, Nat.le_of_ble_eq_true rfl⟩ (fun r_1 Φ1 sz1 st1 hp1 hs1 => ?_)
  obtain ⟨⟨v_12, rfl⟩, hq1, hI1, hF1⟩ := hp1
  subst sz1
  replace hs1 : st1 = [.int v_12] := hs1
  subst st1
  replace hI1 : In G x (ca + 1) Φ1 := hI1
  refine z_istore_n (lv' := [(1, .int v_12), (0, .ref x)]) B dX11_receive_18 rfl (Nat.le_of_ble_eq_true rfl) rfl ?_
  refine z_aload_n B dX11_receive_19 rfl 1 rfl ?_
  have h_7 : Φ1 x = some (o_ 13 [.ref (x + 1), .ref (x + 3), .ref (x + 24), .ref (x + 46), .ref (x + 74), .ref (x + 80), .ref (x + 132), .ref (x + 121)]) := ((hF1 x fq_522).trans h_2)
  refine z_get (ref := "FlowExporter") (C := RX11) (T := TX11) (N := 8) (ci := 13) (v := .ref (x + 1)) B hu_X11_receive_X11 rfl 0 (Nat.le_of_ble_eq_true rfl) hv_X11_receive_14 rfl h_7 rfl dX11_receive_20 ?_
  refine z_iconst (v := 0) B dX11_receive_23 rfl ?_
  obtain ⟨n_2, h_8, b_3⟩ := in1 (k := 1) hI1 rfl
  replace b_3 : n_2 ≤ 700 := b_3
  have h_9 : Φ1 (x + 1) = some (o_ 7 [.ref (x + 2), .int (nI n_2)]) := h_8
  refine z_put (ref := "FlowExporter$Message") (C := RX5) (T := TX5) (N := 2) (ci := 7) (v := .int 0) B hu_X11_receive_X5 tyX5 tyX5_ok nmX5 rfl 1 (Nat.le_of_ble_eq_true rfl) hv_X11_receive_97 rfl (Or.inl rfl) h_9 (Nat.le_trans hx (Nat.le_add_right x 1)) rfl rfl (Nat.le_of_ble_eq_true rfl) dX11_receive_24 (fun Φ2 hΦ1 => ?_)
  have h_10 : Φ2 (x + 1) = some (o_ 7 [.ref (x + 2), .int 0]) := fset_at hΦ1
  have hI2 : In G x (ca + 1) Φ2 := In.put (k := 1) hI1 hΦ1 (ok1 (k := 1) rfl ⟨0, rfl, (show 0 ≤ 700 by omega)⟩)
  refine z_iload_n B dX11_receive_27 rfl 0 rfl ?_
  exact z_ret_i B dX11_receive_28 ⟨⟨⟨_, rfl⟩, (h_10.trans (congrArg (fun w9 : Nat => some (o_ 7 [.ref (x + 2), .int (nI w9)])) (show 0 = 0 by omega)))⟩, rfl, hI2, (fun b9 h9 => ((fset_fr hΦ1 (fun h8 => h9 (1) h8 (show 1 = 1 ∨ (121 ≤ 1 ∧ 1 < 149) by decide))).trans ((hF1 b9 (fun j9 h8 h7 => h9 j9 h8 (fq_525 j9 h7))).trans rfl)))⟩

theorem hu_X11_deliverAll_X11 : ∀ w ∈ u_ws RX11 TX11 8, w ∈ wsX11_deliverAll := fun _ h => List.mem_cons_of_mem _ (List.mem_append_left _ (List.mem_append_left _ (List.mem_append_left _ (List.mem_append_left _ (List.mem_append_left _ (List.mem_append_left _ (List.mem_append_left _ (List.mem_append_left _ (List.mem_append_right _ (h))))))))))

theorem hv_X11_deliverAll_37 : Cond.fieldLink RX11 37 "FlowExporter" (TX11 3).2.1 (TX11 3).2.2.1 ∈ wsX11_deliverAll := List.mem_cons_of_mem _ (List.mem_append_left _ (List.mem_append_left _ (List.mem_append_left _ (List.mem_append_left _ (List.mem_append_left _ (List.mem_append_left _ (List.mem_append_left _ (List.mem_append_left _ (List.mem_append_left _ (List.mem_append_left _ (List.mem_of_getElem? (i := 0) rfl)))))))))))

theorem hu_X11_deliverAll_X7 : ∀ w ∈ u_ws RX7 TX7 3, w ∈ wsX11_deliverAll := fun _ h => List.mem_cons_of_mem _ (List.mem_append_left _ (List.mem_append_left _ (List.mem_append_left _ (List.mem_append_left _ (List.mem_append_left _ (List.mem_append_left _ (List.mem_append_left _ (List.mem_append_right _ (h)))))))))

theorem hv_X11_deliverAll_231 : Cond.fieldLink RX11 231 "FlowExporter$Queue" (TX7 1).2.1 (TX7 1).2.2.1 ∈ wsX11_deliverAll := List.mem_cons_of_mem _ (List.mem_append_left _ (List.mem_append_left _ (List.mem_append_left _ (List.mem_append_left _ (List.mem_append_left _ (List.mem_append_left _ (List.mem_append_left _ (List.mem_append_left _ (List.mem_append_left _ (List.mem_append_left _ (List.mem_of_getElem? (i := 1) rfl)))))))))))

theorem fq_530 {x : Nat} : ∀ j9 : Nat, x = x + j9 → ((46 ≤ j9 ∧ j9 < 74) ∨ (121 ≤ j9 ∧ j9 < 149)) → False := by
  intro j9 h1 h2
  omega

theorem hv_X11_deliverAll_71 : Cond.fieldLink RX11 71 "FlowExporter" (TX11 6).2.1 (TX11 6).2.2.1 ∈ wsX11_deliverAll := List.mem_cons_of_mem _ (List.mem_append_left _ (List.mem_append_left _ (List.mem_append_left _ (List.mem_append_left _ (List.mem_append_left _ (List.mem_append_left _ (List.mem_append_left _ (List.mem_append_left _ (List.mem_append_left _ (List.mem_append_left _ (List.mem_of_getElem? (i := 2) rfl)))))))))))

theorem fq_532 {x : Nat} : ∀ j9 : Nat, x = x + j9 → (j9 = 46 ∨ j9 = 47) → False := by
  intro j9 h1 h2
  omega

theorem hv_X11_deliverAll_55 : Cond.fieldLink RX11 55 "FlowExporter" (TX11 5).2.1 (TX11 5).2.2.1 ∈ wsX11_deliverAll := List.mem_cons_of_mem _ (List.mem_append_left _ (List.mem_append_left _ (List.mem_append_left _ (List.mem_append_left _ (List.mem_append_left _ (List.mem_append_left _ (List.mem_append_left _ (List.mem_append_left _ (List.mem_append_left _ (List.mem_append_left _ (List.mem_of_getElem? (i := 3) rfl)))))))))))

theorem hu_X11_deliverAll_X2 : ∀ w ∈ u_ws RX2 TX2 13, w ∈ wsX11_deliverAll := fun _ h => List.mem_cons_of_mem _ (List.mem_append_left _ (List.mem_append_left _ (List.mem_append_left _ (List.mem_append_left _ (List.mem_append_left _ (List.mem_append_left _ (List.mem_append_right _ (h))))))))

theorem hv_X11_deliverAll_110 : Cond.fieldLink RX11 110 "FlowExporter$Exporter" (TX2 4).2.1 (TX2 4).2.2.1 ∈ wsX11_deliverAll := List.mem_cons_of_mem _ (List.mem_append_left _ (List.mem_append_left _ (List.mem_append_left _ (List.mem_append_left _ (List.mem_append_left _ (List.mem_append_left _ (List.mem_append_left _ (List.mem_append_left _ (List.mem_append_left _ (List.mem_append_left _ (List.mem_of_getElem? (i := 4) rfl)))))))))))

theorem fq_536 : ∀ j9 : Nat, (j9 = 46 ∨ j9 = 47) → ((46 ≤ j9 ∧ j9 < 74) ∨ (121 ≤ j9 ∧ j9 < 149)) := by
  intro j9 h
  omega

theorem fq_537 : ∀ j9 : Nat, ((121 ≤ j9 ∧ j9 < 149)) → ((46 ≤ j9 ∧ j9 < 74) ∨ (121 ≤ j9 ∧ j9 < 149)) := by
  intro j9 h
  omega

set_option maxHeartbeats 4000000 in
set_option maxRecDepth 100000 in
theorem s_X11_deliverAll (G : EnvG) (l : Launch) (Φ : Hm) (sz x ca : Nat)  (hx : G.2.2.2 ≤ x) (hI : In G x ca Φ) (hca : ca < 900000) : Ct G l yX11_deliverAll wsX11_deliverAll ({ frames := 6, cells := 0, slots := 0, locals := 156 }) 0 0 [.ref x] Φ sz (fun v Φ1 sz1 => (∃ r9 : Int32, v = some (.int r9)) ∧ sz1 = sz ∧ In G x (ca + 12) Φ1 ∧ Fr x (fun j9 => (46 ≤ j9 ∧ j9 < 74) ∨ (121 ≤ j9 ∧ j9 < 149)) Φ Φ1) := by
  refine Ct.of (cc := cX11_deliverAll) (maxL := 3) (ret := (some .int)) (by decide) rfl (Nat.le_of_ble_eq_true rfl) ?_
  intro p9 e9 s9 m9 w9 t9 k9 B
  show Z p9 l e9 _ s9 m9 _ w9 t9 k9 _ G 3 0 [(0, .ref x)] [] Φ sz 0 0
  refine z_iconst (v := 0) B dX11_deliverAll_0 rfl ?_
  refine z_istore_n (lv' := [(1, .int 0), (0, .ref x)]) B dX11_deliverAll_1 rfl (Nat.le_of_ble_eq_true rfl) rfl ?_
  refine z_aload_n B dX11_deliverAll_2 rfl 1 rfl ?_
  have h_1 := in0 (k := 0) hI rfl
  have h_2 : Φ x = some (o_ 13 [.ref (x + 1), .ref (x + 3), .ref (x + 24), .ref (x + 46), .ref (x + 74), .ref (x + 80), .ref (x + 132), .ref (x + 121)]) := h_1
  refine z_get (ref := "FlowExporter") (C := RX11) (T := TX11) (N := 8) (ci := 13) (v := .ref (x + 46)) B hu_X11_deliverAll_X11 rfl 3 (Nat.le_of_ble_eq_true rfl) hv_X11_deliverAll_37 rfl h_2 rfl dX11_deliverAll_3 ?_
  obtain ⟨n_1, v_1, h_3, b_1⟩ := in11 (k := 46) hI rfl
  have h_4 : Φ (x + 46) = some (o_ 9 [.ref (x + 47), .int (nI n_1), .int v_1]) := h_3
  refine z_get (ref := "FlowExporter$Queue") (C := RX7) (T := TX7) (N := 3) (ci := 9) (v := .int (nI n_1)) B hu_X11_deliverAll_X7 rfl 1 (Nat.le_of_ble_eq_true rfl) hv_X11_deliverAll_231 rfl h_4 rfl dX11_deliverAll_6 ?_
  refine z_istore_n (lv' := [(2, .int (nI n_1)), (1, .int 0), (0, .ref x)]) B dX11_deliverAll_9 rfl (Nat.le_of_ble_eq_true rfl) rfl ?_
  refine z_lv [0, 1, 2] rfl ?_
  refine z_loop (α := Nat × Int32) (fun (a9 : Nat × Int32) Φi => In G x (ca + (12 - a9.1)) Φi ∧ Fr x (fun j9 => (46 ≤ j9 ∧ j9 < 74) ∨ (121 ≤ j9 ∧ j9 < 149)) Φ Φi ∧ (a9.1 ≤ 12) ∧ True) (fun a9 => [(2, .int (nI (a9.1))), (1, .int a9.2), (0, .ref x)]) (fun a9 => a9.1) ?_ (n_1, 0) ⟨(In.mono hI (by omega)), fun _ _ => rfl, (show n_1 ≤ 12 by omega), trivial⟩
  rintro ⟨i_1, i_2⟩ Φl1 ⟨hI1, hF1, b_2, -⟩ ih1
  replace hI1 : In G x (ca + (12 - i_1)) Φl1 := hI1
  replace b_2 : i_1 ≤ 12 := b_2
  show Z p9 l e9 _ s9 m9 _ w9 t9 k9 _ G 3 10 [(2, .int (nI i_1)), (1, .int i_2), (0, .ref x)] [] Φl1 _ _ _
  refine z_iload_n B dX11_deliverAll_10 rfl 0 rfl ?_
  refine z_if_le (tgt := 45) B dX11_deliverAll_11 rfl (fun c_1 => ?_) (fun c_1 => ?_)
  · have e_1 : i_1 ≤ 0 := (nI_leI (a := i_1) (b := 0) (by omega) (by omega)).mp c_1
    refine z_iload_n B dX11_deliverAll_45 rfl 1 rfl ?_
    exact z_ret_i B dX11_deliverAll_46 ⟨⟨_, rfl⟩, rfl, (In.mono hI1 (by omega)), (fun b9 h9 => ((hF1 b9 h9).trans rfl))⟩
  · have e_2 : ¬ (i_1 ≤ 0) := fun h9 => c_1 ((nI_leI (a := i_1) (b := 0) (by omega) (by omega)).mpr h9)
    refine z_iload_n B dX11_deliverAll_14 rfl 1 rfl ?_
    refine z_aload_n B dX11_deliverAll_15 rfl 2 rfl ?_
    have h_5 : Φl1 x = some (o_ 13 [.ref (x + 1), .ref (x + 3), .ref (x + 24), .ref (x + 46), .ref (x + 74), .ref (x + 80), .ref (x + 132), .ref (x + 121)]) := ((hF1 x fq_530).trans h_2)
    refine z_get (ref := "FlowExporter") (C := RX11) (T := TX11) (N := 8) (ci := 13) (v := .ref (x + 132)) B hu_X11_deliverAll_X11 rfl 6 (Nat.le_of_ble_eq_true rfl) hv_X11_deliverAll_71 rfl h_5 rfl dX11_deliverAll_16 ?_
    refine z_aload_n B dX11_deliverAll_19 rfl 2 rfl ?_
    refine z_get (ref := "FlowExporter") (C := RX11) (T := TX11) (N := 8) (ci := 13) (v := .ref (x + 46)) B hu_X11_deliverAll_X11 rfl 3 (Nat.le_of_ble_eq_true rfl) hv_X11_deliverAll_37 rfl h_5 rfl dX11_deliverAll_20 ?_
    refine z_iconst (v := 0) B dX11_deliverAll_23 rfl ?_
    obtain ⟨n_2, v_2, h_6, b_3⟩ := in11 (k := 46) hI1 rfl
    have h_7 : Φl1 (x + 46) = some (o_ 9 [.ref (x + 47), .int (nI n_2), .int v_2]) := h_6
    refine z_callV (As := [.int 0]) (rest := [.ref (x + 132), .int i_2]) B (s_X7_takeOut G l Φl1 sz x (ca + (12 - i_1)) 0 hx hI1 ) (cwV 1 B.1.2.2.2.2 gX11_deliverAll_X7_takeOut rfl rfl rfl (by decide +kernel) ⟨Nat.le_of_ble_eq_true rfl, Nat.le_of_ble_eq_true rfl⟩) h_7 rfl rfl rfl rfl (Nat.le_of_ble_eq_true rfl) dX11_deliverAll_24 ⟨Nat.le_of_ble_eq_true rfl, Nat.le_of_ble_eq_true rfl⟩ (fun r_1 Φ1 sz1 st1 hp1 hs1 => ?_)
    obtain ⟨⟨m_1, hm_1, rfl⟩, hq1, hI2, hF2⟩ := hp1
    subst sz1
    replace hs1 : st1 = [.ref (x + (48 + 2 * m_1)), .ref (x + 132), .int i_2] := hs1
    subst st1
    replace hI2 : In G x (ca + (12 - i_1)) Φ1 := hI2
    replace hm_1 : m_1 < 13 := hm_1
    refine z_aload_n B dX11_deliverAll_27 rfl 2 rfl ?_
    have h_8 : Φ1 x = some (o_ 13 [.ref (x + 1), .ref (x + 3), .ref (x + 24), .ref (x + 46), .ref (x + 74), .ref (x + 80), .ref (x + 132), .ref (x + 121)]) := ((hF2 x fq_532).trans h_5)
    refine z_get (ref := "FlowExporter") (C := RX11) (T := TX11) (N := 8) (ci := 13) (v := .ref (x + 80)) B hu_X11_deliverAll_X11 rfl 5 (Nat.le_of_ble_eq_true rfl) hv_X11_deliverAll_55 rfl h_8 rfl dX11_deliverAll_28 ?_
    obtain ⟨v_3, v_4, v_5, v_6, v_7, v_8, v_9, v_10, v_11, h_9, b_4⟩ := in16 (k := 80) hI2 rfl
    have h_10 : Φ1 (x + 80) = some (o_ 4 [.ref (x + 3), .ref (x + 74), .ref (x + 81), .ref (x + 95), .int v_3, .int v_4, .int v_5, .int v_6, .int v_7, .int v_8, .long v_9, .long v_10, .long v_11]) := h_9
    refine z_get (ref := "FlowExporter$Exporter") (C := RX2) (T := TX2) (N := 13) (ci := 4) (v := .int v_3) B hu_X11_deliverAll_X2 rfl 4 (Nat.le_of_ble_eq_true rfl) hv_X11_deliverAll_110 rfl h_10 rfl dX11_deliverAll_31 ?_
    obtain ⟨n_3, v_12, v_13, h_11, b_5⟩ := in25 (k := 132) hI2 rfl
    have h_12 : Φ1 (x + 132) = some (o_ 2 [.ref (x + 3), .ref (x + 121), .ref (x + 133), .ref (x + 134), .ref (x + 135), .ref (x + 137), .ref (x + 138), .ref (x + 139), .ref (x + 140), .int (nI n_3), .int v_12, .int v_13]) := h_11
    refine z_callV (As := [.ref (x + (48 + 2 * m_1)), .int v_3]) (rest := [.int i_2]) B (s_X0_take G l Φ1 sz x (ca + (12 - i_1)) (48 + 2 * m_1) v_3 hx hI2 (kd_q hm_1) (show (ca + (12 - i_1)) < 1000000 by omega)) (cwV 2 B.1.2.2.2.2 gX11_deliverAll_X0_take rfl rfl rfl (by decide +kernel) ⟨Nat.le_of_ble_eq_true rfl, Nat.le_of_ble_eq_true rfl⟩) h_12 rfl rfl rfl rfl (Nat.le_of_ble_eq_true rfl) dX11_deliverAll_34 ⟨Nat.le_of_ble_eq_true rfl, Nat.le_of_ble_eq_true rfl⟩ (fun r_2 Φ2 sz2 st2 hp2 hs2 => ?_)
    obtain ⟨⟨v_14, rfl⟩, hq2, hI3, hF3⟩ := hp2
    subst sz2
    replace hs2 : st2 = [.int v_14, .int i_2] := hs2
    subst st2
    replace hI3 : In G x (ca + (12 - i_1) + 1) Φ2 := hI3
    refine z_iadd B dX11_deliverAll_37 ?_
    refine z_fi (fun v_15 => ?_)
    refine z_istore_n (lv' := [(1, .int v_15), (2, .int (nI i_1)), (0, .ref x)]) B dX11_deliverAll_38 rfl (Nat.le_of_ble_eq_true rfl) rfl ?_
    refine z_iinc (k := 1) (v := nI (i_1 - 1)) (lv' := [(2, .int (nI (i_1 - 1))), (1, .int v_15), (0, .ref x)]) B dX11_deliverAll_39 rfl (nI_m1 (show 1 ≤ i_1 by omega)) (Nat.le_of_ble_eq_true rfl) rfl ?_
    refine z_goto (tgt := 10) B dX11_deliverAll_42 rfl ?_
    refine z_lv [0, 1, 2] rfl ?_
    exact ih1 (i_1 - 1, v_15) Φ2 (show (i_1 - 1) < i_1 by omega) ⟨(In.mono hI3 (by omega)), (fun b9 h9 => ((hF3 b9 (fun j9 h8 h7 => h9 j9 h8 (fq_537 j9 h7))).trans ((hF2 b9 (fun j9 h8 h7 => h9 j9 h8 (fq_536 j9 h7))).trans ((hF1 b9 h9).trans rfl)))), (show (i_1 - 1) ≤ 12 by omega), trivial⟩

/-- a byte of the input, -1 behind its end -/
noncomputable def bA (f : Nat → Int32) (il i : Nat) : Int32 := if i < il then f i &&& 255 else -1
theorem bA_lt {f : Nat → Int32} {il i : Nat} (h : ¬ bA f il i = -1) : i < il := by
  refine Nat.lt_of_not_le (fun hc => h ?_)
  unfold bA
  exact if_neg (by omega)
theorem bA_eq {f : Nat → Int32} {il i : Nat} {c : Int32} (hc : ¬ c = -1) (h : bA f il i = c) : i < il := bA_lt (fun e => hc (h.symm.trans e))

set_option maxRecDepth 20000 in
theorem ggX6_readSetting_X6_fail : GoodIn wsX6_readSetting wsX6_fail := (goodIn_ca (goodIn_r _ [7, 8, 9, 10] rfl (by decide +kernel)) (goodIn_sub (fun _ h => List.mem_cons_of_mem _ (List.mem_append_left _ (List.mem_append_left _ (List.mem_append_left _ (List.mem_append_right _ h))))) gw_wsX60))
set_option maxRecDepth 20000 in
theorem gX6_readSetting_X6_fail : GoodIn wsX6_readSetting (wsV RX6 63 RX6 yX6_fail wsX6_fail) := goodIn_app (goodIn_m (mem_cA (List.mem_cons_of_mem _ (List.mem_append_left _ (List.mem_append_left _ (List.mem_append_left _ (List.mem_append_left _ (List.mem_append_left _ (List.mem_of_getElem? (i := 2) rfl))))))) (mem_cA (List.mem_cons_of_mem _ (List.mem_append_left _ (List.mem_append_left _ (List.mem_append_left _ (List.mem_append_left _ (List.mem_append_left _ (List.mem_of_getElem? (i := 3) rfl))))))) (mem_cA (List.mem_cons_of_mem _ (List.mem_append_left _ (List.mem_append_left _ (List.mem_append_left _ (List.mem_append_left _ (List.mem_append_left _ (List.mem_of_getElem? (i := 4) rfl))))))) (mem_cA (List.mem_cons_of_mem _ (List.mem_append_left _ (List.mem_append_left _ (List.mem_append_left _ (List.mem_append_left _ (List.mem_append_left _ (List.mem_of_getElem? (i := 5) rfl))))))) mem_cZ)))) (by decide +kernel)) ggX6_readSetting_X6_fail
set_option maxRecDepth 20000 in
theorem ggX6_readSetting_X6_readNumber : GoodIn wsX6_readSetting wsX6_readNumber := goodIn_ca ((goodIn_ca (goodIn_ca (goodIn_r _ [14, 15, 2, 9, 16, 17, 18, 19, 20, 6, 21, 22, 23, 24, 25, 26, 27, 28, 29, 30, 31, 32, 3, 4, 5, 7, 8, 10] rfl (by decide +kernel)) (goodIn_sub (fun _ h => List.mem_cons_of_mem _ (List.mem_append_left _ (List.mem_append_left _ (List.mem_append_left _ (List.mem_append_right _ h))))) gw_wsX60)) (goodIn_sub (fun _ h => List.mem_cons_of_mem _ (List.mem_append_left _ (List.mem_append_left _ (List.mem_append_right _ h)))) gw_wsX50))) (goodIn_sub (fun _ h => List.mem_cons_of_mem _ (List.mem_append_right _ h)) (all_fg _))
set_option maxRecDepth 20000 in
theorem gX6_readSetting_X6_readNumber : GoodIn wsX6_readSetting (wsV RX6 89 RX6 yX6_readNumber wsX6_readNumber) := goodIn_app (goodIn_m (mem_cA (List.mem_cons_of_mem _ (List.mem_append_left _ (List.mem_append_left _ (List.mem_append_left _ (List.mem_append_left _ (List.mem_append_left _ (List.mem_of_getElem? (i := 10) rfl))))))) (mem_cA (List.mem_cons_of_mem _ (List.mem_append_left _ (List.mem_append_left _ (List.mem_append_left _ (List.mem_append_left _ (List.mem_append_left _ (List.mem_of_getElem? (i := 11) rfl))))))) (mem_cA (List.mem_cons_of_mem _ (List.mem_append_left _ (List.mem_append_left _ (List.mem_append_left _ (List.mem_append_left _ (List.mem_append_left _ (List.mem_of_getElem? (i := 12) rfl))))))) (mem_cA (List.mem_cons_of_mem _ (List.mem_append_left _ (List.mem_append_left _ (List.mem_append_left _ (List.mem_append_left _ (List.mem_append_left _ (List.mem_of_getElem? (i := 5) rfl))))))) mem_cZ)))) (by decide +kernel)) ggX6_readSetting_X6_readNumber
set_option maxRecDepth 20000 in
theorem ggX6_readSetting_X1_set : GoodIn wsX6_readSetting wsX1_set := goodIn_ca ((goodIn_ca (goodIn_r _ [37, 38] rfl (by decide +kernel)) (goodIn_sub (fun _ h => List.mem_cons_of_mem _ (List.mem_append_left _ (List.mem_append_right _ h))) gw_wsX10))) (goodIn_sub (fun _ h => List.mem_cons_of_mem _ (List.mem_append_right _ h)) (all_fg _))
set_option maxRecDepth 20000 in
theorem gX6_readSetting_X1_set : GoodIn wsX6_readSetting (wsV RX6 93 RX1 yX1_set wsX1_set) := goodIn_app (goodIn_m (mem_cA (List.mem_cons_of_mem _ (List.mem_append_left _ (List.mem_append_left _ (List.mem_append_left _ (List.mem_append_left _ (List.mem_append_right _ (List.mem_of_getElem? (i := 8) rfl))))))) (mem_cA (List.mem_cons_of_mem _ (List.mem_append_left _ (List.mem_append_left _ (List.mem_append_left _ (List.mem_append_left _ (List.mem_append_right _ (List.mem_of_getElem? (i := 9) rfl))))))) (mem_cA (List.mem_cons_of_mem _ (List.mem_append_left _ (List.mem_append_left _ (List.mem_append_left _ (List.mem_append_left _ (List.mem_append_right _ (List.mem_of_getElem? (i := 10) rfl))))))) (mem_cA (List.mem_cons_of_mem _ (List.mem_append_left _ (List.mem_append_left _ (List.mem_append_left _ (List.mem_append_left _ (List.mem_append_right _ (List.mem_of_getElem? (i := 11) rfl))))))) mem_cZ)))) (by decide +kernel)) ggX6_readSetting_X1_set
theorem dX6_readSetting_0 : decode cX6_readSetting 0 = .ok (.iload_n 1, 1) := by decide +kernel
theorem dX6_readSetting_1 : decode cX6_readSetting 1 = .ok (.ifCond .lt 19, 3) := by decide +kernel
theorem dX6_readSetting_4 : decode cX6_readSetting 4 = .ok (.iload_n 1, 1) := by decide +kernel
theorem dX6_readSetting_5 : decode cX6_readSetting 5 = .ok (.getstatic 82, 3) := by decide +kernel
theorem dX6_readSetting_8 : decode cX6_readSetting 8 = .ok (.arraylength, 1) := by decide +kernel
theorem dX6_readSetting_9 : decode cX6_readSetting 9 = .ok (.if_icmp .ge 11, 3) := by decide +kernel
theorem dX6_readSetting_12 : decode cX6_readSetting 12 = .ok (.iload_n 1, 1) := by decide +kernel
theorem dX6_readSetting_13 : decode cX6_readSetting 13 = .ok (.getstatic 86, 3) := by decide +kernel
theorem dX6_readSetting_16 : decode cX6_readSetting 16 = .ok (.arraylength, 1) := by decide +kernel
theorem dX6_readSetting_17 : decode cX6_readSetting 17 = .ok (.if_icmp .lt 9, 3) := by decide +kernel
theorem dX6_readSetting_20 : decode cX6_readSetting 20 = .ok (.aload_n 0, 1) := by decide +kernel
theorem dX6_readSetting_21 : decode cX6_readSetting 21 = .ok (.iconst 1, 1) := by decide +kernel
theorem dX6_readSetting_22 : decode cX6_readSetting 22 = .ok (.invokevirtual 63, 3) := by decide +kernel
theorem dX6_readSetting_25 : decode cX6_readSetting 25 = .ok (.ireturn, 1) := by decide +kernel
theorem dX6_readSetting_26 : decode cX6_readSetting 26 = .ok (.aload_n 0, 1) := by decide +kernel
theorem dX6_readSetting_27 : decode cX6_readSetting 27 = .ok (.getstatic 82, 3) := by decide +kernel
theorem dX6_readSetting_30 : decode cX6_readSetting 30 = .ok (.iload_n 1, 1) := by decide +kernel
theorem dX6_readSetting_31 : decode cX6_readSetting 31 = .ok (.iaload, 1) := by decide +kernel
theorem dX6_readSetting_32 : decode cX6_readSetting 32 = .ok (.getstatic 86, 3) := by decide +kernel
theorem dX6_readSetting_35 : decode cX6_readSetting 35 = .ok (.iload_n 1, 1) := by decide +kernel
theorem dX6_readSetting_36 : decode cX6_readSetting 36 = .ok (.iaload, 1) := by decide +kernel
theorem dX6_readSetting_37 : decode cX6_readSetting 37 = .ok (.invokevirtual 89, 3) := by decide +kernel
theorem dX6_readSetting_40 : decode cX6_readSetting 40 = .ok (.ifCond .ne 5, 3) := by decide +kernel
theorem dX6_readSetting_43 : decode cX6_readSetting 43 = .ok (.iconst 0, 1) := by decide +kernel
theorem dX6_readSetting_44 : decode cX6_readSetting 44 = .ok (.ireturn, 1) := by decide +kernel
theorem dX6_readSetting_45 : decode cX6_readSetting 45 = .ok (.aload_n 0, 1) := by decide +kernel
theorem dX6_readSetting_46 : decode cX6_readSetting 46 = .ok (.getfield 12, 3) := by decide +kernel
theorem dX6_readSetting_49 : decode cX6_readSetting 49 = .ok (.iload_n 1, 1) := by decide +kernel
theorem dX6_readSetting_50 : decode cX6_readSetting 50 = .ok (.aload_n 0, 1) := by decide +kernel
theorem dX6_readSetting_51 : decode cX6_readSetting 51 = .ok (.getfield 34, 3) := by decide +kernel
theorem dX6_readSetting_54 : decode cX6_readSetting 54 = .ok (.invokevirtual 93, 3) := by decide +kernel
theorem dX6_readSetting_57 : decode cX6_readSetting 57 = .ok (.iconst 1, 1) := by decide +kernel
theorem dX6_readSetting_58 : decode cX6_readSetting 58 = .ok (.ireturn, 1) := by decide +kernel
set_option maxRecDepth 20000 in
theorem ggX6_readTemplate_X6_fail : GoodIn wsX6_readTemplate wsX6_fail := (goodIn_ca (goodIn_r _ [8, 9, 10, 11] rfl (by decide +kernel)) (goodIn_sub (fun _ h => List.mem_cons_of_mem _ (List.mem_append_left _ (List.mem_append_left _ (List.mem_append_left _ (List.mem_append_left _ (List.mem_append_left _ (List.mem_append_right _ h))))))) gw_wsX60))
set_option maxRecDepth 20000 in
theorem gX6_readTemplate_X6_fail : GoodIn wsX6_readTemplate (wsV RX6 63 RX6 yX6_fail wsX6_fail) := goodIn_app (goodIn_m (mem_cA (List.mem_cons_of_mem _ (List.mem_append_left _ (List.mem_append_left _ (List.mem_append_left _ (List.mem_append_left _ (List.mem_append_left _ (List.mem_append_left _ (List.mem_append_left _ (List.mem_of_getElem? (i := 3) rfl))))))))) (mem_cA (List.mem_cons_of_mem _ (List.mem_append_left _ (List.mem_append_left _ (List.mem_append_left _ (List.mem_append_left _ (List.mem_append_left _ (List.mem_append_left _ (List.mem_append_left _ (List.mem_of_getElem? (i := 4) rfl))))))))) (mem_cA (List.mem_cons_of_mem _ (List.mem_append_left _ (List.mem_append_left _ (List.mem_append_left _ (List.mem_append_left _ (List.mem_append_left _ (List.mem_append_left _ (List.mem_append_left _ (List.mem_of_getElem? (i := 5) rfl))))))))) (mem_cA (List.mem_cons_of_mem _ (List.mem_append_left _ (List.mem_append_left _ (List.mem_append_left _ (List.mem_append_left _ (List.mem_append_left _ (List.mem_append_left _ (List.mem_append_left _ (List.mem_of_getElem? (i := 6) rfl))))))))) mem_cZ)))) (by decide +kernel)) ggX6_readTemplate_X6_fail
set_option maxRecDepth 20000 in
theorem ggX6_readTemplate_X1_template : GoodIn wsX6_readTemplate wsX1_template := (goodIn_ca (goodIn_r _ [16, 17] rfl (by decide +kernel)) (goodIn_sub (fun _ h => List.mem_cons_of_mem _ (List.mem_append_left _ (List.mem_append_left _ (List.mem_append_left _ (List.mem_append_left _ (List.mem_append_right _ h)))))) gw_wsX10))
set_option maxRecDepth 20000 in
theorem gX6_readTemplate_X1_template : GoodIn wsX6_readTemplate (wsV RX6 97 RX1 yX1_template wsX1_template) := goodIn_app (goodIn_m (mem_cA (List.mem_cons_of_mem _ (List.mem_append_left _ (List.mem_append_left _ (List.mem_append_left _ (List.mem_append_left _ (List.mem_append_left _ (List.mem_append_left _ (List.mem_append_left _ (List.mem_of_getElem? (i := 11) rfl))))))))) (mem_cA (List.mem_cons_of_mem _ (List.mem_append_left _ (List.mem_append_left _ (List.mem_append_left _ (List.mem_append_left _ (List.mem_append_left _ (List.mem_append_left _ (List.mem_append_left _ (List.mem_of_getElem? (i := 12) rfl))))))))) (mem_cA (List.mem_cons_of_mem _ (List.mem_append_left _ (List.mem_append_left _ (List.mem_append_left _ (List.mem_append_left _ (List.mem_append_left _ (List.mem_append_left _ (List.mem_append_left _ (List.mem_of_getElem? (i := 13) rfl))))))))) (mem_cA (List.mem_cons_of_mem _ (List.mem_append_left _ (List.mem_append_left _ (List.mem_append_left _ (List.mem_append_left _ (List.mem_append_left _ (List.mem_append_left _ (List.mem_append_left _ (List.mem_of_getElem? (i := 14) rfl))))))))) mem_cZ)))) (by decide +kernel)) ggX6_readTemplate_X1_template
set_option maxRecDepth 20000 in
theorem ggX6_readTemplate_X6_nextToken : GoodIn wsX6_readTemplate wsX6_nextToken := goodIn_ca ((goodIn_ca (goodIn_ca (goodIn_r _ [21, 22, 23, 24, 10, 3, 25, 26, 27, 28, 29, 30, 31, 32, 33, 7, 34] rfl (by decide +kernel)) (goodIn_sub (fun _ h => List.mem_cons_of_mem _ (List.mem_append_left _ (List.mem_append_left _ (List.mem_append_left _ (List.mem_append_left _ (List.mem_append_left _ (List.mem_append_right _ h))))))) gw_wsX60)) (goodIn_sub (fun _ h => List.mem_cons_of_mem _ (List.mem_append_left _ (List.mem_append_left _ (List.mem_append_left _ (List.mem_append_right _ h))))) gw_wsX50))) (goodIn_sub (fun _ h => List.mem_cons_of_mem _ (List.mem_append_right _ h)) (all_fg _))
set_option maxRecDepth 20000 in
theorem gX6_readTemplate_X6_nextToken : GoodIn wsX6_readTemplate (wsV RX6 44 RX6 yX6_nextToken wsX6_nextToken) := goodIn_app (goodIn_m (mem_cA (List.mem_cons_of_mem _ (List.mem_append_left _ (List.mem_append_left _ (List.mem_append_left _ (List.mem_append_left _ (List.mem_append_left _ (List.mem_append_left _ (List.mem_append_left _ (List.mem_of_getElem? (i := 17) rfl))))))))) (mem_cA (List.mem_cons_of_mem _ (List.mem_append_left _ (List.mem_append_left _ (List.mem_append_left _ (List.mem_append_left _ (List.mem_append_left _ (List.mem_append_left _ (List.mem_append_left _ (List.mem_of_getElem? (i := 18) rfl))))))))) (mem_cA (List.mem_cons_of_mem _ (List.mem_append_left _ (List.mem_append_left _ (List.mem_append_left _ (List.mem_append_left _ (List.mem_append_left _ (List.mem_append_left _ (List.mem_append_left _ (List.mem_of_getElem? (i := 19) rfl))))))))) (mem_cA (List.mem_cons_of_mem _ (List.mem_append_left _ (List.mem_append_left _ (List.mem_append_left _ (List.mem_append_left _ (List.mem_append_left _ (List.mem_append_left _ (List.mem_append_left _ (List.mem_of_getElem? (i := 6) rfl))))))))) mem_cZ)))) (by decide +kernel)) ggX6_readTemplate_X6_nextToken
set_option maxRecDepth 20000 in
theorem ggX6_readTemplate_X6_wordIn : GoodIn wsX6_readTemplate wsX6_wordIn := goodIn_ca ((goodIn_ca (goodIn_ca (goodIn_ca (goodIn_r _ [38, 3, 39, 40, 41, 42, 43, 44, 45, 46, 47, 48, 49, 50, 51, 52, 53, 54, 55, 56, 57, 58, 59, 60, 61, 62, 63, 64, 65, 66, 67, 68, 69, 70, 71, 72, 73, 74, 75, 76, 77, 78, 79, 80, 81, 82, 83, 84, 85, 86, 87, 88, 89, 90, 7, 91, 22, 10, 23, 25, 26, 27, 28, 29, 30, 31] rfl (by decide +kernel)) (goodIn_sub (fun _ h => List.mem_cons_of_mem _ (List.mem_append_left _ (List.mem_append_left _ (List.mem_append_left _ (List.mem_append_left _ (List.mem_append_left _ (List.mem_append_right _ h))))))) gw_wsX60)) (goodIn_sub (fun _ h => List.mem_cons_of_mem _ (List.mem_append_left _ (List.mem_append_left _ (List.mem_append_right _ h)))) gw_wsJ00)) (goodIn_sub (fun _ h => List.mem_cons_of_mem _ (List.mem_append_left _ (List.mem_append_left _ (List.mem_append_left _ (List.mem_append_right _ h))))) gw_wsX50))) (goodIn_sub (fun _ h => List.mem_cons_of_mem _ (List.mem_append_right _ h)) (all_fg _))
set_option maxRecDepth 20000 in
theorem gX6_readTemplate_X6_wordIn : GoodIn wsX6_readTemplate (wsV RX6 59 RX6 yX6_wordIn wsX6_wordIn) := goodIn_app (goodIn_m (mem_cA (List.mem_cons_of_mem _ (List.mem_append_left _ (List.mem_append_left _ (List.mem_append_left _ (List.mem_append_left _ (List.mem_append_left _ (List.mem_append_left _ (List.mem_append_right _ (List.mem_append_left _ (List.mem_of_getElem? (i := 10) rfl)))))))))) (mem_cA (List.mem_cons_of_mem _ (List.mem_append_left _ (List.mem_append_left _ (List.mem_append_left _ (List.mem_append_left _ (List.mem_append_left _ (List.mem_append_left _ (List.mem_append_right _ (List.mem_append_left _ (List.mem_of_getElem? (i := 11) rfl)))))))))) (mem_cA (List.mem_cons_of_mem _ (List.mem_append_left _ (List.mem_append_left _ (List.mem_append_left _ (List.mem_append_left _ (List.mem_append_left _ (List.mem_append_left _ (List.mem_append_right _ (List.mem_append_left _ (List.mem_of_getElem? (i := 12) rfl)))))))))) (mem_cA (List.mem_cons_of_mem _ (List.mem_append_left _ (List.mem_append_left _ (List.mem_append_left _ (List.mem_append_left _ (List.mem_append_left _ (List.mem_append_left _ (List.mem_append_left _ (List.mem_of_getElem? (i := 6) rfl))))))))) mem_cZ)))) (by decide +kernel)) ggX6_readTemplate_X6_wordIn
set_option maxRecDepth 20000 in
theorem ggX6_readTemplate_X10_has : GoodIn wsX6_readTemplate wsX10_has := (goodIn_ca (goodIn_r _ [96, 97] rfl (by decide +kernel)) (goodIn_sub (fun _ h => List.mem_cons_of_mem _ (List.mem_append_left _ (List.mem_append_right _ h))) gw_wsX100))
set_option maxRecDepth 20000 in
theorem gX6_readTemplate_X10_has : GoodIn wsX6_readTemplate (wsV RX6 103 RX10 yX10_has wsX10_has) := goodIn_app (goodIn_m (mem_cA (List.mem_cons_of_mem _ (List.mem_append_left _ (List.mem_append_left _ (List.mem_append_left _ (List.mem_append_left _ (List.mem_append_left _ (List.mem_append_left _ (List.mem_append_right _ (List.mem_append_right _ (List.mem_append_right _ (List.mem_append_left _ (List.mem_of_getElem? (i := 19) rfl)))))))))))) (mem_cA (List.mem_cons_of_mem _ (List.mem_append_left _ (List.mem_append_left _ (List.mem_append_left _ (List.mem_append_left _ (List.mem_append_left _ (List.mem_append_left _ (List.mem_append_right _ (List.mem_append_right _ (List.mem_append_right _ (List.mem_append_left _ (List.mem_of_getElem? (i := 20) rfl)))))))))))) (mem_cA (List.mem_cons_of_mem _ (List.mem_append_left _ (List.mem_append_left _ (List.mem_append_left _ (List.mem_append_left _ (List.mem_append_left _ (List.mem_append_left _ (List.mem_append_right _ (List.mem_append_right _ (List.mem_append_right _ (List.mem_append_left _ (List.mem_of_getElem? (i := 21) rfl)))))))))))) (mem_cA (List.mem_cons_of_mem _ (List.mem_append_left _ (List.mem_append_left _ (List.mem_append_left _ (List.mem_append_left _ (List.mem_append_left _ (List.mem_append_left _ (List.mem_append_right _ (List.mem_append_right _ (List.mem_append_right _ (List.mem_append_left _ (List.mem_of_getElem? (i := 22) rfl)))))))))))) mem_cZ)))) (by decide +kernel)) ggX6_readTemplate_X10_has
set_option maxRecDepth 20000 in
theorem ggX6_readTemplate_X10_addField : GoodIn wsX6_readTemplate wsX10_addField := goodIn_ca ((goodIn_ca (goodIn_r _ [101, 102, 97, 103, 104] rfl (by decide +kernel)) (goodIn_sub (fun _ h => List.mem_cons_of_mem _ (List.mem_append_left _ (List.mem_append_right _ h))) gw_wsX100))) (goodIn_sub (fun _ h => List.mem_cons_of_mem _ (List.mem_append_right _ h)) (all_fg _))
set_option maxRecDepth 20000 in
theorem gX6_readTemplate_X10_addField : GoodIn wsX6_readTemplate (wsV RX6 108 RX10 yX10_addField wsX10_addField) := goodIn_app (goodIn_m (mem_cA (List.mem_cons_of_mem _ (List.mem_append_left _ (List.mem_append_left _ (List.mem_append_left _ (List.mem_append_left _ (List.mem_append_left _ (List.mem_append_left _ (List.mem_append_right _ (List.mem_append_right _ (List.mem_append_right _ (List.mem_append_right _ (List.mem_of_getElem? (i := 1) rfl)))))))))))) (mem_cA (List.mem_cons_of_mem _ (List.mem_append_left _ (List.mem_append_left _ (List.mem_append_left _ (List.mem_append_left _ (List.mem_append_left _ (List.mem_append_left _ (List.mem_append_right _ (List.mem_append_right _ (List.mem_append_right _ (List.mem_append_right _ (List.mem_of_getElem? (i := 2) rfl)))))))))))) (mem_cA (List.mem_cons_of_mem _ (List.mem_append_left _ (List.mem_append_left _ (List.mem_append_left _ (List.mem_append_left _ (List.mem_append_left _ (List.mem_append_left _ (List.mem_append_right _ (List.mem_append_right _ (List.mem_append_right _ (List.mem_append_right _ (List.mem_of_getElem? (i := 3) rfl)))))))))))) (mem_cA (List.mem_cons_of_mem _ (List.mem_append_left _ (List.mem_append_left _ (List.mem_append_left _ (List.mem_append_left _ (List.mem_append_left _ (List.mem_append_left _ (List.mem_append_right _ (List.mem_append_right _ (List.mem_append_right _ (List.mem_append_left _ (List.mem_of_getElem? (i := 22) rfl)))))))))))) mem_cZ)))) (by decide +kernel)) ggX6_readTemplate_X10_addField
theorem dX6_readTemplate_0 : decode cX6_readTemplate 0 = .ok (.aload_n 0, 1) := by decide +kernel
theorem dX6_readTemplate_1 : decode cX6_readTemplate 1 = .ok (.getfield 12, 3) := by decide +kernel
theorem dX6_readTemplate_4 : decode cX6_readTemplate 4 = .ok (.getfield 47, 3) := by decide +kernel
theorem dX6_readTemplate_7 : decode cX6_readTemplate 7 = .ok (.iconst 4, 1) := by decide +kernel
theorem dX6_readTemplate_8 : decode cX6_readTemplate 8 = .ok (.if_icmp .lt 9, 3) := by decide +kernel
theorem dX6_readTemplate_11 : decode cX6_readTemplate 11 = .ok (.aload_n 0, 1) := by decide +kernel
theorem dX6_readTemplate_12 : decode cX6_readTemplate 12 = .ok (.iconst 4, 1) := by decide +kernel
theorem dX6_readTemplate_13 : decode cX6_readTemplate 13 = .ok (.invokevirtual 63, 3) := by decide +kernel
theorem dX6_readTemplate_16 : decode cX6_readTemplate 16 = .ok (.ireturn, 1) := by decide +kernel
theorem dX6_readTemplate_17 : decode cX6_readTemplate 17 = .ok (.aload_n 0, 1) := by decide +kernel
theorem dX6_readTemplate_18 : decode cX6_readTemplate 18 = .ok (.getfield 12, 3) := by decide +kernel
theorem dX6_readTemplate_21 : decode cX6_readTemplate 21 = .ok (.aload_n 0, 1) := by decide +kernel
theorem dX6_readTemplate_22 : decode cX6_readTemplate 22 = .ok (.getfield 12, 3) := by decide +kernel
theorem dX6_readTemplate_25 : decode cX6_readTemplate 25 = .ok (.getfield 47, 3) := by decide +kernel
theorem dX6_readTemplate_28 : decode cX6_readTemplate 28 = .ok (.invokevirtual 97, 3) := by decide +kernel
theorem dX6_readTemplate_31 : decode cX6_readTemplate 31 = .ok (.astore_n 1, 1) := by decide +kernel
theorem dX6_readTemplate_32 : decode cX6_readTemplate 32 = .ok (.iconst 0, 1) := by decide +kernel
theorem dX6_readTemplate_33 : decode cX6_readTemplate 33 = .ok (.istore_n 2, 1) := by decide +kernel
theorem dX6_readTemplate_34 : decode cX6_readTemplate 34 = .ok (.iload_n 2, 1) := by decide +kernel
theorem dX6_readTemplate_35 : decode cX6_readTemplate 35 = .ok (.bipush 9, 2) := by decide +kernel
theorem dX6_readTemplate_37 : decode cX6_readTemplate 37 = .ok (.if_icmp .gt 77, 3) := by decide +kernel
theorem dX6_readTemplate_40 : decode cX6_readTemplate 40 = .ok (.aload_n 0, 1) := by decide +kernel
theorem dX6_readTemplate_41 : decode cX6_readTemplate 41 = .ok (.invokevirtual 44, 3) := by decide +kernel
theorem dX6_readTemplate_44 : decode cX6_readTemplate 44 = .ok (.iload_n 2, 1) := by decide +kernel
theorem dX6_readTemplate_45 : decode cX6_readTemplate 45 = .ok (.ifCond .le 26, 3) := by decide +kernel
theorem dX6_readTemplate_48 : decode cX6_readTemplate 48 = .ok (.aload_n 0, 1) := by decide +kernel
theorem dX6_readTemplate_49 : decode cX6_readTemplate 49 = .ok (.getfield 28, 3) := by decide +kernel
theorem dX6_readTemplate_52 : decode cX6_readTemplate 52 = .ok (.iconst 4, 1) := by decide +kernel
theorem dX6_readTemplate_53 : decode cX6_readTemplate 53 = .ok (.if_icmp .ne 18, 3) := by decide +kernel
theorem dX6_readTemplate_56 : decode cX6_readTemplate 56 = .ok (.aload_n 0, 1) := by decide +kernel
theorem dX6_readTemplate_57 : decode cX6_readTemplate 57 = .ok (.getfield 12, 3) := by decide +kernel
theorem dX6_readTemplate_60 : decode cX6_readTemplate 60 = .ok (.dup, 1) := by decide +kernel
theorem dX6_readTemplate_61 : decode cX6_readTemplate 61 = .ok (.getfield 47, 3) := by decide +kernel
theorem dX6_readTemplate_64 : decode cX6_readTemplate 64 = .ok (.iconst 1, 1) := by decide +kernel
theorem dX6_readTemplate_65 : decode cX6_readTemplate 65 = .ok (.iadd, 1) := by decide +kernel
theorem dX6_readTemplate_66 : decode cX6_readTemplate 66 = .ok (.putfield 47, 3) := by decide +kernel
theorem dX6_readTemplate_69 : decode cX6_readTemplate 69 = .ok (.iconst 1, 1) := by decide +kernel
theorem dX6_readTemplate_70 : decode cX6_readTemplate 70 = .ok (.ireturn, 1) := by decide +kernel
theorem dX6_readTemplate_71 : decode cX6_readTemplate 71 = .ok (.aload_n 0, 1) := by decide +kernel
theorem dX6_readTemplate_72 : decode cX6_readTemplate 72 = .ok (.ldc 101, 2) := by decide +kernel
theorem dX6_readTemplate_74 : decode cX6_readTemplate 74 = .ok (.invokevirtual 59, 3) := by decide +kernel
theorem dX6_readTemplate_77 : decode cX6_readTemplate 77 = .ok (.istore_n 3, 1) := by decide +kernel
theorem dX6_readTemplate_78 : decode cX6_readTemplate 78 = .ok (.iload_n 3, 1) := by decide +kernel
theorem dX6_readTemplate_79 : decode cX6_readTemplate 79 = .ok (.iconst (-1), 1) := by decide +kernel
theorem dX6_readTemplate_80 : decode cX6_readTemplate 80 = .ok (.if_icmp .ne 9, 3) := by decide +kernel
theorem dX6_readTemplate_83 : decode cX6_readTemplate 83 = .ok (.aload_n 0, 1) := by decide +kernel
theorem dX6_readTemplate_84 : decode cX6_readTemplate 84 = .ok (.iconst 1, 1) := by decide +kernel
theorem dX6_readTemplate_85 : decode cX6_readTemplate 85 = .ok (.invokevirtual 63, 3) := by decide +kernel
theorem dX6_readTemplate_88 : decode cX6_readTemplate 88 = .ok (.ireturn, 1) := by decide +kernel
theorem dX6_readTemplate_89 : decode cX6_readTemplate 89 = .ok (.aload_n 1, 1) := by decide +kernel
theorem dX6_readTemplate_90 : decode cX6_readTemplate 90 = .ok (.iload_n 3, 1) := by decide +kernel
theorem dX6_readTemplate_91 : decode cX6_readTemplate 91 = .ok (.invokevirtual 103, 3) := by decide +kernel
theorem dX6_readTemplate_94 : decode cX6_readTemplate 94 = .ok (.ifCond .eq 9, 3) := by decide +kernel
theorem dX6_readTemplate_97 : decode cX6_readTemplate 97 = .ok (.aload_n 0, 1) := by decide +kernel
theorem dX6_readTemplate_98 : decode cX6_readTemplate 98 = .ok (.iconst 3, 1) := by decide +kernel
theorem dX6_readTemplate_99 : decode cX6_readTemplate 99 = .ok (.invokevirtual 63, 3) := by decide +kernel
theorem dX6_readTemplate_102 : decode cX6_readTemplate 102 = .ok (.ireturn, 1) := by decide +kernel
theorem dX6_readTemplate_103 : decode cX6_readTemplate 103 = .ok (.aload_n 1, 1) := by decide +kernel
theorem dX6_readTemplate_104 : decode cX6_readTemplate 104 = .ok (.iload_n 3, 1) := by decide +kernel
theorem dX6_readTemplate_105 : decode cX6_readTemplate 105 = .ok (.invokevirtual 108, 3) := by decide +kernel
theorem dX6_readTemplate_108 : decode cX6_readTemplate 108 = .ok (.iinc 2 1, 3) := by decide +kernel
theorem dX6_readTemplate_111 : decode cX6_readTemplate 111 = .ok (.goto (-77), 3) := by decide +kernel
theorem dX6_readTemplate_114 : decode cX6_readTemplate 114 = .ok (.aload_n 0, 1) := by decide +kernel
theorem dX6_readTemplate_115 : decode cX6_readTemplate 115 = .ok (.iconst 1, 1) := by decide +kernel
theorem dX6_readTemplate_116 : decode cX6_readTemplate 116 = .ok (.invokevirtual 63, 3) := by decide +kernel
theorem dX6_readTemplate_119 : decode cX6_readTemplate 119 = .ok (.ireturn, 1) := by decide +kernel
set_option maxHeartbeats 4000000 in
set_option maxRecDepth 100000 in
theorem s_X6_readSetting (G : EnvG) (l : Launch) (Φ : Hm) (sz x ca : Nat) (n : Nat) (f : Nat → Int32) (co : Int32) (po : Int32) (nx : Nat) (ki : Nat) (sa : Nat) (nu : Nat) (t : Nat) (c : Cf) (w : Nat) (hx : G.2.2.2 ≤ x) (hI : In G x ca Φ) (hc0 : Φ (x + 1) = some (o_ 7 [.ref (x + 2), .int (nI n)])) (hc1 : Φ (x + 2) = some (ab_ G 700 f)) (hc2 : Φ (x + 24) = some (o_ 8 [.ref (x + 25), .int co, .int po, .ref (x + 1), .int (nI nx), .int (nI ki), .int (nI sa), .int (nI nu)])) (hcf0 : CfP G x 25 t 4 c Φ) (hn : n ≤ 700) (hnx : nx ≤ n) (hsx : sa ≤ nx) (hki : ki ≤ 5) (ht : t ≤ 4) (hw : w < 9) : Ct G l yX6_readSetting wsX6_readSetting ({ frames := 3, cells := 0, slots := 0, locals := 65 }) 0 0 [.ref (x + 24), .int (nI w)] Φ sz (fun v Φ1 sz1 => ((∃ (e8 k8 s8 u8 t8 : Nat) (c8 : Cf), v = some (.int 1) ∧ setA (bA f n) nx w c = (0, e8, c8) ∧ Φ1 (x + 24) = some (o_ 8 [.ref (x + 25), .int co, .int po, .ref (x + 1), .int (nI e8), .int (nI k8), .int (nI s8), .int (nI u8)]) ∧ nx < e8 ∧ s8 ≤ e8 ∧ e8 ≤ n ∧ k8 ≤ 5 ∧ t8 ≤ 4 ∧ CfP G x 25 t8 4 c8 Φ1) ∨ (∃ (er8 s8 e8 k8 u8 : Nat) (c8 : Cf), v = some (.int 0) ∧ setA (bA f n) nx w c = (er8, s8, c8) ∧ ¬ er8 = 0 ∧ Φ1 (x + 24) = some (o_ 8 [.ref (x + 25), .int (nI er8), .int (nI s8), .ref (x + 1), .int (nI e8), .int (nI k8), .int (nI s8), .int (nI u8)]))) ∧ sz1 = sz ∧ In G x (ca) Φ1 ∧ Fr x (fun j9 => 24 ≤ j9 ∧ j9 < 46) Φ Φ1) := by
  refine Ct.of (cc := cX6_readSetting) (maxL := 2) (ret := (some .boolean)) (by decide) rfl (Nat.le_of_ble_eq_true rfl) ?_
  intro p9 e9 s9 m9 w9 t9 k9 B
  show Z p9 l e9 _ s9 m9 _ w9 t9 k9 _ G 2 0 [(0, .ref (x + 24)), (1, .int (nI w))] [] Φ sz 0 0
  refine z_iload_n B dX6_readSetting_0 rfl 1 rfl ?_
  refine z_if_lt (tgt := 20) B dX6_readSetting_1 rfl (fun c_1 => ?_) (fun c_1 => ?_)
  · have e_1 : w < 0 := (nI_ltI (a := w) (b := 0) (by omega) (by omega)).mp c_1
    refine z_aload_n B dX6_readSetting_20 rfl 0 rfl ?_
    refine z_iconst (v := 1) B dX6_readSetting_21 rfl ?_
    refine z_callV (As := [.int 1]) (rest := []) B (s_X6_fail G l Φ sz x (ca) co po nx ki sa nu 1 hx hI hc2) (cwV 1 B.1.2.2.2.2 gX6_readSetting_X6_fail rfl rfl rfl (by decide +kernel) ⟨Nat.le_of_ble_eq_true rfl, Nat.le_of_ble_eq_true rfl⟩) hc2 rfl rfl rfl rfl (Nat.le_of_ble_eq_true rfl) dX6_readSetting_22 ⟨Nat.le_of_ble_eq_true rfl, Nat.le_of_ble_eq_true rfl⟩ (fun r_1 Φ1 sz1 st1 hp1 hs1 => ?_)
    obtain ⟨⟨rfl, h_1⟩, hq1, hI1, hF1⟩ := hp1
    subst sz1
    replace hs1 : st1 = [.int 0] := hs1
    subst st1
    replace hI1 : In G x (ca) Φ1 := hI1
    exact z_ret_z B dX6_readSetting_25 (by decide) ⟨((show False by omega).elim), rfl, hI1, (fun b9 h9 => ((hF1 b9 (fun j9 h8 h7 => h9 j9 h8 (fq_565 j9 h7))).trans rfl))⟩
  · have e_2 : ¬ (w < 0) := fun h9 => c_1 ((nI_ltI (a := w) (b := 0) (by omega) (by omega)).mpr h9)
    refine z_iload_n B dX6_readSetting_4 rfl 1 rfl ?_
    refine z_staN (n := "LEAST") B B.2.2.2.2.2.1.1.2.2.1 (by decide +kernel) dX6_readSetting_5 ?_
    refine z_slen (v := 9) B B.2.2.2.2.2.1.2.2.2.1.2.2.1 (B.2.2.2.2.2.1.2.2.2.2 2 (by decide)) rfl dX6_readSetting_8 ?_
    refine z_icmp_ge (tgt := 20) B dX6_readSetting_9 rfl (fun c_2 => ?_) (fun c_2 => ?_)
    · have e_3 : 9 ≤ w := (nI_leI (a := 9) (b := w) (by omega) (by omega)).mp c_2
      refine z_aload_n B dX6_readSetting_20 rfl 0 rfl ?_
      refine z_iconst (v := 1) B dX6_readSetting_21 rfl ?_
      refine z_callV (As := [.int 1]) (rest := []) B (s_X6_fail G l Φ sz x (ca) co po nx ki sa nu 1 hx hI hc2) (cwV 1 B.1.2.2.2.2 gX6_readSetting_X6_fail rfl rfl rfl (by decide +kernel) ⟨Nat.le_of_ble_eq_true rfl, Nat.le_of_ble_eq_true rfl⟩) hc2 rfl rfl rfl rfl (Nat.le_of_ble_eq_true rfl) dX6_readSetting_22 ⟨Nat.le_of_ble_eq_true rfl, Nat.le_of_ble_eq_true rfl⟩ (fun r_2 Φ2 sz2 st2 hp2 hs2 => ?_)
      obtain ⟨⟨rfl, h_2⟩, hq2, hI2, hF2⟩ := hp2
      subst sz2
      replace hs2 : st2 = [.int 0] := hs2
      subst st2
      replace hI2 : In G x (ca) Φ2 := hI2
      exact z_ret_z B dX6_readSetting_25 (by decide) ⟨((show False by omega).elim), rfl, hI2, (fun b9 h9 => ((hF2 b9 (fun j9 h8 h7 => h9 j9 h8 (fq_565 j9 h7))).trans rfl))⟩
    · have e_4 : ¬ (9 ≤ w) := fun h9 => c_2 ((nI_leI (a := 9) (b := w) (by omega) (by omega)).mpr h9)
      refine z_iload_n B dX6_readSetting_12 rfl 1 rfl ?_
      refine z_staN (n := "MOST") B B.2.2.2.2.2.1.1.2.2.2.1 (by decide +kernel) dX6_readSetting_13 ?_
      refine z_slen (v := 9) B B.2.2.2.2.2.1.2.2.2.1.2.2.2.1 (B.2.2.2.2.2.1.2.2.2.2 3 (by decide)) rfl dX6_readSetting_16 ?_
      refine z_icmp_lt (tgt := 26) B dX6_readSetting_17 rfl (fun c_3 => ?_) (fun c_3 => ?_)
      · have e_5 : w < 9 := (nI_ltI (a := w) (b := 9) (by omega) (by omega)).mp c_3
        refine z_aload_n B dX6_readSetting_26 rfl 0 rfl ?_
        refine z_staN (n := "LEAST") B B.2.2.2.2.2.1.1.2.2.1 (by decide +kernel) dX6_readSetting_27 ?_
        refine z_iload_n B dX6_readSetting_30 rfl 1 rfl ?_
        refine z_sald B B.2.2.2.2.2.1.2.2.2.1.2.2.1 (B.2.2.2.2.2.1.2.2.2.2 2 (by decide)) (vp_in_nI (by omega) (by omega)) dX6_readSetting_31 ?_
        refine z_staN (n := "MOST") B B.2.2.2.2.2.1.1.2.2.2.1 (by decide +kernel) dX6_readSetting_32 ?_
        refine z_iload_n B dX6_readSetting_35 rfl 1 rfl ?_
        refine z_sald B B.2.2.2.2.2.1.2.2.2.1.2.2.2.1 (B.2.2.2.2.2.1.2.2.2.2 3 (by decide)) (vp_in_nI (by omega) (by omega)) dX6_readSetting_36 ?_
        refine z_callV (As := [.int (leT (nI w).toNatClampNeg), .int (moT (nI w).toNatClampNeg)]) (rest := []) B (s_X6_readNumber G l Φ sz x (ca) n f co po nx ki sa nu (leT (nI w).toNatClampNeg) (moT (nI w).toNatClampNeg) hx hI hc0 hc1 hc2 (show n ≤ 700 by omega) (show nx ≤ n by omega)) (cwV 2 B.1.2.2.2.2 gX6_readSetting_X6_readNumber rfl rfl rfl (by decide +kernel) ⟨Nat.le_of_ble_eq_true rfl, Nat.le_of_ble_eq_true rfl⟩) hc2 rfl rfl rfl rfl (Nat.le_of_ble_eq_true rfl) dX6_readSetting_37 ⟨Nat.le_of_ble_eq_true rfl, Nat.le_of_ble_eq_true rfl⟩ (fun r_3 Φ3 sz3 st3 hp3 hs3 => ?_)
        obtain ⟨ha1, hq3, hI3, hF3⟩ := hp3
        subst sz3
        replace hI3 : In G x (ca) Φ3 := hI3
        rcases ha1 with ⟨s_1, e_6, w_1, rfl, hN1, h_3, b_1, b_2, b_3, b_4⟩ | ⟨er_1, s_2, e_7, k_1, u_1, rfl, hN2, he1, h_4⟩
        · replace hN1 : numAt (bA f n) nx (leT (nI w).toNatClampNeg : Int32).toInt (moT (nI w).toNatClampNeg : Int32).toInt = (0, e_6, w_1) := hN1
          replace b_1 : nx < e_6 := b_1
          replace b_3 : e_6 ≤ n := b_3
          replace hs3 : st3 = [.int 1] := hs3
          subst st3
          refine z_if_ne (tgt := 45) B dX6_readSetting_40 rfl (fun c_4 => ?_) (fun h9 => absurd h9 (by decide))
          refine z_aload_n B dX6_readSetting_45 rfl 0 rfl ?_
          refine z_get (ref := "FlowExporter$Parser") (C := RX6) (T := TX6) (N := 8) (ci := 8) (v := .ref (x + 25)) B hu_X6_readSetting_X6 rfl 0 (Nat.le_of_ble_eq_true rfl) hv_X6_readSetting_12 rfl h_3 rfl dX6_readSetting_46 ?_
          refine z_iload_n B dX6_readSetting_49 rfl 1 rfl ?_
          refine z_aload_n B dX6_readSetting_50 rfl 0 rfl ?_
          refine z_get (ref := "FlowExporter$Parser") (C := RX6) (T := TX6) (N := 8) (ci := 8) (v := .int (nI w_1)) B hu_X6_readSetting_X6 rfl 7 (Nat.le_of_ble_eq_true rfl) hv_X6_readSetting_34 rfl h_3 rfl dX6_readSetting_51 ?_
          obtain ⟨f_1, h_5, r_4⟩ := in4 (k := 26) hI3 rfl
          have h_6 : Φ3 (x + 26) = some (ai_ G 9 f_1) := h_5
          obtain ⟨v_1, v_2, h_7⟩ := in3 (k := 25) hI3 rfl
          have h_8 : Φ3 (x + 25) = some (o_ 3 [.ref (x + 26), .ref (x + 27), .ref (x + 28), .ref (x + 29), .int v_1, .int v_2]) := h_7
          have hcg1 : CfP G x 25 t 4 c Φ3 := (CfP.fr hcf0 hF3 (fun j9 h7 => by have h6 : j9 = 24 := h7; intros; omega))
          refine z_callV (As := [.int (nI w), .int (nI w_1)]) (rest := []) B (s_X1_setF G l Φ3 sz x (ca) t 4 c f_1 w w_1 hx hI3 h_6 hcg1 (show w < 9 by omega) (show w_1 < 2 ^ 31 by omega) r_4) (cwV 2 B.1.2.2.2.2 gX6_readSetting_X1_set rfl rfl rfl (by decide +kernel) ⟨Nat.le_of_ble_eq_true rfl, Nat.le_of_ble_eq_true rfl⟩) h_8 rfl rfl rfl rfl (Nat.le_of_ble_eq_true rfl) dX6_readSetting_54 ⟨Nat.le_of_ble_eq_true rfl, Nat.le_of_ble_eq_true rfl⟩ (fun r_5 Φ4 sz4 st4 hp4 hs4 => ?_)
          obtain ⟨⟨rfl, hcg2⟩, hq4, hI4, hF4⟩ := hp4
          subst sz4
          replace hs4 : st4 = [] := hs4
          subst st4
          replace hI4 : In G x (ca) Φ4 := hI4
          refine z_iconst (v := 1) B dX6_readSetting_57 rfl ?_
          have hN3 := hN1
          rw [nI_clamp (by omega), leT_lo w (by omega), moT_hi w (by omega)] at hN3
          have h_9 : Φ4 (x + 24) = some (o_ 8 [.ref (x + 25), .int co, .int po, .ref (x + 1), .int (nI e_6), .int (nI 3), .int (nI s_1), .int (nI w_1)]) := ((hF4 (x + 24) fq_569).trans h_3)
          exact z_ret_z B dX6_readSetting_58 (by decide) ⟨(Or.inl ⟨e_6, 3, s_1, w_1, t, (upd c w (nI w_1)), rfl, setA_0 hN3, h_9, by omega, by omega, by omega, by omega, by omega, hcg2⟩), rfl, hI4, (fun b9 h9 => ((hF4 b9 (fun j9 h8 h7 => h9 j9 h8 (fq_570 j9 h7))).trans ((hF3 b9 (fun j9 h8 h7 => h9 j9 h8 (fq_565 j9 h7))).trans rfl)))⟩
        · replace hN2 : numAt (bA f n) nx (leT (nI w).toNatClampNeg : Int32).toInt (moT (nI w).toNatClampNeg : Int32).toInt = (er_1, s_2, 0) := hN2
          replace hs3 : st3 = [.int 0] := hs3
          subst st3
          refine z_if_ne (tgt := 45) B dX6_readSetting_40 rfl (fun h9 => absurd (by decide) h9) (fun c_5 => ?_)
          refine z_iconst (v := 0) B dX6_readSetting_43 rfl ?_
          have hN4 := hN2
          rw [nI_clamp (by omega), leT_lo w (by omega), moT_hi w (by omega)] at hN4
          exact z_ret_z B dX6_readSetting_44 (by decide) ⟨(Or.inr ⟨er_1, s_2, e_7, k_1, u_1, c, rfl, setA_e hN4 he1, he1, h_4⟩), rfl, hI3, (fun b9 h9 => ((hF3 b9 (fun j9 h8 h7 => h9 j9 h8 (fq_565 j9 h7))).trans rfl))⟩
      · have e_8 : ¬ (w < 9) := fun h9 => c_3 ((nI_ltI (a := w) (b := 9) (by omega) (by omega)).mpr h9)
        refine z_aload_n B dX6_readSetting_20 rfl 0 rfl ?_
        refine z_iconst (v := 1) B dX6_readSetting_21 rfl ?_
        refine z_callV (As := [.int 1]) (rest := []) B (s_X6_fail G l Φ sz x (ca) co po nx ki sa nu 1 hx hI hc2) (cwV 1 B.1.2.2.2.2 gX6_readSetting_X6_fail rfl rfl rfl (by decide +kernel) ⟨Nat.le_of_ble_eq_true rfl, Nat.le_of_ble_eq_true rfl⟩) hc2 rfl rfl rfl rfl (Nat.le_of_ble_eq_true rfl) dX6_readSetting_22 ⟨Nat.le_of_ble_eq_true rfl, Nat.le_of_ble_eq_true rfl⟩ (fun r_6 Φ5 sz5 st5 hp5 hs5 => ?_)
        obtain ⟨⟨rfl, h_10⟩, hq5, hI5, hF5⟩ := hp5
        subst sz5
        replace hs5 : st5 = [.int 0] := hs5
        subst st5
        replace hI5 : In G x (ca) Φ5 := hI5
        exact z_ret_z B dX6_readSetting_25 (by decide) ⟨((show False by omega).elim), rfl, hI5, (fun b9 h9 => ((hF5 b9 (fun j9 h8 h7 => h9 j9 h8 (fq_565 j9 h7))).trans rfl))⟩

theorem hu_X6_readTemplate_X6 : ∀ w ∈ u_ws RX6 TX6 8, w ∈ wsX6_readTemplate := fun _ h => List.mem_cons_of_mem _ (List.mem_append_left _ (List.mem_append_left _ (List.mem_append_left _ (List.mem_append_left _ (List.mem_append_left _ (List.mem_append_right _ (h)))))))

theorem hv_X6_readTemplate_12 : Cond.fieldLink RX6 12 "FlowExporter$Parser" (TX6 0).2.1 (TX6 0).2.2.1 ∈ wsX6_readTemplate := List.mem_cons_of_mem _ (List.mem_append_left _ (List.mem_append_left _ (List.mem_append_left _ (List.mem_append_left _ (List.mem_append_left _ (List.mem_append_left _ (List.mem_append_left _ (List.mem_of_getElem? (i := 0) rfl))))))))

theorem hu_X6_readTemplate_X1 : ∀ w ∈ u_ws RX1 TX1 6, w ∈ wsX6_readTemplate := fun _ h => List.mem_cons_of_mem _ (List.mem_append_left _ (List.mem_append_left _ (List.mem_append_left _ (List.mem_append_left _ (List.mem_append_right _ (h))))))

theorem hv_X6_readTemplate_47 : Cond.fieldLink RX6 47 "FlowExporter$Config" (TX1 4).2.1 (TX1 4).2.2.1 ∈ wsX6_readTemplate := List.mem_cons_of_mem _ (List.mem_append_left _ (List.mem_append_left _ (List.mem_append_left _ (List.mem_append_left _ (List.mem_append_left _ (List.mem_append_left _ (List.mem_append_left _ (List.mem_of_getElem? (i := 1) rfl))))))))

theorem fq_575 {x : Nat} : ∀ j9 : Nat, x + 1 = x + j9 → (24 ≤ j9 ∧ j9 < 46) → False := by
  intro j9 h1 h2
  omega

theorem fq_576 {x : Nat} : ∀ j9 : Nat, x + 2 = x + j9 → (24 ≤ j9 ∧ j9 < 46) → False := by
  intro j9 h1 h2
  omega

theorem hv_X6_readTemplate_28 : Cond.fieldLink RX6 28 "FlowExporter$Parser" (TX6 5).2.1 (TX6 5).2.2.1 ∈ wsX6_readTemplate := List.mem_cons_of_mem _ (List.mem_append_left _ (List.mem_append_left _ (List.mem_append_left _ (List.mem_append_left _ (List.mem_append_left _ (List.mem_append_left _ (List.mem_append_left _ (List.mem_of_getElem? (i := 2) rfl))))))))

theorem fq_578 {x : Nat} : ∀ j9 : Nat, x + 25 = x + j9 → (j9 = 24) → False := by
  intro j9 h1 h2
  omega

set_option maxHeartbeats 4000000 in
set_option maxRecDepth 100000 in
theorem s_X6_readTemplate (G : EnvG) (l : Launch) (Φ : Hm) (sz x ca : Nat) (n : Nat) (f : Nat → Int32) (co : Int32) (po : Int32) (nx : Nat) (ki : Nat) (sa : Nat) (nu : Nat) (t : Nat) (c : Cf) (hx : G.2.2.2 ≤ x) (hI : In G x ca Φ) (hc0 : Φ (x + 1) = some (o_ 7 [.ref (x + 2), .int (nI n)])) (hc1 : Φ (x + 2) = some (ab_ G 700 f)) (hc2 : Φ (x + 24) = some (o_ 8 [.ref (x + 25), .int co, .int po, .ref (x + 1), .int (nI nx), .int (nI ki), .int (nI sa), .int (nI nu)])) (hcf0 : CfP G x 25 t 4 c Φ) (hn : n ≤ 700) (hnx : nx ≤ n) (hsx : sa ≤ nx) (hki : ki ≤ 5) (ht : t ≤ 4) : Ct G l yX6_readTemplate wsX6_readTemplate ({ frames := 6, cells := 0, slots := 0, locals := 133 }) 0 0 [.ref (x + 24)] Φ sz (fun v Φ1 sz1 => ((∃ (e8 k8 s8 u8 t8 : Nat) (c8 : Cf), v = some (.int 1) ∧ (if c 10 = 4 then (4, sa, c) else tplA (bA f n) 10 nx c 0 0) = (0, e8, c8) ∧ Φ1 (x + 24) = some (o_ 8 [.ref (x + 25), .int co, .int po, .ref (x + 1), .int (nI e8), .int (nI k8), .int (nI s8), .int (nI u8)]) ∧ nx < e8 ∧ s8 ≤ e8 ∧ e8 ≤ n ∧ k8 ≤ 5 ∧ t8 ≤ 4 ∧ CfP G x 25 t8 4 c8 Φ1) ∨ (∃ (er8 s8 e8 k8 u8 : Nat) (c8 : Cf), v = some (.int 0) ∧ (if c 10 = 4 then (4, sa, c) else tplA (bA f n) 10 nx c 0 0) = (er8, s8, c8) ∧ ¬ er8 = 0 ∧ Φ1 (x + 24) = some (o_ 8 [.ref (x + 25), .int (nI er8), .int (nI s8), .ref (x + 1), .int (nI e8), .int (nI k8), .int (nI s8), .int (nI u8)]))) ∧ sz1 = sz ∧ In G x (ca) Φ1 ∧ Fr x (fun j9 => 24 ≤ j9 ∧ j9 < 46) Φ Φ1) := by
  refine Ct.of (cc := cX6_readTemplate) (maxL := 4) (ret := (some .boolean)) (by decide) rfl (Nat.le_of_ble_eq_true rfl) ?_
  intro p9 e9 s9 m9 w9 t9 k9 B
  show Z p9 l e9 _ s9 m9 _ w9 t9 k9 _ G 4 0 [(0, .ref (x + 24))] [] Φ sz 0 0
  have h_1 : Φ (x + 25) = some (o_ 3 [.ref (x + 26), .ref (x + 27), .ref (x + 28), .ref (x + 29), .int (nI t), .int (c 9)]) := CfP.obj hcf0
  refine z_aload_n B dX6_readTemplate_0 rfl 0 rfl ?_
  refine z_get (ref := "FlowExporter$Parser") (C := RX6) (T := TX6) (N := 8) (ci := 8) (v := .ref (x + 25)) B hu_X6_readTemplate_X6 rfl 0 (Nat.le_of_ble_eq_true rfl) hv_X6_readTemplate_12 rfl hc2 rfl dX6_readTemplate_1 ?_
  refine z_get (ref := "FlowExporter$Config") (C := RX1) (T := TX1) (N := 6) (ci := 3) (v := .int (nI t)) B hu_X6_readTemplate_X1 rfl 4 (Nat.le_of_ble_eq_true rfl) hv_X6_readTemplate_47 rfl h_1 rfl dX6_readTemplate_4 ?_
  refine z_iconst (v := 4) B dX6_readTemplate_7 rfl ?_
  refine z_icmp_lt (tgt := 17) B dX6_readTemplate_8 rfl (fun c_1 => ?_) (fun c_1 => ?_)
  · have e_1 : t < 4 := (nI_ltI (a := t) (b := 4) (by omega) (by omega)).mp c_1
    refine z_aload_n B dX6_readTemplate_17 rfl 0 rfl ?_
    refine z_get (ref := "FlowExporter$Parser") (C := RX6) (T := TX6) (N := 8) (ci := 8) (v := .ref (x + 25)) B hu_X6_readTemplate_X6 rfl 0 (Nat.le_of_ble_eq_true rfl) hv_X6_readTemplate_12 rfl hc2 rfl dX6_readTemplate_18 ?_
    refine z_aload_n B dX6_readTemplate_21 rfl 0 rfl ?_
    refine z_get (ref := "FlowExporter$Parser") (C := RX6) (T := TX6) (N := 8) (ci := 8) (v := .ref (x + 25)) B hu_X6_readTemplate_X6 rfl 0 (Nat.le_of_ble_eq_true rfl) hv_X6_readTemplate_12 rfl hc2 rfl dX6_readTemplate_22 ?_
    refine z_get (ref := "FlowExporter$Config") (C := RX1) (T := TX1) (N := 6) (ci := 3) (v := .int (nI t)) B hu_X6_readTemplate_X1 rfl 4 (Nat.le_of_ble_eq_true rfl) hv_X6_readTemplate_47 rfl h_1 rfl dX6_readTemplate_25 ?_
    refine z_callV (As := [.int (nI t)]) (rest := []) B (s_X1_templateE G l Φ sz x (ca) t hx hI (show t < 4 by omega)) (cwV 1 B.1.2.2.2.2 gX6_readTemplate_X1_template rfl rfl rfl (by decide +kernel) ⟨Nat.le_of_ble_eq_true rfl, Nat.le_of_ble_eq_true rfl⟩) h_1 rfl rfl rfl rfl (Nat.le_of_ble_eq_true rfl) dX6_readTemplate_28 ⟨Nat.le_of_ble_eq_true rfl, Nat.le_of_ble_eq_true rfl⟩ (fun r_1 Φ1 sz1 st1 hp1 hs1 => ?_)
    obtain ⟨rfl, hq1, hI1, hF1⟩ := hp1
    subst sz1
    replace hs1 : st1 = [.ref (x + (30 + 4 * t))] := hs1
    subst st1
    replace hI1 : In G x (ca) Φ1 := hI1
    refine z_astore_n (lv' := [(1, .ref (x + (30 + 4 * t))), (0, .ref (x + 24))]) B dX6_readTemplate_31 rfl (Nat.le_of_ble_eq_true rfl) rfl ?_
    have hcg1 : CfP G x 25 t 4 c Φ1 := (CfP.fr hcf0 hF1 (fun j9 h7 => (show False from h7).elim))
    obtain ⟨hcg2, f_1, hcg3⟩ := CfP.opn hcg1 (by omega)
    refine z_iconst (v := 0) B dX6_readTemplate_32 rfl ?_
    refine z_istore_n (lv' := [(2, .int 0), (1, .ref (x + (30 + 4 * t))), (0, .ref (x + 24))]) B dX6_readTemplate_33 rfl (Nat.le_of_ble_eq_true rfl) rfl ?_
    have h_2 : Φ1 (x + 24) = some (o_ 8 [.ref (x + 25), .int co, .int po, .ref (x + 1), .int (nI nx), .int (nI ki), .int (nI sa), .int (nI nu)]) := ((hF1 (x + 24) (fun j9 h8 h7 => (show False from h7).elim)).trans hc2)
    refine z_lv [0, 1, 2] rfl ?_
    refine z_loop (α := Nat × Nat × Nat × Nat × Nat × Cf × (Nat → Int32)) (fun (a9 : Nat × Nat × Nat × Nat × Nat × Cf × (Nat → Int32)) Φi => In G x (ca) Φi ∧ Fr x (fun j9 => 24 ≤ j9 ∧ j9 < 46) Φ1 Φi ∧ (a9.1 ≤ 9) ∧ (nx ≤ a9.2.1 ∧ a9.2.1 ≤ n) ∧ (a9.2.2.2.2.1 < 512) ∧ (a9.2.2.2.1 ≤ a9.2.1) ∧ (a9.1 = pcN a9.2.2.2.2.1) ∧ (tplA (bA f n) 10 nx c 0 0 = tplA (bA f n) (10 - a9.1) a9.2.1 a9.2.2.2.2.2.1 a9.1 (nI a9.2.2.2.2.1)) ∧ (fS a9.2.2.2.2.2.2 511 a9.1 = nI a9.2.2.2.2.1) ∧ (∀ j9, j9 < a9.1 → a9.2.2.2.2.2.2 j9 = a9.2.2.2.2.2.1 (15 + 9 * t + j9)) ∧ (CfP G x 25 t t a9.2.2.2.2.2.1 Φi) ∧ (CfU G x 25 t a9.1 a9.2.2.2.2.2.2 Φi) ∧ (Φi (x + 24) = some (o_ 8 [.ref (x + 25), .int co, .int po, .ref (x + 1), .int (nI a9.2.1), .int (nI a9.2.2.1), .int (nI a9.2.2.2.1), .int (nI nu)])) ∧ True) (fun a9 => [(2, .int (nI (a9.1))), (1, .ref (x + (30 + 4 * t))), (0, .ref (x + 24))]) (fun a9 => 10 - a9.1) ?_ (0, nx, ki, sa, 0, c, f_1) ⟨hI1, fun _ _ => rfl, (show 0 ≤ 9 by omega), (show nx ≤ nx ∧ nx ≤ n by omega), (show 0 < 512 by omega), (show sa ≤ nx by omega), (show (0 : Nat) = pcN 0 by decide), rfl, rfl, (fun j9 h9 => absurd h9 (Nat.not_lt_zero _)), hcg2, hcg3, h_2, trivial⟩
    rintro ⟨i_1, i_2, i_3, i_4, i_5, i_6, i_7⟩ Φl1 ⟨hI2, hF2, b_1, b_2, b_3, b_4, b_5, b_6, b_7, b_8, b_9, b_10, b_11, -⟩ ih1
    replace hI2 : In G x (ca) Φl1 := hI2
    replace b_1 : i_1 ≤ 9 := b_1
    replace b_2 : nx ≤ i_2 ∧ i_2 ≤ n := b_2
    replace b_3 : i_5 < 512 := b_3
    replace b_4 : i_4 ≤ i_2 := b_4
    replace b_5 : i_1 = pcN i_5 := b_5
    replace b_6 : tplA (bA f n) 10 nx c 0 0 = tplA (bA f n) (10 - i_1) i_2 i_6 i_1 (nI i_5) := b_6
    replace b_7 : fS i_7 511 i_1 = nI i_5 := b_7
    replace b_8 : ∀ j9, j9 < i_1 → i_7 j9 = i_6 (15 + 9 * t + j9) := b_8
    replace b_9 : CfP G x 25 t t i_6 Φl1 := b_9
    replace b_10 : CfU G x 25 t i_1 i_7 Φl1 := b_10
    replace b_11 : Φl1 (x + 24) = some (o_ 8 [.ref (x + 25), .int co, .int po, .ref (x + 1), .int (nI i_2), .int (nI i_3), .int (nI i_4), .int (nI nu)]) := b_11
    show Z p9 l e9 _ s9 m9 _ w9 t9 k9 _ G 4 34 [(2, .int (nI i_1)), (1, .ref (x + (30 + 4 * t))), (0, .ref (x + 24))] [] Φl1 _ _ _
    obtain ⟨hd1, q_1, q_2⟩ := id b_10
    have h_3 : Φl1 (x + (30 + 4 * t)) = some (o_ 12 [.ref (x + (30 + 4 * t + 1)), .int (nI i_1), .int (nI i_5), .int (fB_ i_7 511 i_1)]) := by rw [← b_7]; exact q_1
    have h_4 : Φl1 (x + (30 + 4 * t + 1)) = some (ai_ G 9 i_7) := q_2
    have h_5 : Φl1 (x + 25) = some (o_ 3 [.ref (x + 26), .ref (x + 27), .ref (x + 28), .ref (x + 29), .int (nI t), .int (i_6 9)]) := CfP.obj b_9
    refine z_iload_n B dX6_readTemplate_34 rfl 0 rfl ?_
    refine z_bipush (v := 9) B dX6_readTemplate_35 rfl ?_
    refine z_icmp_gt (tgt := 114) B dX6_readTemplate_37 rfl (fun c_2 => ?_) (fun c_2 => ?_)
    · have e_2 : 9 < i_1 := (nI_ltI (a := 9) (b := i_1) (by omega) (by omega)).mp c_2
      refine z_aload_n B dX6_readTemplate_114 rfl 2 rfl ?_
      refine z_iconst (v := 1) B dX6_readTemplate_115 rfl ?_
      refine z_callV (As := [.int 1]) (rest := []) B (s_X6_fail G l Φl1 sz x (ca) co po i_2 i_3 i_4 nu 1 hx hI2 b_11) (cwV 1 B.1.2.2.2.2 gX6_readTemplate_X6_fail rfl rfl rfl (by decide +kernel) ⟨Nat.le_of_ble_eq_true rfl, Nat.le_of_ble_eq_true rfl⟩) b_11 rfl rfl rfl rfl (Nat.le_of_ble_eq_true rfl) dX6_readTemplate_116 ⟨Nat.le_of_ble_eq_true rfl, Nat.le_of_ble_eq_true rfl⟩ (fun r_2 Φ2 sz2 st2 hp2 hs2 => ?_)
      obtain ⟨⟨rfl, h_6⟩, hq2, hI3, hF3⟩ := hp2
      subst sz2
      replace hs2 : st2 = [.int 0] := hs2
      subst st2
      replace hI3 : In G x (ca) Φ2 := hI3
      exact z_ret_z B dX6_readTemplate_119 (by decide) ⟨((show False by omega).elim), rfl, hI3, (fun b9 h9 => ((hF3 b9 (fun j9 h8 h7 => h9 j9 h8 (fq_565 j9 h7))).trans ((hF2 b9 h9).trans ((hF1 b9 (fun j9 h8 h7 => (show False from h7).elim)).trans rfl))))⟩
    · have e_3 : ¬ (9 < i_1) := fun h9 => c_2 ((nI_ltI (a := 9) (b := i_1) (by omega) (by omega)).mpr h9)
      refine z_aload_n B dX6_readTemplate_40 rfl 2 rfl ?_
      have h_7 : Φl1 (x + 1) = some (o_ 7 [.ref (x + 2), .int (nI n)]) := ((hF2 (x + 1) fq_575).trans ((hF1 (x + 1) (fun j9 h8 h7 => (show False from h7).elim)).trans hc0))
      have h_8 : Φl1 (x + 2) = some (ab_ G 700 f) := ((hF2 (x + 2) fq_576).trans ((hF1 (x + 2) (fun j9 h8 h7 => (show False from h7).elim)).trans hc1))
      refine z_callV (As := []) (rest := []) B (s_X6_nextToken G l Φl1 sz x (ca) n f co po i_2 i_3 i_4 nu hx hI2 h_7 h_8 b_11 (show n ≤ 700 by omega) (show i_2 ≤ n by omega)) (cwV 0 B.1.2.2.2.2 gX6_readTemplate_X6_nextToken rfl rfl rfl (by decide +kernel) ⟨Nat.le_of_ble_eq_true rfl, Nat.le_of_ble_eq_true rfl⟩) b_11 rfl rfl rfl rfl (Nat.le_of_ble_eq_true rfl) dX6_readTemplate_41 ⟨Nat.le_of_ble_eq_true rfl, Nat.le_of_ble_eq_true rfl⟩ (fun r_3 Φ3 sz3 st3 hp3 hs3 => ?_)
      obtain ⟨⟨rfl, k_1, s_1, e_4, h_9, hT1⟩, hq3, hI4, hF4⟩ := hp3
      subst sz3
      replace hs3 : st3 = [] := hs3
      subst st3
      replace hI4 : In G x (ca) Φ3 := hI4
      replace hT1 : Tk (bA f n) i_2 k_1 s_1 e_4 := hT1
      have b_12 : i_2 ≤ s_1 := (Tk_ok hT1 (by omega)).1
      have b_13 : s_1 ≤ e_4 := (Tk_ok hT1 (by omega)).2.1
      have b_14 : e_4 ≤ n := (Tk_ok hT1 (by omega)).2.2.1
      have b_15 : k_1 ≤ 5 := (Tk_ok hT1 (by omega)).2.2.2.1
      refine z_iload_n B dX6_readTemplate_44 rfl 0 rfl ?_
      refine z_if_le (tgt := 71) B dX6_readTemplate_45 rfl (fun c_3 => ?_) (fun c_3 => ?_)
      · have e_5 : i_1 ≤ 0 := (nI_leI (a := i_1) (b := 0) (by omega) (by omega)).mp c_3
        refine z_aload_n B dX6_readTemplate_71 rfl 2 rfl ?_
        refine z_ldcS (q := G.2.2.1 (6 + 1)) B B.2.2.2.2.1.2.2.2.2.2.2.2.2.2.2 dX6_readTemplate_72 ?_
        have h_10 : Φ3 (x + 1) = some (o_ 7 [.ref (x + 2), .int (nI n)]) := ((hF4 (x + 1) fq_545).trans h_7)
        have h_11 : Φ3 (x + 2) = some (ab_ G 700 f) := ((hF4 (x + 2) fq_549).trans h_8)
        refine z_callV (As := [.ref (G.2.2.1 (6 + 1))]) (rest := []) B (s_X6_wordIn G l Φ3 sz x (ca) n f co po e_4 k_1 s_1 nu 1 hx hI4 h_10 h_11 h_9 (show 1 < 2 by omega) (show k_1 ≤ 5 by omega) (show s_1 ≤ e_4 by omega) (show e_4 ≤ n by omega) (show n ≤ 700 by omega)) (cwV 1 B.1.2.2.2.2 gX6_readTemplate_X6_wordIn rfl rfl rfl (by decide +kernel) ⟨Nat.le_of_ble_eq_true rfl, Nat.le_of_ble_eq_true rfl⟩) h_9 rfl rfl rfl rfl (Nat.le_of_ble_eq_true rfl) dX6_readTemplate_74 ⟨Nat.le_of_ble_eq_true rfl, Nat.le_of_ble_eq_true rfl⟩ (fun r_4 Φ4 sz4 st4 hp4 hs4 => ?_)
        obtain ⟨rfl, hq4, hI5, hF5⟩ := hp4
        subst sz4
        replace hs4 : st4 = [.int (wd (Lw 1) (bA f n) k_1 s_1 e_4)] := hs4
        subst st4
        replace hI5 : In G x (ca) Φ4 := hI5
        refine z_istore_n (lv' := [(3, .int (wd (Lw 1) (bA f n) k_1 s_1 e_4)), (2, .int (nI i_1)), (1, .ref (x + (30 + 4 * t))), (0, .ref (x + 24))]) B dX6_readTemplate_77 rfl (Nat.le_of_ble_eq_true rfl) rfl ?_
        refine z_iload_n B dX6_readTemplate_78 rfl 0 rfl ?_
        refine z_iconst (v := (-1)) B dX6_readTemplate_79 rfl ?_
        refine z_icmp_ne (tgt := 89) B dX6_readTemplate_80 rfl (fun c_4 => ?_) (fun c_4 => ?_)
        · obtain ⟨n_1, b_16, e_6⟩ := wd_nat c_4
          replace b_16 : n_1 < 9 := b_16
          refine z_aload_n B dX6_readTemplate_89 rfl 2 rfl ?_
          refine z_iload_n B dX6_readTemplate_90 rfl 0 rfl ?_
          refine z_top (st1 := [.int (nI n_1), .ref (x + (30 + 4 * t))]) (congrArg (fun w9 : Int32 => ([.int w9, .ref (x + (30 + 4 * t))] : List Value)) (e_6)) ?_
          have h_12 : Φ4 (x + (30 + 4 * t)) = some (o_ 12 [.ref (x + (30 + 4 * t + 1)), .int (nI i_1), .int (nI i_5), .int (fB_ i_7 511 i_1)]) := ((hF5 (x + (30 + 4 * t)) (fun j9 h8 h7 => (show False from h7).elim)).trans ((hF4 (x + (30 + 4 * t)) (fun j9 h8 h7 => by have h6 : j9 = 24 := h7; omega)).trans h_3))
          refine z_callV (As := [.int (nI n_1)]) (rest := []) B (s_X10_hasE G l Φ4 sz x (ca) i_1 (nI i_5) (fB_ i_7 511 i_1) (30 + 4 * t) n_1 hx hI5 (kd_w (k := 28) rfl (show t < 4 by omega)) h_12 (show n_1 < 9 by omega)) (cwV 1 B.1.2.2.2.2 gX6_readTemplate_X10_has rfl rfl rfl (by decide +kernel) ⟨Nat.le_of_ble_eq_true rfl, Nat.le_of_ble_eq_true rfl⟩) h_12 rfl rfl rfl rfl (Nat.le_of_ble_eq_true rfl) dX6_readTemplate_91 ⟨Nat.le_of_ble_eq_true rfl, Nat.le_of_ble_eq_true rfl⟩ (fun r_5 Φ5 sz5 st5 hp5 hs5 => ?_)
          obtain ⟨ha1, hq5, hI6, hF6⟩ := hp5
          subst sz5
          replace hI6 : In G x (ca) Φ5 := hI6
          rcases ha1 with ⟨rfl, hB1⟩ | ⟨rfl, hB2⟩
          · replace hB1 : ((nI i_5) >>> (nI n_1 &&& 31)) &&& 1 = 1 := hB1
            replace hs5 : st5 = [.int 1] := hs5
            subst st5
            refine z_if_eq (tgt := 103) B dX6_readTemplate_94 rfl (fun h9 => absurd h9 (by decide)) (fun c_5 => ?_)
            refine z_aload_n B dX6_readTemplate_97 rfl 3 rfl ?_
            refine z_iconst (v := 3) B dX6_readTemplate_98 rfl ?_
            have h_13 : Φ5 (x + 24) = some (o_ 8 [.ref (x + 25), .int co, .int po, .ref (x + 1), .int (nI e_4), .int (nI k_1), .int (nI s_1), .int (nI nu)]) := ((hF6 (x + 24) (fun j9 h8 h7 => (show False from h7).elim)).trans ((hF5 (x + 24) (fun j9 h8 h7 => (show False from h7).elim)).trans h_9))
            refine z_callV (As := [.int 3]) (rest := []) B (s_X6_fail G l Φ5 sz x (ca) co po e_4 k_1 s_1 nu 3 hx hI6 h_13) (cwV 1 B.1.2.2.2.2 gX6_readTemplate_X6_fail rfl rfl rfl (by decide +kernel) ⟨Nat.le_of_ble_eq_true rfl, Nat.le_of_ble_eq_true rfl⟩) h_13 rfl rfl rfl rfl (Nat.le_of_ble_eq_true rfl) dX6_readTemplate_99 ⟨Nat.le_of_ble_eq_true rfl, Nat.le_of_ble_eq_true rfl⟩ (fun r_6 Φ6 sz6 st6 hp6 hs6 => ?_)
            obtain ⟨⟨rfl, h_14⟩, hq6, hI7, hF7⟩ := hp6
            subst sz6
            replace hs6 : st6 = [.int 0] := hs6
            subst st6
            replace hI7 : In G x (ca) Φ6 := hI7
            exact z_ret_z B dX6_readTemplate_102 (by decide) ⟨(Or.inr ⟨3, s_1, e_4, k_1, nu, i_6, rfl, (if_neg (fun h9 => by have h8 := (nI_eq (a := t) (b := 4) (by omega) (by omega)).mp (hcf0.1.symm.trans h9); omega)).trans ((tplF b_6 (by omega)).trans (tplA_3 hT1 (by omega) e_6 (nI_nm1x (by omega)) hB1)), by decide, h_14⟩), rfl, hI7, (fun b9 h9 => ((hF7 b9 (fun j9 h8 h7 => h9 j9 h8 (fq_565 j9 h7))).trans ((hF6 b9 (fun j9 h8 h7 => (show False from h7).elim)).trans ((hF5 b9 (fun j9 h8 h7 => (show False from h7).elim)).trans ((hF4 b9 (fun j9 h8 h7 => h9 j9 h8 (fq_565 j9 h7))).trans ((hF2 b9 h9).trans ((hF1 b9 (fun j9 h8 h7 => (show False from h7).elim)).trans rfl)))))))⟩
          · replace hB2 : ¬ ((nI i_5) >>> (nI n_1 &&& 31)) &&& 1 = 1 := hB2
            replace hs5 : st5 = [.int 0] := hs5
            subst st5
            refine z_if_eq (tgt := 103) B dX6_readTemplate_94 rfl (fun c_6 => ?_) (fun h9 => absurd (by decide) h9)
            have b_17 := (mskC (by omega) (by omega) hB2).2.2.2
            have b_18 := (mskC (by omega) (by omega) hB2).2.1
            refine z_aload_n B dX6_readTemplate_103 rfl 2 rfl ?_
            refine z_iload_n B dX6_readTemplate_104 rfl 0 rfl ?_
            refine z_top (st1 := [.int (nI n_1), .ref (x + (30 + 4 * t))]) (congrArg (fun w9 : Int32 => ([.int w9, .ref (x + (30 + 4 * t))] : List Value)) (e_6)) ?_
            have h_15 : Φ5 (x + (30 + 4 * t)) = some (o_ 12 [.ref (x + (30 + 4 * t + 1)), .int (nI i_1), .int (nI i_5), .int (fB_ i_7 511 i_1)]) := ((hF6 (x + (30 + 4 * t)) (fun j9 h8 h7 => (show False from h7).elim)).trans h_12)
            have h_16 : Φ5 (x + (30 + 4 * t + 1)) = some (ai_ G 9 i_7) := ((hF6 (x + (30 + 4 * t + 1)) (fun j9 h8 h7 => (show False from h7).elim)).trans ((hF5 (x + (30 + 4 * t + 1)) (fun j9 h8 h7 => (show False from h7).elim)).trans ((hF4 (x + (30 + 4 * t + 1)) (fun j9 h8 h7 => by have h6 : j9 = 24 := h7; omega)).trans h_4)))
            refine z_callV (As := [.int (nI n_1)]) (rest := []) B (s_X10_addFieldF G l Φ5 sz x (ca) i_1 (nI i_5) (fB_ i_7 511 i_1) i_7 (30 + 4 * t) n_1 hx hI6 (kd_w (k := 28) rfl (show t < 4 by omega)) h_15 h_16 (show n_1 < 9 by omega) (show i_1 < 9 by omega) hB2) (cwV 1 B.1.2.2.2.2 gX6_readTemplate_X10_addField rfl rfl rfl (by decide +kernel) ⟨Nat.le_of_ble_eq_true rfl, Nat.le_of_ble_eq_true rfl⟩) h_15 rfl rfl rfl rfl (Nat.le_of_ble_eq_true rfl) dX6_readTemplate_105 ⟨Nat.le_of_ble_eq_true rfl, Nat.le_of_ble_eq_true rfl⟩ (fun r_7 Φ7 sz7 st7 hp7 hs7 => ?_)
            obtain ⟨⟨rfl, h_17, h_18⟩, hq7, hI8, hF8⟩ := hp7
            subst sz7
            replace hs7 : st7 = [] := hs7
            subst st7
            replace hI8 : In G x (ca) Φ7 := hI8
            refine z_iinc (k := 1) (v := nI (i_1 + 1)) (lv' := [(2, .int (nI (i_1 + 1))), (3, .int (wd (Lw 1) (bA f n) k_1 s_1 e_4)), (1, .ref (x + (30 + 4 * t))), (0, .ref (x + 24))]) B dX6_readTemplate_108 rfl (nI_add i_1 1) (Nat.le_of_ble_eq_true rfl) rfl ?_
            refine z_goto (tgt := 34) B dX6_readTemplate_111 rfl ?_
            have h_19 : Φ7 (x + 24) = some (o_ 8 [.ref (x + 25), .int co, .int po, .ref (x + 1), .int (nI e_4), .int (nI k_1), .int (nI s_1), .int (nI nu)]) := ((hF8 (x + 24) (fun j9 h8 h7 => by have h6 : j9 = (30 + 4 * t) ∨ j9 = (30 + 4 * t) + 1 := h7; omega)).trans ((hF6 (x + 24) (fun j9 h8 h7 => (show False from h7).elim)).trans ((hF5 (x + 24) (fun j9 h8 h7 => (show False from h7).elim)).trans h_9)))
            refine z_lv [0, 2, 3] rfl ?_
            have hcg4 : CfP G x 25 t t i_6 Φ7 := (CfP.fr (CfP.fr (CfP.fr (CfP.fr b_9 hF4 (fun j9 h7 => by have h6 : j9 = 24 := h7; intros; omega)) hF5 (fun j9 h7 => (show False from h7).elim)) hF6 (fun j9 h7 => (show False from h7).elim)) hF8 (fun j9 h7 => by have h6 : j9 = (30 + 4 * t) ∨ j9 = (30 + 4 * t) + 1 := h7; intros; omega))
            exact ih1 (i_1 + 1, e_4, k_1, s_1, i_5 + 2 ^ n_1, (upd i_6 (15 + 9 * (i_6 10).toNatClampNeg + i_1) (nI n_1)), (upd i_7 i_1 (nI n_1))) Φ7 (show 10 - (i_1 + 1) < 10 - i_1 by omega) ⟨hI8, (fun b9 h9 => ((hF8 b9 (fun j9 h8 h7 => h9 j9 h8 (show 24 ≤ j9 ∧ j9 < 46 by have h6 : j9 = (30 + 4 * t) ∨ j9 = (30 + 4 * t) + 1 := h7; omega))).trans ((hF6 b9 (fun j9 h8 h7 => (show False from h7).elim)).trans ((hF5 b9 (fun j9 h8 h7 => (show False from h7).elim)).trans ((hF4 b9 (fun j9 h8 h7 => h9 j9 h8 (fq_565 j9 h7))).trans ((hF2 b9 h9).trans rfl)))))), (show (i_1 + 1) ≤ 9 by omega), (show nx ≤ e_4 ∧ e_4 ≤ n by omega), (show (i_5 + 2 ^ n_1) < 512 by omega), (show s_1 ≤ e_4 by omega), (show (i_1 + 1) = pcN (i_5 + 2 ^ n_1) from (by have h9 := (mskC (by omega) (by omega) hB2).2.2.1; omega)), (tplS b_6 (by omega) hT1 (by omega) e_6 (by omega) hB2 (by omega)), (CfU.add (k := 25) (w := t) hd1 b_7 (by omega) (by omega) hB2 h_17 h_18).2, (fldf hcg4.1 (by omega) b_8), (CfP.fld hcg4 (by omega) (by omega)), (CfU.add (k := 25) (w := t) hd1 b_7 (by omega) (by omega) hB2 h_17 h_18).1, h_19, trivial⟩
        · refine z_aload_n B dX6_readTemplate_83 rfl 3 rfl ?_
          refine z_iconst (v := 1) B dX6_readTemplate_84 rfl ?_
          have h_20 : Φ4 (x + 24) = some (o_ 8 [.ref (x + 25), .int co, .int po, .ref (x + 1), .int (nI e_4), .int (nI k_1), .int (nI s_1), .int (nI nu)]) := ((hF5 (x + 24) (fun j9 h8 h7 => (show False from h7).elim)).trans h_9)
          refine z_callV (As := [.int 1]) (rest := []) B (s_X6_fail G l Φ4 sz x (ca) co po e_4 k_1 s_1 nu 1 hx hI5 h_20) (cwV 1 B.1.2.2.2.2 gX6_readTemplate_X6_fail rfl rfl rfl (by decide +kernel) ⟨Nat.le_of_ble_eq_true rfl, Nat.le_of_ble_eq_true rfl⟩) h_20 rfl rfl rfl rfl (Nat.le_of_ble_eq_true rfl) dX6_readTemplate_85 ⟨Nat.le_of_ble_eq_true rfl, Nat.le_of_ble_eq_true rfl⟩ (fun r_8 Φ8 sz8 st8 hp8 hs8 => ?_)
          obtain ⟨⟨rfl, h_21⟩, hq8, hI9, hF9⟩ := hp8
          subst sz8
          replace hs8 : st8 = [.int 0] := hs8
          subst st8
          replace hI9 : In G x (ca) Φ8 := hI9
          exact z_ret_z B dX6_readTemplate_88 (by decide) ⟨(Or.inr ⟨1, s_1, e_4, k_1, nu, i_6, rfl, (if_neg (fun h9 => by have h8 := (nI_eq (a := t) (b := 4) (by omega) (by omega)).mp (hcf0.1.symm.trans h9); omega)).trans ((tplF b_6 (by omega)).trans (tplA_1 hT1 (by omega) c_4)), by decide, h_21⟩), rfl, hI9, (fun b9 h9 => ((hF9 b9 (fun j9 h8 h7 => h9 j9 h8 (fq_565 j9 h7))).trans ((hF5 b9 (fun j9 h8 h7 => (show False from h7).elim)).trans ((hF4 b9 (fun j9 h8 h7 => h9 j9 h8 (fq_565 j9 h7))).trans ((hF2 b9 h9).trans ((hF1 b9 (fun j9 h8 h7 => (show False from h7).elim)).trans rfl))))))⟩
      · have e_7 : ¬ (i_1 ≤ 0) := fun h9 => c_3 ((nI_leI (a := i_1) (b := 0) (by omega) (by omega)).mpr h9)
        refine z_aload_n B dX6_readTemplate_48 rfl 2 rfl ?_
        refine z_get (ref := "FlowExporter$Parser") (C := RX6) (T := TX6) (N := 8) (ci := 8) (v := .int (nI k_1)) B hu_X6_readTemplate_X6 rfl 5 (Nat.le_of_ble_eq_true rfl) hv_X6_readTemplate_28 rfl h_9 rfl dX6_readTemplate_49 ?_
        refine z_iconst (v := 4) B dX6_readTemplate_52 rfl ?_
        refine z_icmp_ne (tgt := 71) B dX6_readTemplate_53 rfl (fun c_7 => ?_) (fun c_7 => ?_)
        · have e_8 : ¬ (k_1 = 4) := fun h9 => c_7 ((nI_eq (a := k_1) (b := 4) (by omega) (by omega)).mpr h9)
          refine z_aload_n B dX6_readTemplate_71 rfl 2 rfl ?_
          refine z_ldcS (q := G.2.2.1 (6 + 1)) B B.2.2.2.2.1.2.2.2.2.2.2.2.2.2.2 dX6_readTemplate_72 ?_
          have h_22 : Φ3 (x + 1) = some (o_ 7 [.ref (x + 2), .int (nI n)]) := ((hF4 (x + 1) fq_545).trans h_7)
          have h_23 : Φ3 (x + 2) = some (ab_ G 700 f) := ((hF4 (x + 2) fq_549).trans h_8)
          refine z_callV (As := [.ref (G.2.2.1 (6 + 1))]) (rest := []) B (s_X6_wordIn G l Φ3 sz x (ca) n f co po e_4 k_1 s_1 nu 1 hx hI4 h_22 h_23 h_9 (show 1 < 2 by omega) (show k_1 ≤ 5 by omega) (show s_1 ≤ e_4 by omega) (show e_4 ≤ n by omega) (show n ≤ 700 by omega)) (cwV 1 B.1.2.2.2.2 gX6_readTemplate_X6_wordIn rfl rfl rfl (by decide +kernel) ⟨Nat.le_of_ble_eq_true rfl, Nat.le_of_ble_eq_true rfl⟩) h_9 rfl rfl rfl rfl (Nat.le_of_ble_eq_true rfl) dX6_readTemplate_74 ⟨Nat.le_of_ble_eq_true rfl, Nat.le_of_ble_eq_true rfl⟩ (fun r_9 Φ9 sz9 st9 hp9 hs9 => ?_)
          obtain ⟨rfl, hq9, hI10, hF10⟩ := hp9
          subst sz9
          replace hs9 : st9 = [.int (wd (Lw 1) (bA f n) k_1 s_1 e_4)] := hs9
          subst st9
          replace hI10 : In G x (ca) Φ9 := hI10
          refine z_istore_n (lv' := [(3, .int (wd (Lw 1) (bA f n) k_1 s_1 e_4)), (2, .int (nI i_1)), (1, .ref (x + (30 + 4 * t))), (0, .ref (x + 24))]) B dX6_readTemplate_77 rfl (Nat.le_of_ble_eq_true rfl) rfl ?_
          refine z_iload_n B dX6_readTemplate_78 rfl 0 rfl ?_
          refine z_iconst (v := (-1)) B dX6_readTemplate_79 rfl ?_
          refine z_icmp_ne (tgt := 89) B dX6_readTemplate_80 rfl (fun c_8 => ?_) (fun c_8 => ?_)
          · obtain ⟨n_2, b_19, e_9⟩ := wd_nat c_8
            replace b_19 : n_2 < 9 := b_19
            refine z_aload_n B dX6_readTemplate_89 rfl 2 rfl ?_
            refine z_iload_n B dX6_readTemplate_90 rfl 0 rfl ?_
            refine z_top (st1 := [.int (nI n_2), .ref (x + (30 + 4 * t))]) (congrArg (fun w9 : Int32 => ([.int w9, .ref (x + (30 + 4 * t))] : List Value)) (e_9)) ?_
            have h_24 : Φ9 (x + (30 + 4 * t)) = some (o_ 12 [.ref (x + (30 + 4 * t + 1)), .int (nI i_1), .int (nI i_5), .int (fB_ i_7 511 i_1)]) := ((hF10 (x + (30 + 4 * t)) (fun j9 h8 h7 => (show False from h7).elim)).trans ((hF4 (x + (30 + 4 * t)) (fun j9 h8 h7 => by have h6 : j9 = 24 := h7; omega)).trans h_3))
            refine z_callV (As := [.int (nI n_2)]) (rest := []) B (s_X10_hasE G l Φ9 sz x (ca) i_1 (nI i_5) (fB_ i_7 511 i_1) (30 + 4 * t) n_2 hx hI10 (kd_w (k := 28) rfl (show t < 4 by omega)) h_24 (show n_2 < 9 by omega)) (cwV 1 B.1.2.2.2.2 gX6_readTemplate_X10_has rfl rfl rfl (by decide +kernel) ⟨Nat.le_of_ble_eq_true rfl, Nat.le_of_ble_eq_true rfl⟩) h_24 rfl rfl rfl rfl (Nat.le_of_ble_eq_true rfl) dX6_readTemplate_91 ⟨Nat.le_of_ble_eq_true rfl, Nat.le_of_ble_eq_true rfl⟩ (fun r_10 Φ10 sz10 st10 hp10 hs10 => ?_)
            obtain ⟨ha2, hq10, hI11, hF11⟩ := hp10
            subst sz10
            replace hI11 : In G x (ca) Φ10 := hI11
            rcases ha2 with ⟨rfl, hB3⟩ | ⟨rfl, hB4⟩
            · replace hB3 : ((nI i_5) >>> (nI n_2 &&& 31)) &&& 1 = 1 := hB3
              replace hs10 : st10 = [.int 1] := hs10
              subst st10
              refine z_if_eq (tgt := 103) B dX6_readTemplate_94 rfl (fun h9 => absurd h9 (by decide)) (fun c_9 => ?_)
              refine z_aload_n B dX6_readTemplate_97 rfl 3 rfl ?_
              refine z_iconst (v := 3) B dX6_readTemplate_98 rfl ?_
              have h_25 : Φ10 (x + 24) = some (o_ 8 [.ref (x + 25), .int co, .int po, .ref (x + 1), .int (nI e_4), .int (nI k_1), .int (nI s_1), .int (nI nu)]) := ((hF11 (x + 24) (fun j9 h8 h7 => (show False from h7).elim)).trans ((hF10 (x + 24) (fun j9 h8 h7 => (show False from h7).elim)).trans h_9))
              refine z_callV (As := [.int 3]) (rest := []) B (s_X6_fail G l Φ10 sz x (ca) co po e_4 k_1 s_1 nu 3 hx hI11 h_25) (cwV 1 B.1.2.2.2.2 gX6_readTemplate_X6_fail rfl rfl rfl (by decide +kernel) ⟨Nat.le_of_ble_eq_true rfl, Nat.le_of_ble_eq_true rfl⟩) h_25 rfl rfl rfl rfl (Nat.le_of_ble_eq_true rfl) dX6_readTemplate_99 ⟨Nat.le_of_ble_eq_true rfl, Nat.le_of_ble_eq_true rfl⟩ (fun r_11 Φ11 sz11 st11 hp11 hs11 => ?_)
              obtain ⟨⟨rfl, h_26⟩, hq11, hI12, hF12⟩ := hp11
              subst sz11
              replace hs11 : st11 = [.int 0] := hs11
              subst st11
              replace hI12 : In G x (ca) Φ11 := hI12
              exact z_ret_z B dX6_readTemplate_102 (by decide) ⟨(Or.inr ⟨3, s_1, e_4, k_1, nu, i_6, rfl, (if_neg (fun h9 => by have h8 := (nI_eq (a := t) (b := 4) (by omega) (by omega)).mp (hcf0.1.symm.trans h9); omega)).trans ((tplF b_6 (by omega)).trans (tplA_3 hT1 (by omega) e_9 (nI_nm1x (by omega)) hB3)), by decide, h_26⟩), rfl, hI12, (fun b9 h9 => ((hF12 b9 (fun j9 h8 h7 => h9 j9 h8 (fq_565 j9 h7))).trans ((hF11 b9 (fun j9 h8 h7 => (show False from h7).elim)).trans ((hF10 b9 (fun j9 h8 h7 => (show False from h7).elim)).trans ((hF4 b9 (fun j9 h8 h7 => h9 j9 h8 (fq_565 j9 h7))).trans ((hF2 b9 h9).trans ((hF1 b9 (fun j9 h8 h7 => (show False from h7).elim)).trans rfl)))))))⟩
            · replace hB4 : ¬ ((nI i_5) >>> (nI n_2 &&& 31)) &&& 1 = 1 := hB4
              replace hs10 : st10 = [.int 0] := hs10
              subst st10
              refine z_if_eq (tgt := 103) B dX6_readTemplate_94 rfl (fun c_10 => ?_) (fun h9 => absurd (by decide) h9)
              have b_20 := (mskC (by omega) (by omega) hB4).2.2.2
              have b_21 := (mskC (by omega) (by omega) hB4).2.1
              refine z_aload_n B dX6_readTemplate_103 rfl 2 rfl ?_
              refine z_iload_n B dX6_readTemplate_104 rfl 0 rfl ?_
              refine z_top (st1 := [.int (nI n_2), .ref (x + (30 + 4 * t))]) (congrArg (fun w9 : Int32 => ([.int w9, .ref (x + (30 + 4 * t))] : List Value)) (e_9)) ?_
              have h_27 : Φ10 (x + (30 + 4 * t)) = some (o_ 12 [.ref (x + (30 + 4 * t + 1)), .int (nI i_1), .int (nI i_5), .int (fB_ i_7 511 i_1)]) := ((hF11 (x + (30 + 4 * t)) (fun j9 h8 h7 => (show False from h7).elim)).trans h_24)
              have h_28 : Φ10 (x + (30 + 4 * t + 1)) = some (ai_ G 9 i_7) := ((hF11 (x + (30 + 4 * t + 1)) (fun j9 h8 h7 => (show False from h7).elim)).trans ((hF10 (x + (30 + 4 * t + 1)) (fun j9 h8 h7 => (show False from h7).elim)).trans ((hF4 (x + (30 + 4 * t + 1)) (fun j9 h8 h7 => by have h6 : j9 = 24 := h7; omega)).trans h_4)))
              refine z_callV (As := [.int (nI n_2)]) (rest := []) B (s_X10_addFieldF G l Φ10 sz x (ca) i_1 (nI i_5) (fB_ i_7 511 i_1) i_7 (30 + 4 * t) n_2 hx hI11 (kd_w (k := 28) rfl (show t < 4 by omega)) h_27 h_28 (show n_2 < 9 by omega) (show i_1 < 9 by omega) hB4) (cwV 1 B.1.2.2.2.2 gX6_readTemplate_X10_addField rfl rfl rfl (by decide +kernel) ⟨Nat.le_of_ble_eq_true rfl, Nat.le_of_ble_eq_true rfl⟩) h_27 rfl rfl rfl rfl (Nat.le_of_ble_eq_true rfl) dX6_readTemplate_105 ⟨Nat.le_of_ble_eq_true rfl, Nat.le_of_ble_eq_true rfl⟩ (fun r_12 Φ12 sz12 st12 hp12 hs12 => ?_)
              obtain ⟨⟨rfl, h_29, h_30⟩, hq12, hI13, hF13⟩ := hp12
              subst sz12
              replace hs12 : st12 = [] := hs12
              subst st12
              replace hI13 : In G x (ca) Φ12 := hI13
              refine z_iinc (k := 1) (v := nI (i_1 + 1)) (lv' := [(2, .int (nI (i_1 + 1))), (3, .int (wd (Lw 1) (bA f n) k_1 s_1 e_4)), (1, .ref (x + (30 + 4 * t))), (0, .ref (x + 24))]) B dX6_readTemplate_108 rfl (nI_add i_1 1) (Nat.le_of_ble_eq_true rfl) rfl ?_
              refine z_goto (tgt := 34) B dX6_readTemplate_111 rfl ?_
              have h_31 : Φ12 (x + 24) = some (o_ 8 [.ref (x + 25), .int co, .int po, .ref (x + 1), .int (nI e_4), .int (nI k_1), .int (nI s_1), .int (nI nu)]) := ((hF13 (x + 24) (fun j9 h8 h7 => by have h6 : j9 = (30 + 4 * t) ∨ j9 = (30 + 4 * t) + 1 := h7; omega)).trans ((hF11 (x + 24) (fun j9 h8 h7 => (show False from h7).elim)).trans ((hF10 (x + 24) (fun j9 h8 h7 => (show False from h7).elim)).trans h_9)))
              refine z_lv [0, 2, 3] rfl ?_
              have hcg5 : CfP G x 25 t t i_6 Φ12 := (CfP.fr (CfP.fr (CfP.fr (CfP.fr b_9 hF4 (fun j9 h7 => by have h6 : j9 = 24 := h7; intros; omega)) hF10 (fun j9 h7 => (show False from h7).elim)) hF11 (fun j9 h7 => (show False from h7).elim)) hF13 (fun j9 h7 => by have h6 : j9 = (30 + 4 * t) ∨ j9 = (30 + 4 * t) + 1 := h7; intros; omega))
              exact ih1 (i_1 + 1, e_4, k_1, s_1, i_5 + 2 ^ n_2, (upd i_6 (15 + 9 * (i_6 10).toNatClampNeg + i_1) (nI n_2)), (upd i_7 i_1 (nI n_2))) Φ12 (show 10 - (i_1 + 1) < 10 - i_1 by omega) ⟨hI13, (fun b9 h9 => ((hF13 b9 (fun j9 h8 h7 => h9 j9 h8 (show 24 ≤ j9 ∧ j9 < 46 by have h6 : j9 = (30 + 4 * t) ∨ j9 = (30 + 4 * t) + 1 := h7; omega))).trans ((hF11 b9 (fun j9 h8 h7 => (show False from h7).elim)).trans ((hF10 b9 (fun j9 h8 h7 => (show False from h7).elim)).trans ((hF4 b9 (fun j9 h8 h7 => h9 j9 h8 (fq_565 j9 h7))).trans ((hF2 b9 h9).trans rfl)))))), (show (i_1 + 1) ≤ 9 by omega), (show nx ≤ e_4 ∧ e_4 ≤ n by omega), (show (i_5 + 2 ^ n_2) < 512 by omega), (show s_1 ≤ e_4 by omega), (show (i_1 + 1) = pcN (i_5 + 2 ^ n_2) from (by have h9 := (mskC (by omega) (by omega) hB4).2.2.1; omega)), (tplS b_6 (by omega) hT1 (by omega) e_9 (by omega) hB4 (by omega)), (CfU.add (k := 25) (w := t) hd1 b_7 (by omega) (by omega) hB4 h_29 h_30).2, (fldf hcg5.1 (by omega) b_8), (CfP.fld hcg5 (by omega) (by omega)), (CfU.add (k := 25) (w := t) hd1 b_7 (by omega) (by omega) hB4 h_29 h_30).1, h_31, trivial⟩
          · refine z_aload_n B dX6_readTemplate_83 rfl 3 rfl ?_
            refine z_iconst (v := 1) B dX6_readTemplate_84 rfl ?_
            have h_32 : Φ9 (x + 24) = some (o_ 8 [.ref (x + 25), .int co, .int po, .ref (x + 1), .int (nI e_4), .int (nI k_1), .int (nI s_1), .int (nI nu)]) := ((hF10 (x + 24) (fun j9 h8 h7 => (show False from h7).elim)).trans h_9)
            refine z_callV (As := [.int 1]) (rest := []) B (s_X6_fail G l Φ9 sz x (ca) co po e_4 k_1 s_1 nu 1 hx hI10 h_32) (cwV 1 B.1.2.2.2.2 gX6_readTemplate_X6_fail rfl rfl rfl (by decide +kernel) ⟨Nat.le_of_ble_eq_true rfl, Nat.le_of_ble_eq_true rfl⟩) h_32 rfl rfl rfl rfl (Nat.le_of_ble_eq_true rfl) dX6_readTemplate_85 ⟨Nat.le_of_ble_eq_true rfl, Nat.le_of_ble_eq_true rfl⟩ (fun r_13 Φ13 sz13 st13 hp13 hs13 => ?_)
            obtain ⟨⟨rfl, h_33⟩, hq13, hI14, hF14⟩ := hp13
            subst sz13
            replace hs13 : st13 = [.int 0] := hs13
            subst st13
            replace hI14 : In G x (ca) Φ13 := hI14
            exact z_ret_z B dX6_readTemplate_88 (by decide) ⟨(Or.inr ⟨1, s_1, e_4, k_1, nu, i_6, rfl, (if_neg (fun h9 => by have h8 := (nI_eq (a := t) (b := 4) (by omega) (by omega)).mp (hcf0.1.symm.trans h9); omega)).trans ((tplF b_6 (by omega)).trans (tplA_1 hT1 (by omega) c_8)), by decide, h_33⟩), rfl, hI14, (fun b9 h9 => ((hF14 b9 (fun j9 h8 h7 => h9 j9 h8 (fq_565 j9 h7))).trans ((hF10 b9 (fun j9 h8 h7 => (show False from h7).elim)).trans ((hF4 b9 (fun j9 h8 h7 => h9 j9 h8 (fq_565 j9 h7))).trans ((hF2 b9 h9).trans ((hF1 b9 (fun j9 h8 h7 => (show False from h7).elim)).trans rfl))))))⟩
        · have e_10 : k_1 = 4 := (nI_eq (a := k_1) (b := 4) (by omega) (by omega)).mp c_7
          have hcg6 : CfP G x 25 t t i_6 Φ3 := (CfP.fr b_9 hF4 (fun j9 h7 => by have h6 : j9 = 24 := h7; intros; omega))
          have hcg7 : CfU G x 25 t i_1 i_7 Φ3 := (CfU.fr b_10 hF4 (fun j9 h7 => by have h6 : j9 = 24 := h7; intros; omega))
          have h_34 : Φ3 (x + 25) = some (o_ 3 [.ref (x + 26), .ref (x + 27), .ref (x + 28), .ref (x + 29), .int (nI t), .int (i_6 9)]) := ((hF4 (x + 25) fq_578).trans h_5)
          refine z_aload_n B dX6_readTemplate_56 rfl 2 rfl ?_
          refine z_get (ref := "FlowExporter$Parser") (C := RX6) (T := TX6) (N := 8) (ci := 8) (v := .ref (x + 25)) B hu_X6_readTemplate_X6 rfl 0 (Nat.le_of_ble_eq_true rfl) hv_X6_readTemplate_12 rfl h_9 rfl dX6_readTemplate_57 ?_
          refine z_dup B dX6_readTemplate_60 rfl ?_
          refine z_get (ref := "FlowExporter$Config") (C := RX1) (T := TX1) (N := 6) (ci := 3) (v := .int (nI t)) B hu_X6_readTemplate_X1 rfl 4 (Nat.le_of_ble_eq_true rfl) hv_X6_readTemplate_47 rfl h_34 rfl dX6_readTemplate_61 ?_
          refine z_iconst (v := 1) B dX6_readTemplate_64 rfl ?_
          refine z_iadd B dX6_readTemplate_65 ?_
          refine z_top (st1 := [.int (nI (t + 1)), .ref (x + 25)]) (congrArg (fun w9 : Int32 => ([.int w9, .ref (x + 25)] : List Value)) (nI_add t 1)) ?_
          refine z_put (ref := "FlowExporter$Config") (C := RX1) (T := TX1) (N := 6) (ci := 3) (v := .int (nI (t + 1))) B hu_X6_readTemplate_X1 tyX1 tyX1_ok nmX1 rfl 4 (Nat.le_of_ble_eq_true rfl) hv_X6_readTemplate_47 rfl (Or.inl rfl) h_34 (Nat.le_trans hx (Nat.le_add_right x 25)) rfl rfl (Nat.le_of_ble_eq_true rfl) dX6_readTemplate_66 (fun Φ14 hΦ1 => ?_)
          have h_35 : Φ14 (x + 25) = some (o_ 3 [.ref (x + 26), .ref (x + 27), .ref (x + 28), .ref (x + 29), .int (nI (t + 1)), .int (i_6 9)]) := fset_at hΦ1
          have hI15 : In G x (ca) Φ14 := In.put (k := 25) hI4 hΦ1 (ok3 (k := 25) rfl ⟨nI (t + 1), i_6 9, rfl⟩)
          refine z_iconst (v := 1) B dX6_readTemplate_69 rfl ?_
          have ek9 : k_1 = 4 := by omega
          have hT9 := ek9 ▸ hT1
          have hl9 := (Tk_ok hT1 (by omega)).2.2.2.2.2.2 (by omega)
          have h_36 : Φ14 (x + 24) = some (o_ 8 [.ref (x + 25), .int co, .int po, .ref (x + 1), .int (nI e_4), .int (nI k_1), .int (nI s_1), .int (nI nu)]) := ((fset_fr hΦ1 (ne_off (x := x) (i := 24) (j := 25) rfl)).trans h_9)
          exact z_ret_z B dX6_readTemplate_70 (by decide) ⟨(Or.inl ⟨e_4, k_1, s_1, nu, t + 1, upd (upd i_6 (11 + (i_6 10).toNatClampNeg) (nI i_1)) 10 (i_6 10 + 1), rfl, (if_neg (fun h9 => by have h8 := (nI_eq (a := t) (b := 4) (by omega) (by omega)).mp (hcf0.1.symm.trans h9); omega)).trans ((tplF b_6 (by omega)).trans (tplA_0 hT9 (by omega))), h_36, by omega, by omega, by omega, by omega, by omega, CfP.close (k := 25) hcg6 hcg7 (by omega) (by omega) (by omega) b_8 hΦ1⟩), rfl, hI15, (fun b9 h9 => ((fset_fr hΦ1 (fun h8 => h9 (25) h8 (show 24 ≤ 25 ∧ 25 < 46 by decide))).trans ((hF4 b9 (fun j9 h8 h7 => h9 j9 h8 (fq_565 j9 h7))).trans ((hF2 b9 h9).trans ((hF1 b9 (fun j9 h8 h7 => (show False from h7).elim)).trans rfl)))))⟩
  · have e_11 : ¬ (t < 4) := fun h9 => c_1 ((nI_ltI (a := t) (b := 4) (by omega) (by omega)).mpr h9)
    refine z_aload_n B dX6_readTemplate_11 rfl 0 rfl ?_
    refine z_iconst (v := 4) B dX6_readTemplate_12 rfl ?_
    refine z_callV (As := [.int 4]) (rest := []) B (s_X6_fail G l Φ sz x (ca) co po nx ki sa nu 4 hx hI hc2) (cwV 1 B.1.2.2.2.2 gX6_readTemplate_X6_fail rfl rfl rfl (by decide +kernel) ⟨Nat.le_of_ble_eq_true rfl, Nat.le_of_ble_eq_true rfl⟩) hc2 rfl rfl rfl rfl (Nat.le_of_ble_eq_true rfl) dX6_readTemplate_13 ⟨Nat.le_of_ble_eq_true rfl, Nat.le_of_ble_eq_true rfl⟩ (fun r_14 Φ15 sz14 st14 hp14 hs14 => ?_)
    obtain ⟨⟨rfl, h_37⟩, hq14, hI16, hF15⟩ := hp14
    subst sz14
    replace hs14 : st14 = [.int 0] := hs14
    subst st14
    replace hI16 : In G x (ca) Φ15 := hI16
    exact z_ret_z B dX6_readTemplate_16 (by decide) ⟨(Or.inr ⟨4, sa, nx, ki, nu, c, rfl, if_pos (hcf0.1.trans (show nI t = 4 by rw [show t = 4 by omega]; rfl)), by decide, h_37⟩), rfl, hI16, (fun b9 h9 => ((hF15 b9 (fun j9 h8 h7 => h9 j9 h8 (fq_565 j9 h7))).trans rfl))⟩

theorem hu_X6_readUse_X6 : ∀ w ∈ u_ws RX6 TX6 8, w ∈ wsX6_readUse := fun _ h => List.mem_cons_of_mem _ (List.mem_append_left _ (List.mem_append_left _ (List.mem_append_left _ (List.mem_append_right _ (h)))))

theorem hv_X6_readUse_34 : Cond.fieldLink RX6 34 "FlowExporter$Parser" (TX6 7).2.1 (TX6 7).2.2.1 ∈ wsX6_readUse := List.mem_cons_of_mem _ (List.mem_append_left _ (List.mem_append_left _ (List.mem_append_left _ (List.mem_append_left _ (List.mem_append_left _ (List.mem_of_getElem? (i := 0) rfl))))))

theorem hv_X6_readUse_12 : Cond.fieldLink RX6 12 "FlowExporter$Parser" (TX6 0).2.1 (TX6 0).2.2.1 ∈ wsX6_readUse := List.mem_cons_of_mem _ (List.mem_append_left _ (List.mem_append_left _ (List.mem_append_left _ (List.mem_append_left _ (List.mem_append_left _ (List.mem_of_getElem? (i := 1) rfl))))))

theorem hu_X6_readUse_X1 : ∀ w ∈ u_ws RX1 TX1 6, w ∈ wsX6_readUse := fun _ h => List.mem_cons_of_mem _ (List.mem_append_left _ (List.mem_append_left _ (List.mem_append_right _ (h))))

theorem hv_X6_readUse_47 : Cond.fieldLink RX6 47 "FlowExporter$Config" (TX1 4).2.1 (TX1 4).2.2.1 ∈ wsX6_readUse := List.mem_cons_of_mem _ (List.mem_append_left _ (List.mem_append_left _ (List.mem_append_left _ (List.mem_append_left _ (List.mem_append_left _ (List.mem_of_getElem? (i := 2) rfl))))))

theorem fq_584 {x : Nat} : ∀ j9 : Nat, x + 1 = x + j9 → (j9 = 27) → False := by
  intro j9 h1 h2
  omega

theorem fq_585 {x : Nat} : ∀ j9 : Nat, x + 2 = x + j9 → (j9 = 27) → False := by
  intro j9 h1 h2
  omega

theorem fq_586 {x : Nat} : ∀ j9 : Nat, x + 24 = x + j9 → (j9 = 27) → False := by
  intro j9 h1 h2
  omega

theorem fq_587 : ∀ j9 : Nat, (j9 = 27) → (24 ≤ j9 ∧ j9 < 46) := by
  intro j9 h
  omega

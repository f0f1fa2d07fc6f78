set_option maxRecDepth 20000 in
theorem ggX1_clear_J7_fill_53178 : GoodIn wsX1_clear wsJ7_fill_53178 := goodIn_r _ [13] (by decide +kernel) (by decide +kernel)
set_option maxRecDepth 20000 in
theorem gX1_clear_J7_fill_53178 : GoodIn wsX1_clear (va_wsS RX1 44 yJ7_fill_53178 wsJ7_fill_53178) := goodIn_app (goodIn_of _ (by decide +kernel)) ggX1_clear_J7_fill_53178
set_option maxRecDepth 20000 in
theorem ggX1_clear_X10_clear : GoodIn wsX1_clear wsX10_clear := goodIn_r _ [18, 19, 20, 21, 28, 29, 30, 31] (by decide +kernel) (by decide +kernel)
set_option maxRecDepth 20000 in
theorem gX1_clear_X10_clear : GoodIn wsX1_clear (wsV RX1 50 RX10 yX10_clear wsX10_clear) := goodIn_app (goodIn_of _ (by decide +kernel)) ggX1_clear_X10_clear
theorem dX1_clear_0 : decode cX1_clear 0 = .ok (.getstatic 35, 3) := by decide +kernel
theorem dX1_clear_3 : decode cX1_clear 3 = .ok (.iconst 0, 1) := by decide +kernel
theorem dX1_clear_4 : decode cX1_clear 4 = .ok (.aload_n 0, 1) := by decide +kernel
theorem dX1_clear_5 : decode cX1_clear 5 = .ok (.getfield 9, 3) := by decide +kernel
theorem dX1_clear_8 : decode cX1_clear 8 = .ok (.iconst 0, 1) := by decide +kernel
theorem dX1_clear_9 : decode cX1_clear 9 = .ok (.bipush 9, 2) := by decide +kernel
theorem dX1_clear_11 : decode cX1_clear 11 = .ok (.invokestatic 38, 3) := by decide +kernel
theorem dX1_clear_14 : decode cX1_clear 14 = .ok (.aload_n 0, 1) := by decide +kernel
theorem dX1_clear_15 : decode cX1_clear 15 = .ok (.getfield 15, 3) := by decide +kernel
theorem dX1_clear_18 : decode cX1_clear 18 = .ok (.iconst 0, 1) := by decide +kernel
theorem dX1_clear_19 : decode cX1_clear 19 = .ok (.invokestatic 44, 3) := by decide +kernel
theorem dX1_clear_22 : decode cX1_clear 22 = .ok (.iconst 0, 1) := by decide +kernel
theorem dX1_clear_23 : decode cX1_clear 23 = .ok (.istore_n 1, 1) := by decide +kernel
theorem dX1_clear_24 : decode cX1_clear 24 = .ok (.iload_n 1, 1) := by decide +kernel
theorem dX1_clear_25 : decode cX1_clear 25 = .ok (.iconst 4, 1) := by decide +kernel
theorem dX1_clear_26 : decode cX1_clear 26 = .ok (.if_icmp .ge 18, 3) := by decide +kernel
theorem dX1_clear_29 : decode cX1_clear 29 = .ok (.aload_n 0, 1) := by decide +kernel
theorem dX1_clear_30 : decode cX1_clear 30 = .ok (.getfield 20, 3) := by decide +kernel
theorem dX1_clear_33 : decode cX1_clear 33 = .ok (.iload_n 1, 1) := by decide +kernel
theorem dX1_clear_34 : decode cX1_clear 34 = .ok (.aaload, 1) := by decide +kernel
theorem dX1_clear_35 : decode cX1_clear 35 = .ok (.invokevirtual 50, 3) := by decide +kernel
theorem dX1_clear_38 : decode cX1_clear 38 = .ok (.iinc 1 1, 3) := by decide +kernel
theorem dX1_clear_41 : decode cX1_clear 41 = .ok (.goto (-17), 3) := by decide +kernel
theorem dX1_clear_44 : decode cX1_clear 44 = .ok (.aload_n 0, 1) := by decide +kernel
theorem dX1_clear_45 : decode cX1_clear 45 = .ok (.iconst 0, 1) := by decide +kernel
theorem dX1_clear_46 : decode cX1_clear 46 = .ok (.putfield 27, 3) := by decide +kernel
theorem dX1_clear_49 : decode cX1_clear 49 = .ok (.aload_n 0, 1) := by decide +kernel
theorem dX1_clear_50 : decode cX1_clear 50 = .ok (.sipush 511, 3) := by decide +kernel
theorem dX1_clear_53 : decode cX1_clear 53 = .ok (.putfield 31, 3) := by decide +kernel
theorem dX1_clear_56 : decode cX1_clear 56 = .ok (.return_, 1) := by decide +kernel
set_option maxRecDepth 20000 in
theorem ggX1_addUsualTemplate_X10_addField : GoodIn wsX1_addUsualTemplate wsX10_addField := goodIn_ca (goodIn_r _ [7, 8, 9, 10, 11, 18, 19, 20, 21] (by decide +kernel) (by decide +kernel)) (goodIn_sub (fun _ h => List.mem_cons_of_mem _ (List.mem_append_right _ h)) (by decide +kernel))
set_option maxRecDepth 20000 in
theorem gX1_addUsualTemplate_X10_addField : GoodIn wsX1_addUsualTemplate (wsV RX1 61 RX10 yX10_addField wsX10_addField) := goodIn_app (goodIn_of _ (by decide +kernel)) ggX1_addUsualTemplate_X10_addField
theorem dX1_addUsualTemplate_0 : decode cX1_addUsualTemplate 0 = .ok (.aload_n 0, 1) := by decide +kernel
theorem dX1_addUsualTemplate_1 : decode cX1_addUsualTemplate 1 = .ok (.iconst 1, 1) := by decide +kernel
theorem dX1_addUsualTemplate_2 : decode cX1_addUsualTemplate 2 = .ok (.putfield 27, 3) := by decide +kernel
theorem dX1_addUsualTemplate_5 : decode cX1_addUsualTemplate 5 = .ok (.iconst 0, 1) := by decide +kernel
theorem dX1_addUsualTemplate_6 : decode cX1_addUsualTemplate 6 = .ok (.istore_n 1, 1) := by decide +kernel
theorem dX1_addUsualTemplate_7 : decode cX1_addUsualTemplate 7 = .ok (.iload_n 1, 1) := by decide +kernel
theorem dX1_addUsualTemplate_8 : decode cX1_addUsualTemplate 8 = .ok (.bipush 9, 2) := by decide +kernel
theorem dX1_addUsualTemplate_10 : decode cX1_addUsualTemplate 10 = .ok (.if_icmp .ge 19, 3) := by decide +kernel
theorem dX1_addUsualTemplate_13 : decode cX1_addUsualTemplate 13 = .ok (.aload_n 0, 1) := by decide +kernel
theorem dX1_addUsualTemplate_14 : decode cX1_addUsualTemplate 14 = .ok (.getfield 20, 3) := by decide +kernel
theorem dX1_addUsualTemplate_17 : decode cX1_addUsualTemplate 17 = .ok (.iconst 0, 1) := by decide +kernel
theorem dX1_addUsualTemplate_18 : decode cX1_addUsualTemplate 18 = .ok (.aaload, 1) := by decide +kernel
theorem dX1_addUsualTemplate_19 : decode cX1_addUsualTemplate 19 = .ok (.iload_n 1, 1) := by decide +kernel
theorem dX1_addUsualTemplate_20 : decode cX1_addUsualTemplate 20 = .ok (.invokevirtual 61, 3) := by decide +kernel
theorem dX1_addUsualTemplate_23 : decode cX1_addUsualTemplate 23 = .ok (.iinc 1 1, 3) := by decide +kernel
theorem dX1_addUsualTemplate_26 : decode cX1_addUsualTemplate 26 = .ok (.goto (-19), 3) := by decide +kernel
theorem dX1_addUsualTemplate_29 : decode cX1_addUsualTemplate 29 = .ok (.return_, 1) := by decide +kernel

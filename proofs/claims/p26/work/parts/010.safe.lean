set_option maxRecDepth 20000 in
theorem ggX1_clear_J7_fill_53178 : GoodIn wsX1_clear wsJ7_fill_53178 := (goodIn_r _ [13] rfl (by decide +kernel))
set_option maxRecDepth 20000 in
theorem gX1_clear_J7_fill_53178 : GoodIn wsX1_clear (va_wsS RX1 44 yJ7_fill_53178 wsJ7_fill_53178) := goodIn_app (goodIn_m (mem_cA (List.mem_cons_of_mem _ (List.mem_append_left _ (List.mem_append_left _ (List.mem_of_getElem? (i := 9) rfl)))) (mem_cA (List.mem_cons_of_mem _ (List.mem_append_left _ (List.mem_append_left _ (List.mem_of_getElem? (i := 10) rfl)))) (mem_cA (List.mem_cons_of_mem _ (List.mem_append_left _ (List.mem_append_left _ (List.mem_of_getElem? (i := 11) rfl)))) mem_cZ))) (by decide +kernel)) ggX1_clear_J7_fill_53178
set_option maxRecDepth 20000 in
theorem ggX1_clear_X10_clear : GoodIn wsX1_clear wsX10_clear := (goodIn_ca (goodIn_r _ [18, 19, 20, 21] rfl (by decide +kernel)) (goodIn_sub (fun _ h => List.mem_cons_of_mem _ (List.mem_append_right _ h)) gw_wsX100))
set_option maxRecDepth 20000 in
theorem gX1_clear_X10_clear : GoodIn wsX1_clear (wsV RX1 50 RX10 yX10_clear wsX10_clear) := goodIn_app (goodIn_m (mem_cA (List.mem_cons_of_mem _ (List.mem_append_left _ (List.mem_append_left _ (List.mem_of_getElem? (i := 13) rfl)))) (mem_cA (List.mem_cons_of_mem _ (List.mem_append_left _ (List.mem_append_left _ (List.mem_of_getElem? (i := 14) rfl)))) (mem_cA (List.mem_cons_of_mem _ (List.mem_append_left _ (List.mem_append_left _ (List.mem_of_getElem? (i := 15) rfl)))) (mem_cA (List.mem_cons_of_mem _ (List.mem_append_left _ (List.mem_append_left _ (List.mem_of_getElem? (i := 16) rfl)))) mem_cZ)))) (by decide +kernel)) ggX1_clear_X10_clear
theorem dX1_clear_0 : decode cX1_clear 0 = .ok (.getstatic 35, 3) := by decide +kernel
theorem dX1_clear_3 : decode cX1_clear 3 = .ok (.iconst 0, 1) := by decide +kernel
theorem dX1_clear_4 : decode cX1_clear 4 = .ok (.aload_n 0, 1) := by decide +kernel
theorem dX1_clear_5 : decode cX1_clear 5 = .ok (.getfield 9, 3) := by decide +kernel
theorem dX1_clear_8 : decode cX1_clear 8 = .ok (.iconst 0, 1) := by decide +kernel
theorem dX1_clear_9 : decode cX1_clear 9 = .ok (.bipush 9, 2) := by decide +kernel
theorem dX1_clear_11 : decode cX1_clear 11 = .ok (.invokestatic 38, 3) := by decide +kernel
theorem dX1_clear_14 : decode cX1_clear 14 = .ok (.aload_n 0, 1) := by decide +kernel
theorem dX1_clear_15 : decode cX1_clear 15 = .ok (.getfield 15, 3) := by decide +kernel
theorem dX1_clear_18 : decode cX1_clear 18 = .ok (.iconst 0, 1) := by decide +kernel
theorem dX1_clear_19 : decode cX1_clear 19 = .ok (.invokestatic 44, 3) := by decide +kernel
theorem dX1_clear_22 : decode cX1_clear 22 = .ok (.iconst 0, 1) := by decide +kernel
theorem dX1_clear_23 : decode cX1_clear 23 = .ok (.istore_n 1, 1) := by decide +kernel
theorem dX1_clear_24 : decode cX1_clear 24 = .ok (.iload_n 1, 1) := by decide +kernel
theorem dX1_clear_25 : decode cX1_clear 25 = .ok (.iconst 4, 1) := by decide +kernel
theorem dX1_clear_26 : decode cX1_clear 26 = .ok (.if_icmp .ge 18, 3) := by decide +kernel
theorem dX1_clear_29 : decode cX1_clear 29 = .ok (.aload_n 0, 1) := by decide +kernel
theorem dX1_clear_30 : decode cX1_clear 30 = .ok (.getfield 20, 3) := by decide +kernel
theorem dX1_clear_33 : decode cX1_clear 33 = .ok (.iload_n 1, 1) := by decide +kernel
theorem dX1_clear_34 : decode cX1_clear 34 = .ok (.aaload, 1) := by decide +kernel
theorem dX1_clear_35 : decode cX1_clear 35 = .ok (.invokevirtual 50, 3) := by decide +kernel
theorem dX1_clear_38 : decode cX1_clear 38 = .ok (.iinc 1 1, 3) := by decide +kernel
theorem dX1_clear_41 : decode cX1_clear 41 = .ok (.goto (-17), 3) := by decide +kernel
theorem dX1_clear_44 : decode cX1_clear 44 = .ok (.aload_n 0, 1) := by decide +kernel
theorem dX1_clear_45 : decode cX1_clear 45 = .ok (.iconst 0, 1) := by decide +kernel
theorem dX1_clear_46 : decode cX1_clear 46 = .ok (.putfield 27, 3) := by decide +kernel
theorem dX1_clear_49 : decode cX1_clear 49 = .ok (.aload_n 0, 1) := by decide +kernel
theorem dX1_clear_50 : decode cX1_clear 50 = .ok (.sipush 511, 3) := by decide +kernel
theorem dX1_clear_53 : decode cX1_clear 53 = .ok (.putfield 31, 3) := by decide +kernel
theorem dX1_clear_56 : decode cX1_clear 56 = .ok (.return_, 1) := by decide +kernel
set_option maxRecDepth 20000 in
theorem ggX1_support_X10_copyFrom : GoodIn wsX1_support wsX10_copyFrom := goodIn_ca ((goodIn_ca (goodIn_r _ [8, 9, 10, 11, 12, 7, 13, 14, 15, 16, 17, 18, 19, 20, 21, 22, 23, 24] rfl (by decide +kernel)) (goodIn_sub (fun _ h => List.mem_cons_of_mem _ (List.mem_append_left _ (List.mem_append_right _ h))) gw_wsX100))) (goodIn_sub (fun _ h => List.mem_cons_of_mem _ (List.mem_append_right _ h)) (all_fg _))
set_option maxRecDepth 20000 in
theorem gX1_support_X10_copyFrom : GoodIn wsX1_support (wsV RX1 53 RX10 yX10_copyFrom wsX10_copyFrom) := goodIn_app (goodIn_m (mem_cA (List.mem_cons_of_mem _ (List.mem_append_left _ (List.mem_append_left _ (List.mem_append_left _ (List.mem_of_getElem? (i := 3) rfl))))) (mem_cA (List.mem_cons_of_mem _ (List.mem_append_left _ (List.mem_append_left _ (List.mem_append_left _ (List.mem_of_getElem? (i := 4) rfl))))) (mem_cA (List.mem_cons_of_mem _ (List.mem_append_left _ (List.mem_append_left _ (List.mem_append_left _ (List.mem_of_getElem? (i := 5) rfl))))) (mem_cA (List.mem_cons_of_mem _ (List.mem_append_left _ (List.mem_append_left _ (List.mem_append_left _ (List.mem_of_getElem? (i := 6) rfl))))) mem_cZ)))) (by decide +kernel)) ggX1_support_X10_copyFrom
theorem dX1_support_0 : decode cX1_support 0 = .ok (.aload_n 0, 1) := by decide +kernel
theorem dX1_support_1 : decode cX1_support 1 = .ok (.iload_n 1, 1) := by decide +kernel
theorem dX1_support_2 : decode cX1_support 2 = .ok (.putfield 31, 3) := by decide +kernel
theorem dX1_support_5 : decode cX1_support 5 = .ok (.iconst 0, 1) := by decide +kernel
theorem dX1_support_6 : decode cX1_support 6 = .ok (.istore_n 2, 1) := by decide +kernel
theorem dX1_support_7 : decode cX1_support 7 = .ok (.iload_n 2, 1) := by decide +kernel
theorem dX1_support_8 : decode cX1_support 8 = .ok (.iconst 4, 1) := by decide +kernel
theorem dX1_support_9 : decode cX1_support 9 = .ok (.if_icmp .ge 25, 3) := by decide +kernel
theorem dX1_support_12 : decode cX1_support 12 = .ok (.aload_n 0, 1) := by decide +kernel
theorem dX1_support_13 : decode cX1_support 13 = .ok (.getfield 24, 3) := by decide +kernel
theorem dX1_support_16 : decode cX1_support 16 = .ok (.iload_n 2, 1) := by decide +kernel
theorem dX1_support_17 : decode cX1_support 17 = .ok (.aaload, 1) := by decide +kernel
theorem dX1_support_18 : decode cX1_support 18 = .ok (.aload_n 0, 1) := by decide +kernel
theorem dX1_support_19 : decode cX1_support 19 = .ok (.getfield 20, 3) := by decide +kernel
theorem dX1_support_22 : decode cX1_support 22 = .ok (.iload_n 2, 1) := by decide +kernel
theorem dX1_support_23 : decode cX1_support 23 = .ok (.aaload, 1) := by decide +kernel
theorem dX1_support_24 : decode cX1_support 24 = .ok (.iload_n 1, 1) := by decide +kernel
theorem dX1_support_25 : decode cX1_support 25 = .ok (.invokevirtual 53, 3) := by decide +kernel
theorem dX1_support_28 : decode cX1_support 28 = .ok (.iinc 2 1, 3) := by decide +kernel
theorem dX1_support_31 : decode cX1_support 31 = .ok (.goto (-24), 3) := by decide +kernel
theorem dX1_support_34 : decode cX1_support 34 = .ok (.return_, 1) := by decide +kernel
set_option maxRecDepth 20000 in
theorem ggX1_addUsualTemplate_X10_addField : GoodIn wsX1_addUsualTemplate wsX10_addField := goodIn_ca ((goodIn_ca (goodIn_r _ [7, 8, 9, 10, 11] rfl (by decide +kernel)) (goodIn_sub (fun _ h => List.mem_cons_of_mem _ (List.mem_append_left _ (List.mem_append_right _ h))) gw_wsX100))) (goodIn_sub (fun _ h => List.mem_cons_of_mem _ (List.mem_append_right _ h)) (all_fg _))
set_option maxRecDepth 20000 in
theorem gX1_addUsualTemplate_X10_addField : GoodIn wsX1_addUsualTemplate (wsV RX1 61 RX10 yX10_addField wsX10_addField) := goodIn_app (goodIn_m (mem_cA (List.mem_cons_of_mem _ (List.mem_append_left _ (List.mem_append_left _ (List.mem_append_left _ (List.mem_of_getElem? (i := 2) rfl))))) (mem_cA (List.mem_cons_of_mem _ (List.mem_append_left _ (List.mem_append_left _ (List.mem_append_left _ (List.mem_of_getElem? (i := 3) rfl))))) (mem_cA (List.mem_cons_of_mem _ (List.mem_append_left _ (List.mem_append_left _ (List.mem_append_left _ (List.mem_of_getElem? (i := 4) rfl))))) (mem_cA (List.mem_cons_of_mem _ (List.mem_append_left _ (List.mem_append_left _ (List.mem_append_left _ (List.mem_of_getElem? (i := 5) rfl))))) mem_cZ)))) (by decide +kernel)) ggX1_addUsualTemplate_X10_addField
theorem dX1_addUsualTemplate_0 : decode cX1_addUsualTemplate 0 = .ok (.aload_n 0, 1) := by decide +kernel
theorem dX1_addUsualTemplate_1 : decode cX1_addUsualTemplate 1 = .ok (.iconst 1, 1) := by decide +kernel
theorem dX1_addUsualTemplate_2 : decode cX1_addUsualTemplate 2 = .ok (.putfield 27, 3) := by decide +kernel
theorem dX1_addUsualTemplate_5 : decode cX1_addUsualTemplate 5 = .ok (.iconst 0, 1) := by decide +kernel
theorem dX1_addUsualTemplate_6 : decode cX1_addUsualTemplate 6 = .ok (.istore_n 1, 1) := by decide +kernel
theorem dX1_addUsualTemplate_7 : decode cX1_addUsualTemplate 7 = .ok (.iload_n 1, 1) := by decide +kernel
theorem dX1_addUsualTemplate_8 : decode cX1_addUsualTemplate 8 = .ok (.bipush 9, 2) := by decide +kernel
theorem dX1_addUsualTemplate_10 : decode cX1_addUsualTemplate 10 = .ok (.if_icmp .ge 19, 3) := by decide +kernel
theorem dX1_addUsualTemplate_13 : decode cX1_addUsualTemplate 13 = .ok (.aload_n 0, 1) := by decide +kernel
theorem dX1_addUsualTemplate_14 : decode cX1_addUsualTemplate 14 = .ok (.getfield 20, 3) := by decide +kernel
theorem dX1_addUsualTemplate_17 : decode cX1_addUsualTemplate 17 = .ok (.iconst 0, 1) := by decide +kernel
theorem dX1_addUsualTemplate_18 : decode cX1_addUsualTemplate 18 = .ok (.aaload, 1) := by decide +kernel
theorem dX1_addUsualTemplate_19 : decode cX1_addUsualTemplate 19 = .ok (.iload_n 1, 1) := by decide +kernel
theorem dX1_addUsualTemplate_20 : decode cX1_addUsualTemplate 20 = .ok (.invokevirtual 61, 3) := by decide +kernel
theorem dX1_addUsualTemplate_23 : decode cX1_addUsualTemplate 23 = .ok (.iinc 1 1, 3) := by decide +kernel
theorem dX1_addUsualTemplate_26 : decode cX1_addUsualTemplate 26 = .ok (.goto (-19), 3) := by decide +kernel
theorem dX1_addUsualTemplate_29 : decode cX1_addUsualTemplate 29 = .ok (.return_, 1) := by decide +kernel
theorem dX1_template_0 : decode cX1_template 0 = .ok (.aload_n 0, 1) := by decide +kernel
theorem dX1_template_1 : decode cX1_template 1 = .ok (.getfield 20, 3) := by decide +kernel
theorem dX1_template_4 : decode cX1_template 4 = .ok (.iload_n 1, 1) := by decide +kernel
theorem dX1_template_5 : decode cX1_template 5 = .ok (.ifCond .lt 12, 3) := by decide +kernel
theorem dX1_template_8 : decode cX1_template 8 = .ok (.iload_n 1, 1) := by decide +kernel
theorem dX1_template_9 : decode cX1_template 9 = .ok (.iconst 4, 1) := by decide +kernel
theorem dX1_template_10 : decode cX1_template 10 = .ok (.if_icmp .ge 7, 3) := by decide +kernel
theorem dX1_template_13 : decode cX1_template 13 = .ok (.iload_n 1, 1) := by decide +kernel
theorem dX1_template_14 : decode cX1_template 14 = .ok (.goto 4, 3) := by decide +kernel
theorem dX1_template_17 : decode cX1_template 17 = .ok (.iconst 0, 1) := by decide +kernel
theorem dX1_template_18 : decode cX1_template 18 = .ok (.aaload, 1) := by decide +kernel
theorem dX1_template_19 : decode cX1_template 19 = .ok (.areturn, 1) := by decide +kernel
theorem dX1_effective_0 : decode cX1_effective 0 = .ok (.aload_n 0, 1) := by decide +kernel
theorem dX1_effective_1 : decode cX1_effective 1 = .ok (.getfield 24, 3) := by decide +kernel
theorem dX1_effective_4 : decode cX1_effective 4 = .ok (.iload_n 1, 1) := by decide +kernel
theorem dX1_effective_5 : decode cX1_effective 5 = .ok (.ifCond .lt 12, 3) := by decide +kernel
theorem dX1_effective_8 : decode cX1_effective 8 = .ok (.iload_n 1, 1) := by decide +kernel
theorem dX1_effective_9 : decode cX1_effective 9 = .ok (.iconst 4, 1) := by decide +kernel
theorem dX1_effective_10 : decode cX1_effective 10 = .ok (.if_icmp .ge 7, 3) := by decide +kernel
theorem dX1_effective_13 : decode cX1_effective 13 = .ok (.iload_n 1, 1) := by decide +kernel
theorem dX1_effective_14 : decode cX1_effective 14 = .ok (.goto 4, 3) := by decide +kernel
theorem dX1_effective_17 : decode cX1_effective 17 = .ok (.iconst 0, 1) := by decide +kernel
theorem dX1_effective_18 : decode cX1_effective 18 = .ok (.aaload, 1) := by decide +kernel
theorem dX1_effective_19 : decode cX1_effective 19 = .ok (.areturn, 1) := by decide +kernel
theorem dX1_set_0 : decode cX1_set 0 = .ok (.iload_n 1, 1) := by decide +kernel
theorem dX1_set_1 : decode cX1_set 1 = .ok (.ifCond .lt 16, 3) := by decide +kernel
theorem dX1_set_4 : decode cX1_set 4 = .ok (.iload_n 1, 1) := by decide +kernel
theorem dX1_set_5 : decode cX1_set 5 = .ok (.bipush 9, 2) := by decide +kernel
theorem dX1_set_7 : decode cX1_set 7 = .ok (.if_icmp .ge 10, 3) := by decide +kernel
theorem dX1_set_10 : decode cX1_set 10 = .ok (.aload_n 0, 1) := by decide +kernel
theorem dX1_set_11 : decode cX1_set 11 = .ok (.getfield 9, 3) := by decide +kernel
theorem dX1_set_14 : decode cX1_set 14 = .ok (.iload_n 1, 1) := by decide +kernel
theorem dX1_set_15 : decode cX1_set 15 = .ok (.iload_n 2, 1) := by decide +kernel
theorem dX1_set_16 : decode cX1_set 16 = .ok (.iastore, 1) := by decide +kernel
theorem dX1_set_17 : decode cX1_set 17 = .ok (.return_, 1) := by decide +kernel
theorem dX1_get_0 : decode cX1_get 0 = .ok (.iload_n 1, 1) := by decide +kernel
theorem dX1_get_1 : decode cX1_get 1 = .ok (.ifCond .lt 18, 3) := by decide +kernel
theorem dX1_get_4 : decode cX1_get 4 = .ok (.iload_n 1, 1) := by decide +kernel
theorem dX1_get_5 : decode cX1_get 5 = .ok (.bipush 9, 2) := by decide +kernel
theorem dX1_get_7 : decode cX1_get 7 = .ok (.if_icmp .ge 12, 3) := by decide +kernel
theorem dX1_get_10 : decode cX1_get 10 = .ok (.aload_n 0, 1) := by decide +kernel
theorem dX1_get_11 : decode cX1_get 11 = .ok (.getfield 9, 3) := by decide +kernel
theorem dX1_get_14 : decode cX1_get 14 = .ok (.iload_n 1, 1) := by decide +kernel
theorem dX1_get_15 : decode cX1_get 15 = .ok (.iaload, 1) := by decide +kernel
theorem dX1_get_16 : decode cX1_get 16 = .ok (.goto 4, 3) := by decide +kernel
theorem dX1_get_19 : decode cX1_get 19 = .ok (.iconst 0, 1) := by decide +kernel
theorem dX1_get_20 : decode cX1_get 20 = .ok (.ireturn, 1) := by decide +kernel
theorem dX1_use_0 : decode cX1_use 0 = .ok (.iload_n 1, 1) := by decide +kernel
theorem dX1_use_1 : decode cX1_use 1 = .ok (.ifCond .lt 17, 3) := by decide +kernel
theorem dX1_use_4 : decode cX1_use 4 = .ok (.iload_n 1, 1) := by decide +kernel
theorem dX1_use_5 : decode cX1_use 5 = .ok (.sipush 256, 3) := by decide +kernel
theorem dX1_use_8 : decode cX1_use 8 = .ok (.if_icmp .ge 10, 3) := by decide +kernel
theorem dX1_use_11 : decode cX1_use 11 = .ok (.aload_n 0, 1) := by decide +kernel
theorem dX1_use_12 : decode cX1_use 12 = .ok (.getfield 15, 3) := by decide +kernel
theorem dX1_use_15 : decode cX1_use 15 = .ok (.iload_n 1, 1) := by decide +kernel
theorem dX1_use_16 : decode cX1_use 16 = .ok (.iload_n 2, 1) := by decide +kernel
theorem dX1_use_17 : decode cX1_use 17 = .ok (.iastore, 1) := by decide +kernel
theorem dX1_use_18 : decode cX1_use 18 = .ok (.return_, 1) := by decide +kernel
theorem dX1_templateOf_0 : decode cX1_templateOf 0 = .ok (.iload_n 1, 1) := by decide +kernel
theorem dX1_templateOf_1 : decode cX1_templateOf 1 = .ok (.ifCond .lt 19, 3) := by decide +kernel
theorem dX1_templateOf_4 : decode cX1_templateOf 4 = .ok (.iload_n 1, 1) := by decide +kernel
theorem dX1_templateOf_5 : decode cX1_templateOf 5 = .ok (.sipush 256, 3) := by decide +kernel
theorem dX1_templateOf_8 : decode cX1_templateOf 8 = .ok (.if_icmp .ge 12, 3) := by decide +kernel
theorem dX1_templateOf_11 : decode cX1_templateOf 11 = .ok (.aload_n 0, 1) := by decide +kernel
theorem dX1_templateOf_12 : decode cX1_templateOf 12 = .ok (.getfield 15, 3) := by decide +kernel
theorem dX1_templateOf_15 : decode cX1_templateOf 15 = .ok (.iload_n 1, 1) := by decide +kernel
theorem dX1_templateOf_16 : decode cX1_templateOf 16 = .ok (.iaload, 1) := by decide +kernel
theorem dX1_templateOf_17 : decode cX1_templateOf 17 = .ok (.goto 4, 3) := by decide +kernel
theorem dX1_templateOf_20 : decode cX1_templateOf 20 = .ok (.iconst 0, 1) := by decide +kernel
theorem dX1_templateOf_21 : decode cX1_templateOf 21 = .ok (.ireturn, 1) := by decide +kernel
theorem dX5_putAt_0 : decode cX5_putAt 0 = .ok (.iconst 0, 1) := by decide +kernel
theorem dX5_putAt_1 : decode cX5_putAt 1 = .ok (.istore 5, 2) := by decide +kernel
theorem dX5_putAt_3 : decode cX5_putAt 3 = .ok (.iload 5, 2) := by decide +kernel
theorem dX5_putAt_5 : decode cX5_putAt 5 = .ok (.iload 4, 2) := by decide +kernel
theorem dX5_putAt_7 : decode cX5_putAt 7 = .ok (.if_icmp .ge 50, 3) := by decide +kernel
theorem dX5_putAt_10 : decode cX5_putAt 10 = .ok (.iload_n 1, 1) := by decide +kernel
theorem dX5_putAt_11 : decode cX5_putAt 11 = .ok (.iload 5, 2) := by decide +kernel
theorem dX5_putAt_13 : decode cX5_putAt 13 = .ok (.iadd, 1) := by decide +kernel
theorem dX5_putAt_14 : decode cX5_putAt 14 = .ok (.istore 6, 2) := by decide +kernel
theorem dX5_putAt_16 : decode cX5_putAt 16 = .ok (.iload 6, 2) := by decide +kernel
theorem dX5_putAt_18 : decode cX5_putAt 18 = .ok (.ifCond .lt 33, 3) := by decide +kernel
theorem dX5_putAt_21 : decode cX5_putAt 21 = .ok (.iload 6, 2) := by decide +kernel
theorem dX5_putAt_23 : decode cX5_putAt 23 = .ok (.aload_n 0, 1) := by decide +kernel
theorem dX5_putAt_24 : decode cX5_putAt 24 = .ok (.getfield 9, 3) := by decide +kernel
theorem dX5_putAt_27 : decode cX5_putAt 27 = .ok (.if_icmp .ge 24, 3) := by decide +kernel
theorem dX5_putAt_30 : decode cX5_putAt 30 = .ok (.aload_n 0, 1) := by decide +kernel
theorem dX5_putAt_31 : decode cX5_putAt 31 = .ok (.getfield 21, 3) := by decide +kernel
theorem dX5_putAt_34 : decode cX5_putAt 34 = .ok (.iload 6, 2) := by decide +kernel
theorem dX5_putAt_36 : decode cX5_putAt 36 = .ok (.lload_n 2, 1) := by decide +kernel
theorem dX5_putAt_37 : decode cX5_putAt 37 = .ok (.bipush 8, 2) := by decide +kernel
theorem dX5_putAt_39 : decode cX5_putAt 39 = .ok (.iload 4, 2) := by decide +kernel
theorem dX5_putAt_41 : decode cX5_putAt 41 = .ok (.iconst 1, 1) := by decide +kernel
theorem dX5_putAt_42 : decode cX5_putAt 42 = .ok (.isub, 1) := by decide +kernel
theorem dX5_putAt_43 : decode cX5_putAt 43 = .ok (.iload 5, 2) := by decide +kernel
theorem dX5_putAt_45 : decode cX5_putAt 45 = .ok (.isub, 1) := by decide +kernel
theorem dX5_putAt_46 : decode cX5_putAt 46 = .ok (.imul, 1) := by decide +kernel
theorem dX5_putAt_47 : decode cX5_putAt 47 = .ok (.lshr, 1) := by decide +kernel
theorem dX5_putAt_48 : decode cX5_putAt 48 = .ok (.l2i, 1) := by decide +kernel
theorem dX5_putAt_49 : decode cX5_putAt 49 = .ok (.i2b, 1) := by decide +kernel
theorem dX5_putAt_50 : decode cX5_putAt 50 = .ok (.bastore, 1) := by decide +kernel
theorem dX5_putAt_51 : decode cX5_putAt 51 = .ok (.iinc 5 1, 3) := by decide +kernel
theorem dX5_putAt_54 : decode cX5_putAt 54 = .ok (.goto (-51), 3) := by decide +kernel
theorem dX5_putAt_57 : decode cX5_putAt 57 = .ok (.return_, 1) := by decide +kernel
theorem dX5_byteAt_0 : decode cX5_byteAt 0 = .ok (.iload_n 1, 1) := by decide +kernel
theorem dX5_byteAt_1 : decode cX5_byteAt 1 = .ok (.ifCond .lt 24, 3) := by decide +kernel
theorem dX5_byteAt_4 : decode cX5_byteAt 4 = .ok (.iload_n 1, 1) := by decide +kernel
theorem dX5_byteAt_5 : decode cX5_byteAt 5 = .ok (.aload_n 0, 1) := by decide +kernel
theorem dX5_byteAt_6 : decode cX5_byteAt 6 = .ok (.getfield 9, 3) := by decide +kernel
theorem dX5_byteAt_9 : decode cX5_byteAt 9 = .ok (.if_icmp .ge 16, 3) := by decide +kernel
theorem dX5_byteAt_12 : decode cX5_byteAt 12 = .ok (.aload_n 0, 1) := by decide +kernel
theorem dX5_byteAt_13 : decode cX5_byteAt 13 = .ok (.getfield 21, 3) := by decide +kernel
theorem dX5_byteAt_16 : decode cX5_byteAt 16 = .ok (.iload_n 1, 1) := by decide +kernel
theorem dX5_byteAt_17 : decode cX5_byteAt 17 = .ok (.baload, 1) := by decide +kernel
theorem dX5_byteAt_18 : decode cX5_byteAt 18 = .ok (.sipush 255, 3) := by decide +kernel
theorem dX5_byteAt_21 : decode cX5_byteAt 21 = .ok (.iand, 1) := by decide +kernel
theorem dX5_byteAt_22 : decode cX5_byteAt 22 = .ok (.goto 4, 3) := by decide +kernel
theorem dX5_byteAt_25 : decode cX5_byteAt 25 = .ok (.iconst (-1), 1) := by decide +kernel
theorem dX5_byteAt_26 : decode cX5_byteAt 26 = .ok (.ireturn, 1) := by decide +kernel
theorem dX5_numberAt_0 : decode cX5_numberAt 0 = .ok (.lconst 0, 1) := by decide +kernel
theorem dX5_numberAt_1 : decode cX5_numberAt 1 = .ok (.lstore_n 3, 1) := by decide +kernel
theorem dX5_numberAt_2 : decode cX5_numberAt 2 = .ok (.iconst 0, 1) := by decide +kernel
theorem dX5_numberAt_3 : decode cX5_numberAt 3 = .ok (.istore 5, 2) := by decide +kernel
theorem dX5_numberAt_5 : decode cX5_numberAt 5 = .ok (.iload 5, 2) := by decide +kernel
theorem dX5_numberAt_7 : decode cX5_numberAt 7 = .ok (.iload_n 2, 1) := by decide +kernel
theorem dX5_numberAt_8 : decode cX5_numberAt 8 = .ok (.if_icmp .ge 51, 3) := by decide +kernel
theorem dX5_numberAt_11 : decode cX5_numberAt 11 = .ok (.iload_n 1, 1) := by decide +kernel
theorem dX5_numberAt_12 : decode cX5_numberAt 12 = .ok (.iload 5, 2) := by decide +kernel
theorem dX5_numberAt_14 : decode cX5_numberAt 14 = .ok (.iadd, 1) := by decide +kernel
theorem dX5_numberAt_15 : decode cX5_numberAt 15 = .ok (.istore 6, 2) := by decide +kernel
theorem dX5_numberAt_17 : decode cX5_numberAt 17 = .ok (.lload_n 3, 1) := by decide +kernel
theorem dX5_numberAt_18 : decode cX5_numberAt 18 = .ok (.bipush 8, 2) := by decide +kernel
theorem dX5_numberAt_20 : decode cX5_numberAt 20 = .ok (.lshl, 1) := by decide +kernel
theorem dX5_numberAt_21 : decode cX5_numberAt 21 = .ok (.iload 6, 2) := by decide +kernel
theorem dX5_numberAt_23 : decode cX5_numberAt 23 = .ok (.ifCond .lt 26, 3) := by decide +kernel
theorem dX5_numberAt_26 : decode cX5_numberAt 26 = .ok (.iload 6, 2) := by decide +kernel
theorem dX5_numberAt_28 : decode cX5_numberAt 28 = .ok (.aload_n 0, 1) := by decide +kernel
theorem dX5_numberAt_29 : decode cX5_numberAt 29 = .ok (.getfield 9, 3) := by decide +kernel
theorem dX5_numberAt_32 : decode cX5_numberAt 32 = .ok (.if_icmp .ge 17, 3) := by decide +kernel
theorem dX5_numberAt_35 : decode cX5_numberAt 35 = .ok (.aload_n 0, 1) := by decide +kernel
theorem dX5_numberAt_36 : decode cX5_numberAt 36 = .ok (.getfield 21, 3) := by decide +kernel
theorem dX5_numberAt_39 : decode cX5_numberAt 39 = .ok (.iload 6, 2) := by decide +kernel
theorem dX5_numberAt_41 : decode cX5_numberAt 41 = .ok (.baload, 1) := by decide +kernel
theorem dX5_numberAt_42 : decode cX5_numberAt 42 = .ok (.sipush 255, 3) := by decide +kernel
theorem dX5_numberAt_45 : decode cX5_numberAt 45 = .ok (.iand, 1) := by decide +kernel
theorem dX5_numberAt_46 : decode cX5_numberAt 46 = .ok (.goto 4, 3) := by decide +kernel
theorem dX5_numberAt_49 : decode cX5_numberAt 49 = .ok (.iconst 0, 1) := by decide +kernel
theorem dX5_numberAt_50 : decode cX5_numberAt 50 = .ok (.i2l, 1) := by decide +kernel
theorem dX5_numberAt_51 : decode cX5_numberAt 51 = .ok (.lor, 1) := by decide +kernel
theorem dX5_numberAt_52 : decode cX5_numberAt 52 = .ok (.lstore_n 3, 1) := by decide +kernel
theorem dX5_numberAt_53 : decode cX5_numberAt 53 = .ok (.iinc 5 1, 3) := by decide +kernel
theorem dX5_numberAt_56 : decode cX5_numberAt 56 = .ok (.goto (-51), 3) := by decide +kernel
theorem dX5_numberAt_59 : decode cX5_numberAt 59 = .ok (.lload_n 3, 1) := by decide +kernel
theorem dX5_numberAt_60 : decode cX5_numberAt 60 = .ok (.lreturn, 1) := by decide +kernel
set_option maxRecDepth 20000 in
theorem ggX5_intAt_X5_numberAt : GoodIn wsX5_intAt wsX5_numberAt := goodIn_ca ((goodIn_ca (goodIn_r _ [5, 6, 7] rfl (by decide +kernel)) (goodIn_sub (fun _ h => List.mem_cons_of_mem _ (List.mem_append_left _ (List.mem_append_right _ h))) gw_wsX50))) (goodIn_sub (fun _ h => List.mem_cons_of_mem _ (List.mem_append_right _ h)) (all_fg _))
set_option maxRecDepth 20000 in
theorem gX5_intAt_X5_numberAt : GoodIn wsX5_intAt (wsV RX5 34 RX5 yX5_numberAt wsX5_numberAt) := goodIn_app (goodIn_m (mem_cA (List.mem_cons_of_mem _ (List.mem_append_left _ (List.mem_append_left _ (List.mem_of_getElem? (i := 0) rfl)))) (mem_cA (List.mem_cons_of_mem _ (List.mem_append_left _ (List.mem_append_left _ (List.mem_of_getElem? (i := 1) rfl)))) (mem_cA (List.mem_cons_of_mem _ (List.mem_append_left _ (List.mem_append_left _ (List.mem_of_getElem? (i := 2) rfl)))) (mem_cA (List.mem_cons_of_mem _ (List.mem_append_left _ (List.mem_append_left _ (List.mem_of_getElem? (i := 3) rfl)))) mem_cZ)))) (by decide +kernel)) ggX5_intAt_X5_numberAt
theorem dX5_intAt_0 : decode cX5_intAt 0 = .ok (.aload_n 0, 1) := by decide +kernel
theorem dX5_intAt_1 : decode cX5_intAt 1 = .ok (.iload_n 1, 1) := by decide +kernel
theorem dX5_intAt_2 : decode cX5_intAt 2 = .ok (.iload_n 2, 1) := by decide +kernel
theorem dX5_intAt_3 : decode cX5_intAt 3 = .ok (.invokevirtual 34, 3) := by decide +kernel
theorem dX5_intAt_6 : decode cX5_intAt 6 = .ok (.l2i, 1) := by decide +kernel
theorem dX5_intAt_7 : decode cX5_intAt 7 = .ok (.ireturn, 1) := by decide +kernel
theorem dX10_has_0 : decode cX10_has 0 = .ok (.iload_n 1, 1) := by decide +kernel
theorem dX10_has_1 : decode cX10_has 1 = .ok (.ifCond .lt 25, 3) := by decide +kernel
theorem dX10_has_4 : decode cX10_has 4 = .ok (.iload_n 1, 1) := by decide +kernel
theorem dX10_has_5 : decode cX10_has 5 = .ok (.bipush 9, 2) := by decide +kernel
theorem dX10_has_7 : decode cX10_has 7 = .ok (.if_icmp .ge 19, 3) := by decide +kernel
theorem dX10_has_10 : decode cX10_has 10 = .ok (.aload_n 0, 1) := by decide +kernel
theorem dX10_has_11 : decode cX10_has 11 = .ok (.getfield 19, 3) := by decide +kernel
theorem dX10_has_14 : decode cX10_has 14 = .ok (.iload_n 1, 1) := by decide +kernel
theorem dX10_has_15 : decode cX10_has 15 = .ok (.ishr, 1) := by decide +kernel
theorem dX10_has_16 : decode cX10_has 16 = .ok (.iconst 1, 1) := by decide +kernel
theorem dX10_has_17 : decode cX10_has 17 = .ok (.iand, 1) := by decide +kernel
theorem dX10_has_18 : decode cX10_has 18 = .ok (.iconst 1, 1) := by decide +kernel
theorem dX10_has_19 : decode cX10_has 19 = .ok (.if_icmp .ne 7, 3) := by decide +kernel
theorem dX10_has_22 : decode cX10_has 22 = .ok (.iconst 1, 1) := by decide +kernel
theorem dX10_has_23 : decode cX10_has 23 = .ok (.goto 4, 3) := by decide +kernel
theorem dX10_has_26 : decode cX10_has 26 = .ok (.iconst 0, 1) := by decide +kernel
theorem dX10_has_27 : decode cX10_has 27 = .ok (.ireturn, 1) := by decide +kernel
theorem dX10_field_21 : decode cX10_field 21 = .ok (.iconst (-1), 1) := by decide +kernel
theorem hu_X10_clear_X10 : ∀ w ∈ u_ws RX10 TX10 4, w ∈ wsX10_clear := fun _ h => List.mem_cons_of_mem _ (List.mem_append_right _ (h))

theorem hv_X10_clear_15 : Cond.fieldLink RX10 15 "FlowExporter$Template" (TX10 1).2.1 (TX10 1).2.2.1 ∈ wsX10_clear := List.mem_cons_of_mem _ (List.mem_append_left _ (List.mem_of_getElem? (i := 0) rfl))

theorem hv_X10_clear_19 : Cond.fieldLink RX10 19 "FlowExporter$Template" (TX10 2).2.1 (TX10 2).2.2.1 ∈ wsX10_clear := List.mem_cons_of_mem _ (List.mem_append_left _ (List.mem_of_getElem? (i := 1) rfl))

theorem hv_X10_clear_22 : Cond.fieldLink RX10 22 "FlowExporter$Template" (TX10 3).2.1 (TX10 3).2.2.1 ∈ wsX10_clear := List.mem_cons_of_mem _ (List.mem_append_left _ (List.mem_of_getElem? (i := 2) rfl))

set_option maxHeartbeats 4000000 in
set_option maxRecDepth 100000 in
theorem s_X10_clear (G : EnvG) (l : Launch) (Φ : Hm) (sz x ca : Nat) (k : Nat) (hx : G.2.2.2 ≤ x) (hI : In G x ca Φ) (hk_k : kd k = 8) : Ct G l yX10_clear wsX10_clear ({ frames := 0, cells := 0, slots := 0, locals := 0 }) 0 0 [.ref (x + (k))] Φ sz (fun v Φ1 sz1 => (v = none) ∧ sz1 = sz ∧ In G x (ca) Φ1 ∧ Fr x (fun j9 => j9 = k) Φ Φ1) := by
  refine Ct.of (cc := cX10_clear) (maxL := 1) (ret := none) (by decide) rfl (Nat.le_of_ble_eq_true rfl) ?_
  intro p9 e9 s9 m9 w9 t9 k9 B
  show Z p9 l e9 _ s9 m9 _ w9 t9 k9 _ G 1 0 [(0, .ref (x + (k)))] [] Φ sz 0 0
  refine z_aload_n B dX10_clear_0 rfl 0 rfl ?_
  refine z_iconst (v := 0) B dX10_clear_1 rfl ?_
  obtain ⟨n_1, v_1, v_2, h_1, b_1⟩ := in8 (k := k) hI hk_k
  have h_2 : Φ (x + (k)) = some (o_ 12 [.ref (x + (k + 1)), .int (nI n_1), .int v_1, .int v_2]) := h_1
  refine z_put (ref := "FlowExporter$Template") (C := RX10) (T := TX10) (N := 4) (ci := 12) (v := .int 0) B hu_X10_clear_X10 tyX10 tyX10_ok nmX10 rfl 1 (Nat.le_of_ble_eq_true rfl) hv_X10_clear_15 rfl (Or.inl rfl) h_2 (by omega) rfl rfl (Nat.le_of_ble_eq_true rfl) dX10_clear_2 (fun Φ1 hΦ1 => ?_)
  have h_3 : Φ1 (x + (k)) = some (o_ 12 [.ref (x + (k + 1)), .int 0, .int v_1, .int v_2]) := fset_at hΦ1
  have hI1 : In G x (ca) Φ1 := In.put (k := k) hI hΦ1 (ok8 (k := k) hk_k ⟨0, v_1, v_2, rfl, (show 0 ≤ 9 by omega)⟩)
  refine z_aload_n B dX10_clear_5 rfl 0 rfl ?_
  refine z_iconst (v := 0) B dX10_clear_6 rfl ?_
  refine z_put (ref := "FlowExporter$Template") (C := RX10) (T := TX10) (N := 4) (ci := 12) (v := .int 0) B hu_X10_clear_X10 tyX10 tyX10_ok nmX10 rfl 2 (Nat.le_of_ble_eq_true rfl) hv_X10_clear_19 rfl (Or.inl rfl) h_3 (by omega) rfl rfl (Nat.le_of_ble_eq_true rfl) dX10_clear_7 (fun Φ2 hΦ2 => ?_)
  have h_4 : Φ2 (x + (k)) = some (o_ 12 [.ref (x + (k + 1)), .int 0, .int 0, .int v_2]) := fset_at hΦ2
  have hI2 : In G x (ca) Φ2 := In.put (k := k) hI1 hΦ2 (ok8 (k := k) hk_k ⟨0, 0, v_2, rfl, (show 0 ≤ 9 by omega)⟩)
  refine z_aload_n B dX10_clear_10 rfl 0 rfl ?_
  refine z_iconst (v := 0) B dX10_clear_11 rfl ?_
  refine z_put (ref := "FlowExporter$Template") (C := RX10) (T := TX10) (N := 4) (ci := 12) (v := .int 0) B hu_X10_clear_X10 tyX10 tyX10_ok nmX10 rfl 3 (Nat.le_of_ble_eq_true rfl) hv_X10_clear_22 rfl (Or.inl rfl) h_4 (by omega) rfl rfl (Nat.le_of_ble_eq_true rfl) dX10_clear_12 (fun Φ3 hΦ3 => ?_)
  have h_5 : Φ3 (x + (k)) = some (o_ 12 [.ref (x + (k + 1)), .int 0, .int 0, .int 0]) := fset_at hΦ3
  have hI3 : In G x (ca) Φ3 := In.put (k := k) hI2 hΦ3 (ok8 (k := k) hk_k ⟨0, 0, 0, rfl, (show 0 ≤ 9 by omega)⟩)
  exact z_ret_v B dX10_clear_15 ⟨rfl, rfl, hI3, (fun b9 h9 => ((fset_fr hΦ3 (fun h8 => h9 (k) h8 (show k = k by omega))).trans ((fset_fr hΦ2 (fun h8 => h9 (k) h8 (show k = k by omega))).trans ((fset_fr hΦ1 (fun h8 => h9 (k) h8 (show k = k by omega))).trans rfl))))⟩

theorem hu_X10_has_X10 : ∀ w ∈ u_ws RX10 TX10 4, w ∈ wsX10_has := fun _ h => List.mem_cons_of_mem _ (List.mem_append_right _ (h))

theorem hv_X10_has_19 : Cond.fieldLink RX10 19 "FlowExporter$Template" (TX10 2).2.1 (TX10 2).2.2.1 ∈ wsX10_has := List.mem_cons_of_mem _ (List.mem_append_left _ (List.mem_of_getElem? (i := 0) rfl))

set_option maxHeartbeats 4000000 in
set_option maxRecDepth 100000 in
theorem s_X10_has (G : EnvG) (l : Launch) (Φ : Hm) (sz x ca : Nat) (k : Nat) (a : Int32) (hx : G.2.2.2 ≤ x) (hI : In G x ca Φ) (hk_k : kd k = 8) : Ct G l yX10_has wsX10_has ({ frames := 0, cells := 0, slots := 0, locals := 0 }) 0 0 [.ref (x + (k)), .int a] Φ sz (fun v Φ1 sz1 => (∃ r9 : Int32, v = some (.int r9) ∧ (r9 = 0 ∨ r9 = 1)) ∧ sz1 = sz ∧ In G x (ca) Φ1 ∧ Fr x (fun j9 => False) Φ Φ1) := by
  refine Ct.of (cc := cX10_has) (maxL := 2) (ret := (some .boolean)) (by decide) rfl (Nat.le_of_ble_eq_true rfl) ?_
  intro p9 e9 s9 m9 w9 t9 k9 B
  show Z p9 l e9 _ s9 m9 _ w9 t9 k9 _ G 2 0 [(0, .ref (x + (k))), (1, .int a)] [] Φ sz 0 0
  refine z_iload_n B dX10_has_0 rfl 1 rfl ?_
  refine z_if_lt (tgt := 26) B dX10_has_1 rfl (fun c_1 => ?_) (fun c_1 => ?_)
  · refine z_iconst (v := 0) B dX10_has_26 rfl ?_
    exact z_ret_z B dX10_has_27 (by decide) ⟨⟨_, rfl, by decide⟩, rfl, hI, (fun b9 h9 => rfl)⟩
  · obtain ⟨n_1, e_1, rfl⟩ := nI_of c_1
    refine z_iload_n B dX10_has_4 rfl 1 rfl ?_
    refine z_bipush (v := 9) B dX10_has_5 rfl ?_
    refine z_icmp_ge (tgt := 26) B dX10_has_7 rfl (fun c_2 => ?_) (fun c_2 => ?_)
    · have e_2 : 9 ≤ n_1 := (nI_leI (a := 9) (b := n_1) (by omega) (by omega)).mp c_2
      refine z_iconst (v := 0) B dX10_has_26 rfl ?_
      exact z_ret_z B dX10_has_27 (by decide) ⟨⟨_, rfl, by decide⟩, rfl, hI, (fun b9 h9 => rfl)⟩
    · have e_3 : ¬ (9 ≤ n_1) := fun h9 => c_2 ((nI_leI (a := 9) (b := n_1) (by omega) (by omega)).mpr h9)
      refine z_aload_n B dX10_has_10 rfl 0 rfl ?_
      obtain ⟨n_2, v_1, v_2, h_1, b_1⟩ := in8 (k := k) hI hk_k
      have h_2 : Φ (x + (k)) = some (o_ 12 [.ref (x + (k + 1)), .int (nI n_2), .int v_1, .int v_2]) := h_1
      refine z_get (ref := "FlowExporter$Template") (C := RX10) (T := TX10) (N := 4) (ci := 12) (v := .int v_1) B hu_X10_has_X10 rfl 2 (Nat.le_of_ble_eq_true rfl) hv_X10_has_19 rfl h_2 rfl dX10_has_11 ?_
      refine z_iload_n B dX10_has_14 rfl 1 rfl ?_
      refine z_ishr B dX10_has_15 ?_
      refine z_fi (fun v_3 => ?_)
      refine z_iconst (v := 1) B dX10_has_16 rfl ?_
      refine z_iand B dX10_has_17 ?_
      refine z_fi (fun v_4 => ?_)
      refine z_iconst (v := 1) B dX10_has_18 rfl ?_
      refine z_icmp_ne (tgt := 26) B dX10_has_19 rfl (fun c_3 => ?_) (fun c_3 => ?_)
      · refine z_iconst (v := 0) B dX10_has_26 rfl ?_
        exact z_ret_z B dX10_has_27 (by decide) ⟨⟨_, rfl, by decide⟩, rfl, hI, (fun b9 h9 => rfl)⟩
      · refine z_iconst (v := 1) B dX10_has_22 rfl ?_
        refine z_goto (tgt := 27) B dX10_has_23 rfl ?_
        exact z_ret_z B dX10_has_27 (by decide) ⟨⟨_, rfl, by decide⟩, rfl, hI, (fun b9 h9 => rfl)⟩

theorem hu_X10_addField_X10 : ∀ w ∈ u_ws RX10 TX10 4, w ∈ wsX10_addField := fun _ h => List.mem_cons_of_mem _ (List.mem_append_left _ (List.mem_append_right _ (h)))

theorem hv_X10_addField_15 : Cond.fieldLink RX10 15 "FlowExporter$Template" (TX10 1).2.1 (TX10 1).2.2.1 ∈ wsX10_addField := List.mem_cons_of_mem _ (List.mem_append_left _ (List.mem_append_left _ (List.mem_of_getElem? (i := 0) rfl)))

theorem hv_X10_addField_19 : Cond.fieldLink RX10 19 "FlowExporter$Template" (TX10 2).2.1 (TX10 2).2.2.1 ∈ wsX10_addField := List.mem_cons_of_mem _ (List.mem_append_left _ (List.mem_append_left _ (List.mem_of_getElem? (i := 1) rfl)))

theorem hv_X10_addField_9 : Cond.fieldLink RX10 9 "FlowExporter$Template" (TX10 0).2.1 (TX10 0).2.2.1 ∈ wsX10_addField := List.mem_cons_of_mem _ (List.mem_append_left _ (List.mem_append_left _ (List.mem_of_getElem? (i := 2) rfl)))

theorem hv_X10_addField_22 : Cond.fieldLink RX10 22 "FlowExporter$Template" (TX10 3).2.1 (TX10 3).2.2.1 ∈ wsX10_addField := List.mem_cons_of_mem _ (List.mem_append_left _ (List.mem_append_left _ (List.mem_of_getElem? (i := 3) rfl)))

set_option maxHeartbeats 4000000 in
set_option maxRecDepth 100000 in
theorem s_X10_addField (G : EnvG) (l : Launch) (Φ : Hm) (sz x ca : Nat) (k : Nat) (a : Int32) (hx : G.2.2.2 ≤ x) (hI : In G x ca Φ) (hk_k : kd k = 8) : Ct G l yX10_addField wsX10_addField ({ frames := 0, cells := 0, slots := 0, locals := 0 }) 0 0 [.ref (x + (k)), .int a] Φ sz (fun v Φ1 sz1 => (v = none) ∧ sz1 = sz ∧ In G x (ca) Φ1 ∧ Fr x (fun j9 => j9 = k ∨ j9 = k + 1) Φ Φ1) := by
  refine Ct.of (cc := cX10_addField) (maxL := 2) (ret := none) (by decide) rfl (Nat.le_of_ble_eq_true rfl) ?_
  intro p9 e9 s9 m9 w9 t9 k9 B
  show Z p9 l e9 _ s9 m9 _ w9 t9 k9 _ G 2 0 [(0, .ref (x + (k))), (1, .int a)] [] Φ sz 0 0
  refine z_iload_n B dX10_addField_0 rfl 1 rfl ?_
  refine z_if_lt (tgt := 76) B dX10_addField_1 rfl (fun c_1 => ?_) (fun c_1 => ?_)
  · exact z_ret_v B dX10_addField_76 ⟨rfl, rfl, hI, (fun b9 h9 => rfl)⟩
  · obtain ⟨n_1, e_1, rfl⟩ := nI_of c_1
    refine z_iload_n B dX10_addField_4 rfl 1 rfl ?_
    refine z_bipush (v := 9) B dX10_addField_5 rfl ?_
    refine z_icmp_ge (tgt := 76) B dX10_addField_7 rfl (fun c_2 => ?_) (fun c_2 => ?_)
    · have e_2 : 9 ≤ n_1 := (nI_leI (a := 9) (b := n_1) (by omega) (by omega)).mp c_2
      exact z_ret_v B dX10_addField_76 ⟨rfl, rfl, hI, (fun b9 h9 => rfl)⟩
    · have e_3 : ¬ (9 ≤ n_1) := fun h9 => c_2 ((nI_leI (a := 9) (b := n_1) (by omega) (by omega)).mpr h9)
      refine z_aload_n B dX10_addField_10 rfl 0 rfl ?_
      obtain ⟨n_2, v_1, v_2, h_1, b_1⟩ := in8 (k := k) hI hk_k
      have h_2 : Φ (x + (k)) = some (o_ 12 [.ref (x + (k + 1)), .int (nI n_2), .int v_1, .int v_2]) := h_1
      refine z_get (ref := "FlowExporter$Template") (C := RX10) (T := TX10) (N := 4) (ci := 12) (v := .int (nI n_2)) B hu_X10_addField_X10 rfl 1 (Nat.le_of_ble_eq_true rfl) hv_X10_addField_15 rfl h_2 rfl dX10_addField_11 ?_
      refine z_bipush (v := 9) B dX10_addField_14 rfl ?_
      refine z_icmp_ge (tgt := 76) B dX10_addField_16 rfl (fun c_3 => ?_) (fun c_3 => ?_)
      · have e_4 : 9 ≤ n_2 := (nI_leI (a := 9) (b := n_2) (by omega) (by omega)).mp c_3
        exact z_ret_v B dX10_addField_76 ⟨rfl, rfl, hI, (fun b9 h9 => rfl)⟩
      · have e_5 : ¬ (9 ≤ n_2) := fun h9 => c_3 ((nI_leI (a := 9) (b := n_2) (by omega) (by omega)).mpr h9)
        refine z_aload_n B dX10_addField_19 rfl 0 rfl ?_
        refine z_get (ref := "FlowExporter$Template") (C := RX10) (T := TX10) (N := 4) (ci := 12) (v := .int v_1) B hu_X10_addField_X10 rfl 2 (Nat.le_of_ble_eq_true rfl) hv_X10_addField_19 rfl h_2 rfl dX10_addField_20 ?_
        refine z_iload_n B dX10_addField_23 rfl 1 rfl ?_
        refine z_ishr B dX10_addField_24 ?_
        refine z_fi (fun v_3 => ?_)
        refine z_iconst (v := 1) B dX10_addField_25 rfl ?_
        refine z_iand B dX10_addField_26 ?_
        refine z_fi (fun v_4 => ?_)
        refine z_if_ne (tgt := 76) B dX10_addField_27 rfl (fun c_4 => ?_) (fun c_4 => ?_)
        · exact z_ret_v B dX10_addField_76 ⟨rfl, rfl, hI, (fun b9 h9 => rfl)⟩
        · refine z_aload_n B dX10_addField_30 rfl 0 rfl ?_
          refine z_get (ref := "FlowExporter$Template") (C := RX10) (T := TX10) (N := 4) (ci := 12) (v := .ref (x + (k + 1))) B hu_X10_addField_X10 rfl 0 (Nat.le_of_ble_eq_true rfl) hv_X10_addField_9 rfl h_2 rfl dX10_addField_31 ?_
          refine z_aload_n B dX10_addField_34 rfl 0 rfl ?_
          refine z_get (ref := "FlowExporter$Template") (C := RX10) (T := TX10) (N := 4) (ci := 12) (v := .int (nI n_2)) B hu_X10_addField_X10 rfl 1 (Nat.le_of_ble_eq_true rfl) hv_X10_addField_15 rfl h_2 rfl dX10_addField_35 ?_
          refine z_iload_n B dX10_addField_38 rfl 1 rfl ?_
          obtain ⟨f_1, h_3⟩ := in9 (k := k + 1) hI (kd_t hk_k)
          have h_4 : Φ (x + (k + 1)) = some (ai_ G 9 f_1) := h_3
          refine z_iast B h_4 (by omega) (vp_in_nI (by omega) (by omega)) dX10_addField_39 (fun Φ1 hΦ1 => ?_)
          have h_5 : Φ1 (x + (k + 1)) = some (ai_ G 9 (upd f_1 (nI n_2).toNatClampNeg (nI n_1))) := fset_at hΦ1
          have hI1 : In G x (ca) Φ1 := In.put (k := k + 1) hI hΦ1 (ok9 (k := k + 1) (kd_t hk_k) ⟨_, rfl⟩)
          refine z_aload_n B dX10_addField_40 rfl 0 rfl ?_
          refine z_dup B dX10_addField_41 rfl ?_
          have h_6 : Φ1 (x + (k)) = some (o_ 12 [.ref (x + (k + 1)), .int (nI n_2), .int v_1, .int v_2]) := ((fset_fr hΦ1 (by omega)).trans h_2)
          refine z_get (ref := "FlowExporter$Template") (C := RX10) (T := TX10) (N := 4) (ci := 12) (v := .int (nI n_2)) B hu_X10_addField_X10 rfl 1 (Nat.le_of_ble_eq_true rfl) hv_X10_addField_15 rfl h_6 rfl dX10_addField_42 ?_
          refine z_iconst (v := 1) B dX10_addField_45 rfl ?_
          refine z_iadd B dX10_addField_46 ?_
          refine z_top (st1 := [.int (nI (n_2 + 1)), .ref (x + (k))]) (congrArg (fun w9 : Int32 => ([.int w9, .ref (x + (k))] : List Value)) (nI_add n_2 1)) ?_
          refine z_put (ref := "FlowExporter$Template") (C := RX10) (T := TX10) (N := 4) (ci := 12) (v := .int (nI (n_2 + 1))) B hu_X10_addField_X10 tyX10 tyX10_ok nmX10 rfl 1 (Nat.le_of_ble_eq_true rfl) hv_X10_addField_15 rfl (Or.inl rfl) h_6 (by omega) rfl rfl (Nat.le_of_ble_eq_true rfl) dX10_addField_47 (fun Φ2 hΦ2 => ?_)
          have h_7 : Φ2 (x + (k)) = some (o_ 12 [.ref (x + (k + 1)), .int (nI (n_2 + 1)), .int v_1, .int v_2]) := fset_at hΦ2
          have hI2 : In G x (ca) Φ2 := In.put (k := k) hI1 hΦ2 (ok8 (k := k) hk_k ⟨n_2 + 1, v_1, v_2, rfl, (show n_2 + 1 ≤ 9 by omega)⟩)
          refine z_aload_n B dX10_addField_50 rfl 0 rfl ?_
          refine z_dup B dX10_addField_51 rfl ?_
          refine z_get (ref := "FlowExporter$Template") (C := RX10) (T := TX10) (N := 4) (ci := 12) (v := .int v_1) B hu_X10_addField_X10 rfl 2 (Nat.le_of_ble_eq_true rfl) hv_X10_addField_19 rfl h_7 rfl dX10_addField_52 ?_
          refine z_iconst (v := 1) B dX10_addField_55 rfl ?_
          refine z_iload_n B dX10_addField_56 rfl 1 rfl ?_
          refine z_ishl B dX10_addField_57 ?_
          refine z_fi (fun v_5 => ?_)
          refine z_ior B dX10_addField_58 ?_
          refine z_fi (fun v_6 => ?_)
          refine z_put (ref := "FlowExporter$Template") (C := RX10) (T := TX10) (N := 4) (ci := 12) (v := .int v_6) B hu_X10_addField_X10 tyX10 tyX10_ok nmX10 rfl 2 (Nat.le_of_ble_eq_true rfl) hv_X10_addField_19 rfl (Or.inl rfl) h_7 (by omega) rfl rfl (Nat.le_of_ble_eq_true rfl) dX10_addField_59 (fun Φ3 hΦ3 => ?_)
          have h_8 : Φ3 (x + (k)) = some (o_ 12 [.ref (x + (k + 1)), .int (nI (n_2 + 1)), .int v_6, .int v_2]) := fset_at hΦ3
          have hI3 : In G x (ca) Φ3 := In.put (k := k) hI2 hΦ3 (ok8 (k := k) hk_k ⟨n_2 + 1, v_6, v_2, rfl, (show n_2 + 1 ≤ 9 by omega)⟩)
          refine z_aload_n B dX10_addField_62 rfl 0 rfl ?_
          refine z_dup B dX10_addField_63 rfl ?_
          refine z_get (ref := "FlowExporter$Template") (C := RX10) (T := TX10) (N := 4) (ci := 12) (v := .int v_2) B hu_X10_addField_X10 rfl 3 (Nat.le_of_ble_eq_true rfl) hv_X10_addField_22 rfl h_8 rfl dX10_addField_64 ?_
          refine z_staN (n := "FIELD_BYTES") B B.2.2.2.2.2.1.1.1 (by decide +kernel) dX10_addField_67 ?_
          refine z_iload_n B dX10_addField_70 rfl 1 rfl ?_
          refine z_sald B B.2.2.2.2.2.1.2.2.2.1.1 (B.2.2.2.2.2.1.2.2.2.2 0 (by decide)) (vp_in_nI (by omega) (by omega)) dX10_addField_71 ?_
          refine z_fi (fun v_7 => ?_)
          refine z_iadd B dX10_addField_72 ?_
          refine z_fi (fun v_8 => ?_)
          refine z_put (ref := "FlowExporter$Template") (C := RX10) (T := TX10) (N := 4) (ci := 12) (v := .int v_8) B hu_X10_addField_X10 tyX10 tyX10_ok nmX10 rfl 3 (Nat.le_of_ble_eq_true rfl) hv_X10_addField_22 rfl (Or.inl rfl) h_8 (by omega) rfl rfl (Nat.le_of_ble_eq_true rfl) dX10_addField_73 (fun Φ4 hΦ4 => ?_)
          have h_9 : Φ4 (x + (k)) = some (o_ 12 [.ref (x + (k + 1)), .int (nI (n_2 + 1)), .int v_6, .int v_8]) := fset_at hΦ4
          have hI4 : In G x (ca) Φ4 := In.put (k := k) hI3 hΦ4 (ok8 (k := k) hk_k ⟨n_2 + 1, v_6, v_8, rfl, (show n_2 + 1 ≤ 9 by omega)⟩)
          exact z_ret_v B dX10_addField_76 ⟨rfl, rfl, hI4, (fun b9 h9 => ((fset_fr hΦ4 (fun h8 => h9 (k) h8 (show k = k ∨ k = k + 1 by omega))).trans ((fset_fr hΦ3 (fun h8 => h9 (k) h8 (show k = k ∨ k = k + 1 by omega))).trans ((fset_fr hΦ2 (fun h8 => h9 (k) h8 (show k = k ∨ k = k + 1 by omega))).trans ((fset_fr hΦ1 (fun h8 => h9 (k + 1) h8 (show (k + 1) = k ∨ (k + 1) = k + 1 by omega))).trans rfl)))))⟩

theorem hu_X10_field_X10 : ∀ w ∈ u_ws RX10 TX10 4, w ∈ wsX10_field := fun _ h => List.mem_cons_of_mem _ (List.mem_append_left _ (List.mem_append_right _ (h)))

theorem hv_X10_field_15 : Cond.fieldLink RX10 15 "FlowExporter$Template" (TX10 1).2.1 (TX10 1).2.2.1 ∈ wsX10_field := List.mem_cons_of_mem _ (List.mem_append_left _ (List.mem_append_left _ (List.mem_of_getElem? (i := 0) rfl)))

theorem hv_X10_field_9 : Cond.fieldLink RX10 9 "FlowExporter$Template" (TX10 0).2.1 (TX10 0).2.2.1 ∈ wsX10_field := List.mem_cons_of_mem _ (List.mem_append_left _ (List.mem_append_left _ (List.mem_of_getElem? (i := 1) rfl)))

set_option maxHeartbeats 4000000 in
set_option maxRecDepth 100000 in
theorem s_X10_field (G : EnvG) (l : Launch) (Φ : Hm) (sz x ca : Nat) (k : Nat) (a : Int32) (hx : G.2.2.2 ≤ x) (hI : In G x ca Φ) (hk_k : kd k = 8) : Ct G l yX10_field wsX10_field ({ frames := 0, cells := 0, slots := 0, locals := 0 }) 0 0 [.ref (x + (k)), .int a] Φ sz (fun v Φ1 sz1 => (∃ r9 : Int32, v = some (.int r9)) ∧ sz1 = sz ∧ In G x (ca) Φ1 ∧ Fr x (fun j9 => False) Φ Φ1) := by
  refine Ct.of (cc := cX10_field) (maxL := 2) (ret := (some .int)) (by decide) rfl (Nat.le_of_ble_eq_true rfl) ?_
  intro p9 e9 s9 m9 w9 t9 k9 B
  show Z p9 l e9 _ s9 m9 _ w9 t9 k9 _ G 2 0 [(0, .ref (x + (k))), (1, .int a)] [] Φ sz 0 0
  refine z_iload_n B dX10_field_0 rfl 1 rfl ?_
  refine z_if_lt (tgt := 21) B dX10_field_1 rfl (fun c_1 => ?_) (fun c_1 => ?_)
  · refine z_iconst (v := (-1)) B dX10_field_21 rfl ?_
    exact z_ret_i B dX10_field_22 ⟨⟨_, rfl⟩, rfl, hI, (fun b9 h9 => rfl)⟩
  · obtain ⟨n_1, e_1, rfl⟩ := nI_of c_1
    refine z_iload_n B dX10_field_4 rfl 1 rfl ?_
    refine z_aload_n B dX10_field_5 rfl 0 rfl ?_
    obtain ⟨n_2, v_1, v_2, h_1, b_1⟩ := in8 (k := k) hI hk_k
    have h_2 : Φ (x + (k)) = some (o_ 12 [.ref (x + (k + 1)), .int (nI n_2), .int v_1, .int v_2]) := h_1
    refine z_get (ref := "FlowExporter$Template") (C := RX10) (T := TX10) (N := 4) (ci := 12) (v := .int (nI n_2)) B hu_X10_field_X10 rfl 1 (Nat.le_of_ble_eq_true rfl) hv_X10_field_15 rfl h_2 rfl dX10_field_6 ?_
    refine z_icmp_ge (tgt := 21) B dX10_field_9 rfl (fun c_2 => ?_) (fun c_2 => ?_)
    · have e_2 : n_2 ≤ n_1 := (nI_leI (a := n_2) (b := n_1) (by omega) (by omega)).mp c_2
      refine z_iconst (v := (-1)) B dX10_field_21 rfl ?_
      exact z_ret_i B dX10_field_22 ⟨⟨_, rfl⟩, rfl, hI, (fun b9 h9 => rfl)⟩
    · have e_3 : ¬ (n_2 ≤ n_1) := fun h9 => c_2 ((nI_leI (a := n_2) (b := n_1) (by omega) (by omega)).mpr h9)
      refine z_aload_n B dX10_field_12 rfl 0 rfl ?_
      refine z_get (ref := "FlowExporter$Template") (C := RX10) (T := TX10) (N := 4) (ci := 12) (v := .ref (x + (k + 1))) B hu_X10_field_X10 rfl 0 (Nat.le_of_ble_eq_true rfl) hv_X10_field_9 rfl h_2 rfl dX10_field_13 ?_
      refine z_iload_n B dX10_field_16 rfl 1 rfl ?_
      obtain ⟨f_1, h_3⟩ := in9 (k := k + 1) hI (kd_t hk_k)
      have h_4 : Φ (x + (k + 1)) = some (ai_ G 9 f_1) := h_3
      refine z_iald B h_4 (vp_in_nI (by omega) (by omega)) dX10_field_17 ?_
      refine z_fi (fun v_3 => ?_)
      refine z_goto (tgt := 22) B dX10_field_18 rfl ?_
      exact z_ret_i B dX10_field_22 ⟨⟨_, rfl⟩, rfl, hI, (fun b9 h9 => rfl)⟩

theorem hu_X10_copyFrom_X10 : ∀ w ∈ u_ws RX10 TX10 4, w ∈ wsX10_copyFrom := fun _ h => List.mem_cons_of_mem _ (List.mem_append_left _ (List.mem_append_right _ (h)))

theorem hv_X10_copyFrom_15 : Cond.fieldLink RX10 15 "FlowExporter$Template" (TX10 1).2.1 (TX10 1).2.2.1 ∈ wsX10_copyFrom := List.mem_cons_of_mem _ (List.mem_append_left _ (List.mem_append_left _ (List.mem_of_getElem? (i := 0) rfl)))

set_option maxHeartbeats 4000000 in
set_option maxRecDepth 100000 in
theorem s_X10_copyFrom (G : EnvG) (l : Launch) (Φ : Hm) (sz x ca : Nat) (k : Nat) (q : Nat) (a : Int32) (hx : G.2.2.2 ≤ x) (hI : In G x ca Φ) (hk_k : kd k = 8) (hk_q : kd q = 8) (hkq : k ≠ q) (hkq1 : k + 1 ≠ q) : Ct G l yX10_copyFrom wsX10_copyFrom ({ frames := 1, cells := 0, slots := 0, locals := 21 }) 0 0 [.ref (x + (k)), .ref (x + (q)), .int a] Φ sz (fun v Φ1 sz1 => (v = none) ∧ sz1 = sz ∧ In G x (ca) Φ1 ∧ Fr x (fun j9 => j9 = k ∨ j9 = k + 1) Φ Φ1) := by
  refine Ct.of (cc := cX10_copyFrom) (maxL := 5) (ret := none) (by decide) rfl (Nat.le_of_ble_eq_true rfl) ?_
  intro p9 e9 s9 m9 w9 t9 k9 B
  show Z p9 l e9 _ s9 m9 _ w9 t9 k9 _ G 5 0 [(0, .ref (x + (k))), (1, .ref (x + (q))), (2, .int a)] [] Φ sz 0 0
  refine z_aload_n B dX10_copyFrom_0 rfl 0 rfl ?_
  obtain ⟨n_1, v_1, v_2, h_1, b_1⟩ := in8 (k := k) hI hk_k
  have h_2 : Φ (x + (k)) = some (o_ 12 [.ref (x + (k + 1)), .int (nI n_1), .int v_1, .int v_2]) := h_1
  refine z_callV (As := []) (rest := []) B (s_X10_clear G l Φ sz x (ca) k hx hI hk_k) (cwV 0 B.1.2.2.2.2 gX10_copyFrom_X10_clear rfl rfl rfl (by decide +kernel) ⟨Nat.le_of_ble_eq_true rfl, Nat.le_of_ble_eq_true rfl⟩) h_2 rfl rfl rfl rfl (Nat.le_of_ble_eq_true rfl) dX10_copyFrom_1 ⟨Nat.le_of_ble_eq_true rfl, Nat.le_of_ble_eq_true rfl⟩ (fun r_1 Φ1 sz1 st1 hp1 hs1 => ?_)
  obtain ⟨rfl, hq1, hI1, hF1⟩ := hp1
  subst sz1
  replace hs1 : st1 = [] := hs1
  subst st1
  replace hI1 : In G x (ca) Φ1 := hI1
  refine z_iconst (v := 0) B dX10_copyFrom_4 rfl ?_
  refine z_istore_n (lv' := [(3, .int 0), (0, .ref (x + (k))), (1, .ref (x + (q))), (2, .int a)]) B dX10_copyFrom_5 rfl (Nat.le_of_ble_eq_true rfl) rfl ?_
  refine z_lv [0, 1, 2, 3] rfl ?_
  refine z_loop (α := Nat) (fun (a9 : Nat) Φi => In G x (ca) Φi ∧ Fr x (fun j9 => j9 = k ∨ j9 = k + 1) Φ1 Φi ∧ (a9 ≤ 9) ∧ True) (fun a9 => [(3, .int (nI a9)), (0, .ref (x + (k))), (1, .ref (x + (q))), (2, .int a)]) (fun a9 => 9 - a9) ?_ (0) ⟨hI1, fun _ _ => rfl, (show 0 ≤ 9 by omega), trivial⟩
  rintro i_1 Φl1 ⟨hI2, hF2, b_2, -⟩ ih1
  replace hI2 : In G x (ca) Φl1 := hI2
  replace b_2 : i_1 ≤ 9 := b_2
  show Z p9 l e9 _ s9 m9 _ w9 t9 k9 _ G 5 6 [(3, .int (nI i_1)), (0, .ref (x + (k))), (1, .ref (x + (q))), (2, .int a)] [] Φl1 _ _ _
  refine z_iload_n B dX10_copyFrom_6 rfl 0 rfl ?_
  refine z_aload_n B dX10_copyFrom_7 rfl 2 rfl ?_
  obtain ⟨n_2, v_3, v_4, h_3, b_3⟩ := in8 (k := q) hI2 hk_q
  have h_4 : Φl1 (x + (q)) = some (o_ 12 [.ref (x + (q + 1)), .int (nI n_2), .int v_3, .int v_4]) := h_3
  refine z_get (ref := "FlowExporter$Template") (C := RX10) (T := TX10) (N := 4) (ci := 12) (v := .int (nI n_2)) B hu_X10_copyFrom_X10 rfl 1 (Nat.le_of_ble_eq_true rfl) hv_X10_copyFrom_15 rfl h_4 rfl dX10_copyFrom_8 ?_
  refine z_icmp_ge (tgt := 43) B dX10_copyFrom_11 rfl (fun c_1 => ?_) (fun c_1 => ?_)
  · have e_1 : n_2 ≤ i_1 := (nI_leI (a := n_2) (b := i_1) (by omega) (by omega)).mp c_1
    exact z_ret_v B dX10_copyFrom_43 ⟨rfl, rfl, hI2, (fun b9 h9 => ((hF2 b9 h9).trans ((hF1 b9 (fun j9 h8 h7 => h9 j9 h8 (show j9 = k ∨ j9 = k + 1 by have h6 : j9 = k := h7; omega))).trans rfl)))⟩
  · have e_2 : ¬ (n_2 ≤ i_1) := fun h9 => c_1 ((nI_leI (a := n_2) (b := i_1) (by omega) (by omega)).mpr h9)
    refine z_aload_n B dX10_copyFrom_14 rfl 2 rfl ?_
    refine z_iload_n B dX10_copyFrom_15 rfl 0 rfl ?_
    refine z_callV (As := [.int (nI i_1)]) (rest := []) B (s_X10_field G l Φl1 sz x (ca) q (nI i_1) hx hI2 hk_q) (cwV 1 B.1.2.2.2.2 gX10_copyFrom_X10_field rfl rfl rfl (by decide +kernel) ⟨Nat.le_of_ble_eq_true rfl, Nat.le_of_ble_eq_true rfl⟩) h_4 rfl rfl rfl rfl (Nat.le_of_ble_eq_true rfl) dX10_copyFrom_16 ⟨Nat.le_of_ble_eq_true rfl, Nat.le_of_ble_eq_true rfl⟩ (fun r_2 Φ2 sz2 st2 hp2 hs2 => ?_)
    obtain ⟨⟨v_5, rfl⟩, hq2, hI3, hF3⟩ := hp2
    subst sz2
    replace hs2 : st2 = [.int v_5] := hs2
    subst st2
    replace hI3 : In G x (ca) Φ2 := hI3
    refine z_istore (lv' := [(4, .int v_5), (3, .int (nI i_1)), (0, .ref (x + (k))), (1, .ref (x + (q))), (2, .int a)]) B dX10_copyFrom_19 (Nat.le_of_ble_eq_true rfl) rfl ?_
    refine z_iload_n B dX10_copyFrom_21 rfl 4 rfl ?_
    refine z_iload B dX10_copyFrom_22 0 rfl ?_
    refine z_ishr B dX10_copyFrom_24 ?_
    refine z_fi (fun v_6 => ?_)
    refine z_iconst (v := 1) B dX10_copyFrom_25 rfl ?_
    refine z_iand B dX10_copyFrom_26 ?_
    refine z_fi (fun v_7 => ?_)
    refine z_iconst (v := 1) B dX10_copyFrom_27 rfl ?_
    refine z_icmp_ne (tgt := 37) B dX10_copyFrom_28 rfl (fun c_2 => ?_) (fun c_2 => ?_)
    · refine z_iinc (k := 1) (v := nI (i_1 + 1)) (lv' := [(3, .int (nI (i_1 + 1))), (4, .int v_5), (0, .ref (x + (k))), (1, .ref (x + (q))), (2, .int a)]) B dX10_copyFrom_37 rfl (nI_add i_1 1) (Nat.le_of_ble_eq_true rfl) rfl ?_
      refine z_goto (tgt := 6) B dX10_copyFrom_40 rfl ?_
      refine z_lv [0, 2, 3, 4] rfl ?_
      exact ih1 (i_1 + 1) Φ2 (show 9 - (i_1 + 1) < 9 - i_1 by omega) ⟨hI3, (fun b9 h9 => ((hF3 b9 (fun j9 h8 h7 => (show False from h7).elim)).trans ((hF2 b9 h9).trans rfl))), (show (i_1 + 1) ≤ 9 by omega), trivial⟩
    · refine z_aload_n B dX10_copyFrom_31 rfl 2 rfl ?_
      refine z_iload B dX10_copyFrom_32 0 rfl ?_
      obtain ⟨n_3, v_8, v_9, h_5, b_4⟩ := in8 (k := k) hI3 hk_k
      have h_6 : Φ2 (x + (k)) = some (o_ 12 [.ref (x + (k + 1)), .int (nI n_3), .int v_8, .int v_9]) := h_5
      refine z_callV (As := [.int v_5]) (rest := []) B (s_X10_addField G l Φ2 sz x (ca) k v_5 hx hI3 hk_k) (cwV 1 B.1.2.2.2.2 gX10_copyFrom_X10_addField rfl rfl rfl (by decide +kernel) ⟨Nat.le_of_ble_eq_true rfl, Nat.le_of_ble_eq_true rfl⟩) h_6 rfl rfl rfl rfl (Nat.le_of_ble_eq_true rfl) dX10_copyFrom_34 ⟨Nat.le_of_ble_eq_true rfl, Nat.le_of_ble_eq_true rfl⟩ (fun r_3 Φ3 sz3 st3 hp3 hs3 => ?_)
      obtain ⟨rfl, hq3, hI4, hF4⟩ := hp3
      subst sz3
      replace hs3 : st3 = [] := hs3
      subst st3
      replace hI4 : In G x (ca) Φ3 := hI4
      refine z_iinc (k := 1) (v := nI (i_1 + 1)) (lv' := [(3, .int (nI (i_1 + 1))), (4, .int v_5), (0, .ref (x + (k))), (1, .ref (x + (q))), (2, .int a)]) B dX10_copyFrom_37 rfl (nI_add i_1 1) (Nat.le_of_ble_eq_true rfl) rfl ?_
      refine z_goto (tgt := 6) B dX10_copyFrom_40 rfl ?_
      refine z_lv [0, 2, 3, 4] rfl ?_
      exact ih1 (i_1 + 1) Φ3 (show 9 - (i_1 + 1) < 9 - i_1 by omega) ⟨hI4, (fun b9 h9 => ((hF4 b9 h9).trans ((hF3 b9 (fun j9 h8 h7 => (show False from h7).elim)).trans ((hF2 b9 h9).trans rfl)))), (show (i_1 + 1) ≤ 9 by omega), trivial⟩

theorem hu_X5_byteAt_X5 : ∀ w ∈ u_ws RX5 TX5 2, w ∈ wsX5_byteAt := fun _ h => List.mem_cons_of_mem _ (List.mem_append_left _ (List.mem_append_right _ (h)))

theorem hv_X5_byteAt_9 : Cond.fieldLink RX5 9 "FlowExporter$Message" (TX5 1).2.1 (TX5 1).2.2.1 ∈ wsX5_byteAt := List.mem_cons_of_mem _ (List.mem_append_left _ (List.mem_append_left _ (List.mem_of_getElem? (i := 0) rfl)))

theorem hv_X5_byteAt_21 : Cond.fieldLink RX5 21 "FlowExporter$Message" (TX5 0).2.1 (TX5 0).2.2.1 ∈ wsX5_byteAt := List.mem_cons_of_mem _ (List.mem_append_left _ (List.mem_append_left _ (List.mem_of_getElem? (i := 1) rfl)))

set_option maxHeartbeats 4000000 in
set_option maxRecDepth 100000 in
theorem s_X5_byteAt (G : EnvG) (l : Launch) (Φ : Hm) (sz x ca : Nat) (k : Nat) (a : Int32) (hx : G.2.2.2 ≤ x) (hI : In G x ca Φ) (hk_k : kd k = 1) : Ct G l yX5_byteAt wsX5_byteAt ({ frames := 0, cells := 0, slots := 0, locals := 0 }) 0 0 [.ref (x + (k)), .int a] Φ sz (fun v Φ1 sz1 => (∃ r9 : Int32, v = some (.int r9)) ∧ sz1 = sz ∧ In G x (ca) Φ1 ∧ Fr x (fun j9 => False) Φ Φ1) := by
  refine Ct.of (cc := cX5_byteAt) (maxL := 2) (ret := (some .int)) (by decide) rfl (Nat.le_of_ble_eq_true rfl) ?_
  intro p9 e9 s9 m9 w9 t9 k9 B
  show Z p9 l e9 _ s9 m9 _ w9 t9 k9 _ G 2 0 [(0, .ref (x + (k))), (1, .int a)] [] Φ sz 0 0
  refine z_iload_n B dX5_byteAt_0 rfl 1 rfl ?_
  refine z_if_lt (tgt := 25) B dX5_byteAt_1 rfl (fun c_1 => ?_) (fun c_1 => ?_)
  · refine z_iconst (v := (-1)) B dX5_byteAt_25 rfl ?_
    exact z_ret_i B dX5_byteAt_26 ⟨⟨_, rfl⟩, rfl, hI, (fun b9 h9 => rfl)⟩
  · obtain ⟨n_1, e_1, rfl⟩ := nI_of c_1
    refine z_iload_n B dX5_byteAt_4 rfl 1 rfl ?_
    refine z_aload_n B dX5_byteAt_5 rfl 0 rfl ?_
    obtain ⟨n_2, h_1, b_1⟩ := in1 (k := k) hI hk_k
    replace b_1 : n_2 ≤ cap (k) := b_1
    have b_2 := cap_le (k)
    have h_2 : Φ (x + (k)) = some (o_ 7 [.ref (x + (k + 1)), .int (nI n_2)]) := h_1
    refine z_get (ref := "FlowExporter$Message") (C := RX5) (T := TX5) (N := 2) (ci := 7) (v := .int (nI n_2)) B hu_X5_byteAt_X5 rfl 1 (Nat.le_of_ble_eq_true rfl) hv_X5_byteAt_9 rfl h_2 rfl dX5_byteAt_6 ?_
    refine z_icmp_ge (tgt := 25) B dX5_byteAt_9 rfl (fun c_2 => ?_) (fun c_2 => ?_)
    · have e_2 : n_2 ≤ n_1 := (nI_leI (a := n_2) (b := n_1) (by omega) (by omega)).mp c_2
      refine z_iconst (v := (-1)) B dX5_byteAt_25 rfl ?_
      exact z_ret_i B dX5_byteAt_26 ⟨⟨_, rfl⟩, rfl, hI, (fun b9 h9 => rfl)⟩
    · have e_3 : ¬ (n_2 ≤ n_1) := fun h9 => c_2 ((nI_leI (a := n_2) (b := n_1) (by omega) (by omega)).mpr h9)
      refine z_aload_n B dX5_byteAt_12 rfl 0 rfl ?_
      refine z_get (ref := "FlowExporter$Message") (C := RX5) (T := TX5) (N := 2) (ci := 7) (v := .ref (x + (k + 1))) B hu_X5_byteAt_X5 rfl 0 (Nat.le_of_ble_eq_true rfl) hv_X5_byteAt_21 rfl h_2 rfl dX5_byteAt_13 ?_
      refine z_iload_n B dX5_byteAt_16 rfl 1 rfl ?_
      obtain ⟨f_1, h_3, r_1⟩ := in2 (k := k + 1) hI (kd_c hk_k)
      have b_3 := cap_le (k)
      have h_4 : Φ (x + (k + 1)) = some (ab_ G (cap (k)) f_1) := h_3
      refine z_bald B h_4 (vp_in_nI (by omega) (by omega)) dX5_byteAt_17 ?_
      refine z_fi (fun v_1 => ?_)
      refine z_sipush (v := 255) B dX5_byteAt_18 rfl ?_
      refine z_iand B dX5_byteAt_21 ?_
      refine z_fi (fun v_2 => ?_)
      refine z_goto (tgt := 26) B dX5_byteAt_22 rfl ?_
      exact z_ret_i B dX5_byteAt_26 ⟨⟨_, rfl⟩, rfl, hI, (fun b9 h9 => rfl)⟩

theorem hu_X5_numberAt_X5 : ∀ w ∈ u_ws RX5 TX5 2, w ∈ wsX5_numberAt := fun _ h => List.mem_cons_of_mem _ (List.mem_append_left _ (List.mem_append_right _ (h)))

theorem hv_X5_numberAt_9 : Cond.fieldLink RX5 9 "FlowExporter$Message" (TX5 1).2.1 (TX5 1).2.2.1 ∈ wsX5_numberAt := List.mem_cons_of_mem _ (List.mem_append_left _ (List.mem_append_left _ (List.mem_of_getElem? (i := 0) rfl)))

theorem hv_X5_numberAt_21 : Cond.fieldLink RX5 21 "FlowExporter$Message" (TX5 0).2.1 (TX5 0).2.2.1 ∈ wsX5_numberAt := List.mem_cons_of_mem _ (List.mem_append_left _ (List.mem_append_left _ (List.mem_of_getElem? (i := 1) rfl)))

set_option maxHeartbeats 4000000 in
set_option maxRecDepth 100000 in
theorem s_X5_numberAt (G : EnvG) (l : Launch) (Φ : Hm) (sz x ca : Nat) (k : Nat) (a : Int32) (n : Nat) (hx : G.2.2.2 ≤ x) (hI : In G x ca Φ) (hk_k : kd k = 1) (hn : n ≤ 8) : Ct G l yX5_numberAt wsX5_numberAt ({ frames := 0, cells := 0, slots := 0, locals := 0 }) 0 0 [.ref (x + (k)), .int a, .int (nI n)] Φ sz (fun v Φ1 sz1 => (∃ r9 : Int64, v = some (.long r9) ∧ np n r9) ∧ sz1 = sz ∧ In G x (ca) Φ1 ∧ Fr x (fun j9 => False) Φ Φ1) := by
  refine Ct.of (cc := cX5_numberAt) (maxL := 7) (ret := (some .long)) (by decide) rfl (Nat.le_of_ble_eq_true rfl) ?_
  intro p9 e9 s9 m9 w9 t9 k9 B
  show Z p9 l e9 _ s9 m9 _ w9 t9 k9 _ G 7 0 [(0, .ref (x + (k))), (1, .int a), (2, .int (nI n))] [] Φ sz 0 0
  refine z_lconst (v := 0) B dX5_numberAt_0 rfl ?_
  refine z_lstore_n (lv' := [(3, .long 0), (0, .ref (x + (k))), (1, .int a), (2, .int (nI n))]) B dX5_numberAt_1 rfl (Nat.le_of_ble_eq_true rfl) rfl ?_
  refine z_iconst (v := 0) B dX5_numberAt_2 rfl ?_
  refine z_istore (lv' := [(5, .int 0), (3, .long 0), (0, .ref (x + (k))), (1, .int a), (2, .int (nI n))]) B dX5_numberAt_3 (Nat.le_of_ble_eq_true rfl) rfl ?_
  refine z_lv [0, 1, 2, 3, 4] rfl ?_
  refine z_loop (α := Nat × Int64) (fun (a9 : Nat × Int64) Φi => In G x (ca) Φi ∧ Fr x (fun j9 => False) Φ Φi ∧ (a9.1 ≤ n) ∧ (np a9.1 a9.2) ∧ True) (fun a9 => [(5, .int (nI (a9.1))), (3, .long a9.2), (0, .ref (x + (k))), (1, .int a), (2, .int (nI n))]) (fun a9 => n - a9.1) ?_ (0, 0) ⟨hI, fun _ _ => rfl, (show 0 ≤ n by omega), np_0, trivial⟩
  rintro ⟨i_1, i_2⟩ Φl1 ⟨hI1, hF1, b_1, b_2, -⟩ ih1
  replace hI1 : In G x (ca) Φl1 := hI1
  replace b_1 : i_1 ≤ n := b_1
  replace b_2 : np i_1 i_2 := b_2
  show Z p9 l e9 _ s9 m9 _ w9 t9 k9 _ G 7 5 [(5, .int (nI i_1)), (3, .long i_2), (0, .ref (x + (k))), (1, .int a), (2, .int (nI n))] [] Φl1 _ _ _
  refine z_iload B dX5_numberAt_5 0 rfl ?_
  refine z_iload_n B dX5_numberAt_7 rfl 4 rfl ?_
  refine z_icmp_ge (tgt := 59) B dX5_numberAt_8 rfl (fun c_1 => ?_) (fun c_1 => ?_)
  · have e_1 : n ≤ i_1 := (nI_leI (a := n) (b := i_1) (by omega) (by omega)).mp c_1
    have hq9 : i_1 = n := by omega
    have hnp9 : np n i_2 := hq9 ▸ b_2
    refine z_lload_n B dX5_numberAt_59 rfl 1 rfl ?_
    exact z_ret_l B dX5_numberAt_60 ⟨⟨_, rfl, hnp9⟩, rfl, hI1, (fun b9 h9 => ((hF1 b9 (fun j9 h8 h7 => (show False from h7).elim)).trans rfl))⟩
  · have e_2 : ¬ (n ≤ i_1) := fun h9 => c_1 ((nI_leI (a := n) (b := i_1) (by omega) (by omega)).mpr h9)
    refine z_iload_n B dX5_numberAt_11 rfl 3 rfl ?_
    refine z_iload B dX5_numberAt_12 0 rfl ?_
    refine z_iadd B dX5_numberAt_14 ?_
    refine z_fi (fun v_1 => ?_)
    refine z_istore (lv' := [(6, .int v_1), (5, .int (nI i_1)), (3, .long i_2), (0, .ref (x + (k))), (1, .int a), (2, .int (nI n))]) B dX5_numberAt_15 (Nat.le_of_ble_eq_true rfl) rfl ?_
    refine z_lload_n B dX5_numberAt_17 rfl 2 rfl ?_
    refine z_bipush (v := 8) B dX5_numberAt_18 rfl ?_
    refine z_lshl (v := i_2 <<< ((8 : Int32).toInt64 &&& 63)) B dX5_numberAt_20 rfl ?_
    refine z_iload B dX5_numberAt_21 0 rfl ?_
    refine z_if_lt (tgt := 49) B dX5_numberAt_23 rfl (fun c_2 => ?_) (fun c_2 => ?_)
    · refine z_iconst (v := 0) B dX5_numberAt_49 rfl ?_
      refine z_top (st1 := [.int (nI 0), .long (i_2 <<< ((8 : Int32).toInt64 &&& 63))]) rfl ?_
      refine z_i2l (v := (nI 0).toInt64) B dX5_numberAt_50 rfl ?_
      refine z_lor B dX5_numberAt_51 ?_
      refine z_lstore_n (lv' := [(3, .long ((i_2 <<< ((8 : Int32).toInt64 &&& 63)) ||| ((nI 0).toInt64))), (6, .int v_1), (5, .int (nI i_1)), (0, .ref (x + (k))), (1, .int a), (2, .int (nI n))]) B dX5_numberAt_52 rfl (Nat.le_of_ble_eq_true rfl) rfl ?_
      refine z_iinc (k := 2) (v := nI (i_1 + 1)) (lv' := [(5, .int (nI (i_1 + 1))), (3, .long ((i_2 <<< ((8 : Int32).toInt64 &&& 63)) ||| ((nI 0).toInt64))), (6, .int v_1), (0, .ref (x + (k))), (1, .int a), (2, .int (nI n))]) B dX5_numberAt_53 rfl (nI_add i_1 1) (Nat.le_of_ble_eq_true rfl) rfl ?_
      refine z_goto (tgt := 5) B dX5_numberAt_56 rfl ?_
      refine z_lv [0, 1, 3, 4, 5] rfl ?_
      exact ih1 (i_1 + 1, (i_2 <<< ((8 : Int32).toInt64 &&& 63)) ||| ((nI 0).toInt64)) Φl1 (show n - (i_1 + 1) < n - i_1 by omega) ⟨hI1, (fun b9 h9 => ((hF1 b9 (fun j9 h8 h7 => (show False from h7).elim)).trans rfl)), (show (i_1 + 1) ≤ n by omega), (np_step b_2), trivial⟩
    · obtain ⟨n_1, e_3, rfl⟩ := nI_of c_2
      refine z_iload B dX5_numberAt_26 0 rfl ?_
      refine z_aload_n B dX5_numberAt_28 rfl 3 rfl ?_
      obtain ⟨n_2, h_1, b_3⟩ := in1 (k := k) hI1 hk_k
      replace b_3 : n_2 ≤ cap (k) := b_3
      have b_4 := cap_le (k)
      have h_2 : Φl1 (x + (k)) = some (o_ 7 [.ref (x + (k + 1)), .int (nI n_2)]) := h_1
      refine z_get (ref := "FlowExporter$Message") (C := RX5) (T := TX5) (N := 2) (ci := 7) (v := .int (nI n_2)) B hu_X5_numberAt_X5 rfl 1 (Nat.le_of_ble_eq_true rfl) hv_X5_numberAt_9 rfl h_2 rfl dX5_numberAt_29 ?_
      refine z_icmp_ge (tgt := 49) B dX5_numberAt_32 rfl (fun c_3 => ?_) (fun c_3 => ?_)
      · have e_4 : n_2 ≤ n_1 := (nI_leI (a := n_2) (b := n_1) (by omega) (by omega)).mp c_3
        refine z_iconst (v := 0) B dX5_numberAt_49 rfl ?_
        refine z_top (st1 := [.int (nI 0), .long (i_2 <<< ((8 : Int32).toInt64 &&& 63))]) rfl ?_
        refine z_i2l (v := (nI 0).toInt64) B dX5_numberAt_50 rfl ?_
        refine z_lor B dX5_numberAt_51 ?_
        refine z_lstore_n (lv' := [(3, .long ((i_2 <<< ((8 : Int32).toInt64 &&& 63)) ||| ((nI 0).toInt64))), (6, .int (nI n_1)), (5, .int (nI i_1)), (0, .ref (x + (k))), (1, .int a), (2, .int (nI n))]) B dX5_numberAt_52 rfl (Nat.le_of_ble_eq_true rfl) rfl ?_
        refine z_iinc (k := 2) (v := nI (i_1 + 1)) (lv' := [(5, .int (nI (i_1 + 1))), (3, .long ((i_2 <<< ((8 : Int32).toInt64 &&& 63)) ||| ((nI 0).toInt64))), (6, .int (nI n_1)), (0, .ref (x + (k))), (1, .int a), (2, .int (nI n))]) B dX5_numberAt_53 rfl (nI_add i_1 1) (Nat.le_of_ble_eq_true rfl) rfl ?_
        refine z_goto (tgt := 5) B dX5_numberAt_56 rfl ?_
        refine z_lv [0, 1, 3, 4, 5] rfl ?_
        exact ih1 (i_1 + 1, (i_2 <<< ((8 : Int32).toInt64 &&& 63)) ||| ((nI 0).toInt64)) Φl1 (show n - (i_1 + 1) < n - i_1 by omega) ⟨hI1, (fun b9 h9 => ((hF1 b9 (fun j9 h8 h7 => (show False from h7).elim)).trans rfl)), (show (i_1 + 1) ≤ n by omega), (np_step b_2), trivial⟩
      · have e_5 : ¬ (n_2 ≤ n_1) := fun h9 => c_3 ((nI_leI (a := n_2) (b := n_1) (by omega) (by omega)).mpr h9)
        refine z_aload_n B dX5_numberAt_35 rfl 3 rfl ?_
        refine z_get (ref := "FlowExporter$Message") (C := RX5) (T := TX5) (N := 2) (ci := 7) (v := .ref (x + (k + 1))) B hu_X5_numberAt_X5 rfl 0 (Nat.le_of_ble_eq_true rfl) hv_X5_numberAt_21 rfl h_2 rfl dX5_numberAt_36 ?_
        refine z_iload B dX5_numberAt_39 0 rfl ?_
        obtain ⟨f_1, h_3, r_1⟩ := in2 (k := k + 1) hI1 (kd_c hk_k)
        have b_5 := cap_le (k)
        have h_4 : Φl1 (x + (k + 1)) = some (ab_ G (cap (k)) f_1) := h_3
        refine z_bald B h_4 (vp_in_nI (by omega) (by omega)) dX5_numberAt_41 ?_
        refine z_fi (fun v_2 => ?_)
        refine z_sipush (v := 255) B dX5_numberAt_42 rfl ?_
        refine z_iand B dX5_numberAt_45 ?_
        obtain ⟨n_3, b_6, e_6⟩ := and255 v_2
        refine z_top (st1 := [.int (nI n_3), .long (i_2 <<< ((8 : Int32).toInt64 &&& 63))]) (congrArg (fun w9 : Int32 => ([.int w9, .long (i_2 <<< ((8 : Int32).toInt64 &&& 63))] : List Value)) (e_6)) ?_
        refine z_goto (tgt := 50) B dX5_numberAt_46 rfl ?_
        refine z_i2l (v := (nI n_3).toInt64) B dX5_numberAt_50 rfl ?_
        refine z_lor B dX5_numberAt_51 ?_
        refine z_lstore_n (lv' := [(3, .long ((i_2 <<< ((8 : Int32).toInt64 &&& 63)) ||| ((nI n_3).toInt64))), (6, .int (nI n_1)), (5, .int (nI i_1)), (0, .ref (x + (k))), (1, .int a), (2, .int (nI n))]) B dX5_numberAt_52 rfl (Nat.le_of_ble_eq_true rfl) rfl ?_
        refine z_iinc (k := 2) (v := nI (i_1 + 1)) (lv' := [(5, .int (nI (i_1 + 1))), (3, .long ((i_2 <<< ((8 : Int32).toInt64 &&& 63)) ||| ((nI n_3).toInt64))), (6, .int (nI n_1)), (0, .ref (x + (k))), (1, .int a), (2, .int (nI n))]) B dX5_numberAt_53 rfl (nI_add i_1 1) (Nat.le_of_ble_eq_true rfl) rfl ?_
        refine z_goto (tgt := 5) B dX5_numberAt_56 rfl ?_
        refine z_lv [0, 1, 3, 4, 5] rfl ?_
        exact ih1 (i_1 + 1, (i_2 <<< ((8 : Int32).toInt64 &&& 63)) ||| ((nI n_3).toInt64)) Φl1 (show n - (i_1 + 1) < n - i_1 by omega) ⟨hI1, (fun b9 h9 => ((hF1 b9 (fun j9 h8 h7 => (show False from h7).elim)).trans rfl)), (show (i_1 + 1) ≤ n by omega), (np_step b_2), trivial⟩

set_option maxHeartbeats 4000000 in
set_option maxRecDepth 100000 in
theorem s_X5_intAt (G : EnvG) (l : Launch) (Φ : Hm) (sz x ca : Nat) (k : Nat) (a : Int32) (n : Nat) (hx : G.2.2.2 ≤ x) (hI : In G x ca Φ) (hk_k : kd k = 1) (hn : n ≤ 8) : Ct G l yX5_intAt wsX5_intAt ({ frames := 1, cells := 0, slots := 0, locals := 26 }) 0 0 [.ref (x + (k)), .int a, .int (nI n)] Φ sz (fun v Φ1 sz1 => (∃ r9 : Int32, v = some (.int r9)) ∧ sz1 = sz ∧ In G x (ca) Φ1 ∧ Fr x (fun j9 => False) Φ Φ1) := by
  refine Ct.of (cc := cX5_intAt) (maxL := 3) (ret := (some .int)) (by decide) rfl (Nat.le_of_ble_eq_true rfl) ?_
  intro p9 e9 s9 m9 w9 t9 k9 B
  show Z p9 l e9 _ s9 m9 _ w9 t9 k9 _ G 3 0 [(0, .ref (x + (k))), (1, .int a), (2, .int (nI n))] [] Φ sz 0 0
  refine z_aload_n B dX5_intAt_0 rfl 0 rfl ?_
  refine z_iload_n B dX5_intAt_1 rfl 1 rfl ?_
  refine z_iload_n B dX5_intAt_2 rfl 2 rfl ?_
  obtain ⟨n_1, h_1, b_1⟩ := in1 (k := k) hI hk_k
  replace b_1 : n_1 ≤ cap (k) := b_1
  have b_2 := cap_le (k)
  have h_2 : Φ (x + (k)) = some (o_ 7 [.ref (x + (k + 1)), .int (nI n_1)]) := h_1
  refine z_callV (As := [.int a, .int (nI n)]) (rest := []) B (s_X5_numberAt G l Φ sz x (ca) k a n hx hI hk_k (show n ≤ 8 by omega)) (cwV 2 B.1.2.2.2.2 gX5_intAt_X5_numberAt rfl rfl rfl (by decide +kernel) ⟨Nat.le_of_ble_eq_true rfl, Nat.le_of_ble_eq_true rfl⟩) h_2 rfl rfl rfl rfl (Nat.le_of_ble_eq_true rfl) dX5_intAt_3 ⟨Nat.le_of_ble_eq_true rfl, Nat.le_of_ble_eq_true rfl⟩ (fun r_1 Φ1 sz1 st1 hp1 hs1 => ?_)
  obtain ⟨⟨v_1, rfl, q_1⟩, hq1, hI1, hF1⟩ := hp1
  subst sz1
  replace hs1 : st1 = [.long v_1] := hs1
  subst st1
  replace hI1 : In G x (ca) Φ1 := hI1
  refine z_l2i (v := v_1.toInt32) B dX5_intAt_6 rfl ?_
  refine z_fi (fun v_2 => ?_)
  exact z_ret_i B dX5_intAt_7 ⟨⟨_, rfl⟩, rfl, hI1, (fun b9 h9 => ((hF1 b9 (fun j9 h8 h7 => (show False from h7).elim)).trans rfl))⟩

theorem hu_X5_putAt_X5 : ∀ w ∈ u_ws RX5 TX5 2, w ∈ wsX5_putAt := fun _ h => List.mem_cons_of_mem _ (List.mem_append_left _ (List.mem_append_right _ (h)))

theorem hv_X5_putAt_9 : Cond.fieldLink RX5 9 "FlowExporter$Message" (TX5 1).2.1 (TX5 1).2.2.1 ∈ wsX5_putAt := List.mem_cons_of_mem _ (List.mem_append_left _ (List.mem_append_left _ (List.mem_of_getElem? (i := 0) rfl)))

theorem hv_X5_putAt_21 : Cond.fieldLink RX5 21 "FlowExporter$Message" (TX5 0).2.1 (TX5 0).2.2.1 ∈ wsX5_putAt := List.mem_cons_of_mem _ (List.mem_append_left _ (List.mem_append_left _ (List.mem_of_getElem? (i := 1) rfl)))

set_option maxHeartbeats 4000000 in
set_option maxRecDepth 100000 in
theorem s_X5_putAt (G : EnvG) (l : Launch) (Φ : Hm) (sz x ca : Nat) (k : Nat) (a : Int32) (b : Int64) (n : Nat) (hx : G.2.2.2 ≤ x) (hI : In G x ca Φ) (hk_k : kd k = 1) (hn : n ≤ 8) : Ct G l yX5_putAt wsX5_putAt ({ frames := 0, cells := 0, slots := 0, locals := 0 }) 0 0 [.ref (x + (k)), .int a, .long b, .int (nI n)] Φ sz (fun v Φ1 sz1 => (v = none) ∧ sz1 = sz ∧ In G x (ca) Φ1 ∧ Fr x (fun j9 => j9 = k + 1) Φ Φ1) := by
  refine Ct.of (cc := cX5_putAt) (maxL := 7) (ret := none) (by decide) rfl (Nat.le_of_ble_eq_true rfl) ?_
  intro p9 e9 s9 m9 w9 t9 k9 B
  show Z p9 l e9 _ s9 m9 _ w9 t9 k9 _ G 7 0 [(0, .ref (x + (k))), (1, .int a), (2, .long b), (4, .int (nI n))] [] Φ sz 0 0
  refine z_iconst (v := 0) B dX5_putAt_0 rfl ?_
  refine z_istore (lv' := [(5, .int 0), (0, .ref (x + (k))), (1, .int a), (2, .long b), (4, .int (nI n))]) B dX5_putAt_1 (Nat.le_of_ble_eq_true rfl) rfl ?_
  refine z_lv [0, 1, 2, 3, 4] rfl ?_
  refine z_loop (α := Nat) (fun (a9 : Nat) Φi => In G x (ca) Φi ∧ Fr x (fun j9 => j9 = k + 1) Φ Φi ∧ (a9 ≤ n) ∧ True) (fun a9 => [(5, .int (nI a9)), (0, .ref (x + (k))), (1, .int a), (2, .long b), (4, .int (nI n))]) (fun a9 => n - a9) ?_ (0) ⟨hI, fun _ _ => rfl, (show 0 ≤ n by omega), trivial⟩
  rintro i_1 Φl1 ⟨hI1, hF1, b_1, -⟩ ih1
  replace hI1 : In G x (ca) Φl1 := hI1
  replace b_1 : i_1 ≤ n := b_1
  show Z p9 l e9 _ s9 m9 _ w9 t9 k9 _ G 7 3 [(5, .int (nI i_1)), (0, .ref (x + (k))), (1, .int a), (2, .long b), (4, .int (nI n))] [] Φl1 _ _ _
  refine z_iload B dX5_putAt_3 0 rfl ?_
  refine z_iload B dX5_putAt_5 4 rfl ?_
  refine z_icmp_ge (tgt := 57) B dX5_putAt_7 rfl (fun c_1 => ?_) (fun c_1 => ?_)
  · have e_1 : n ≤ i_1 := (nI_leI (a := n) (b := i_1) (by omega) (by omega)).mp c_1
    exact z_ret_v B dX5_putAt_57 ⟨rfl, rfl, hI1, (fun b9 h9 => ((hF1 b9 h9).trans rfl))⟩
  · have e_2 : ¬ (n ≤ i_1) := fun h9 => c_1 ((nI_leI (a := n) (b := i_1) (by omega) (by omega)).mpr h9)
    refine z_iload_n B dX5_putAt_10 rfl 2 rfl ?_
    refine z_iload B dX5_putAt_11 0 rfl ?_
    refine z_iadd B dX5_putAt_13 ?_
    refine z_fi (fun v_1 => ?_)
    refine z_istore (lv' := [(6, .int v_1), (5, .int (nI i_1)), (0, .ref (x + (k))), (1, .int a), (2, .long b), (4, .int (nI n))]) B dX5_putAt_14 (Nat.le_of_ble_eq_true rfl) rfl ?_
    refine z_iload B dX5_putAt_16 0 rfl ?_
    refine z_if_lt (tgt := 51) B dX5_putAt_18 rfl (fun c_2 => ?_) (fun c_2 => ?_)
    · refine z_iinc (k := 1) (v := nI (i_1 + 1)) (lv' := [(5, .int (nI (i_1 + 1))), (6, .int v_1), (0, .ref (x + (k))), (1, .int a), (2, .long b), (4, .int (nI n))]) B dX5_putAt_51 rfl (nI_add i_1 1) (Nat.le_of_ble_eq_true rfl) rfl ?_
      refine z_goto (tgt := 3) B dX5_putAt_54 rfl ?_
      refine z_lv [0, 2, 3, 4, 5] rfl ?_
      exact ih1 (i_1 + 1) Φl1 (show n - (i_1 + 1) < n - i_1 by omega) ⟨hI1, (fun b9 h9 => ((hF1 b9 h9).trans rfl)), (show (i_1 + 1) ≤ n by omega), trivial⟩
    · obtain ⟨n_1, e_3, rfl⟩ := nI_of c_2
      refine z_iload B dX5_putAt_21 0 rfl ?_
      refine z_aload_n B dX5_putAt_23 rfl 2 rfl ?_
      obtain ⟨n_2, h_1, b_2⟩ := in1 (k := k) hI1 hk_k
      replace b_2 : n_2 ≤ cap (k) := b_2
      have b_3 := cap_le (k)
      have h_2 : Φl1 (x + (k)) = some (o_ 7 [.ref (x + (k + 1)), .int (nI n_2)]) := h_1
      refine z_get (ref := "FlowExporter$Message") (C := RX5) (T := TX5) (N := 2) (ci := 7) (v := .int (nI n_2)) B hu_X5_putAt_X5 rfl 1 (Nat.le_of_ble_eq_true rfl) hv_X5_putAt_9 rfl h_2 rfl dX5_putAt_24 ?_
      refine z_icmp_ge (tgt := 51) B dX5_putAt_27 rfl (fun c_3 => ?_) (fun c_3 => ?_)
      · have e_4 : n_2 ≤ n_1 := (nI_leI (a := n_2) (b := n_1) (by omega) (by omega)).mp c_3
        refine z_iinc (k := 1) (v := nI (i_1 + 1)) (lv' := [(5, .int (nI (i_1 + 1))), (6, .int (nI n_1)), (0, .ref (x + (k))), (1, .int a), (2, .long b), (4, .int (nI n))]) B dX5_putAt_51 rfl (nI_add i_1 1) (Nat.le_of_ble_eq_true rfl) rfl ?_
        refine z_goto (tgt := 3) B dX5_putAt_54 rfl ?_
        refine z_lv [0, 2, 3, 4, 5] rfl ?_
        exact ih1 (i_1 + 1) Φl1 (show n - (i_1 + 1) < n - i_1 by omega) ⟨hI1, (fun b9 h9 => ((hF1 b9 h9).trans rfl)), (show (i_1 + 1) ≤ n by omega), trivial⟩
      · have e_5 : ¬ (n_2 ≤ n_1) := fun h9 => c_3 ((nI_leI (a := n_2) (b := n_1) (by omega) (by omega)).mpr h9)
        refine z_aload_n B dX5_putAt_30 rfl 2 rfl ?_
        refine z_get (ref := "FlowExporter$Message") (C := RX5) (T := TX5) (N := 2) (ci := 7) (v := .ref (x + (k + 1))) B hu_X5_putAt_X5 rfl 0 (Nat.le_of_ble_eq_true rfl) hv_X5_putAt_21 rfl h_2 rfl dX5_putAt_31 ?_
        refine z_iload B dX5_putAt_34 0 rfl ?_
        refine z_lload_n B dX5_putAt_36 rfl 4 rfl ?_
        refine z_bipush (v := 8) B dX5_putAt_37 rfl ?_
        refine z_iload B dX5_putAt_39 5 rfl ?_
        refine z_iconst (v := 1) B dX5_putAt_41 rfl ?_
        refine z_isub B dX5_putAt_42 ?_
        refine z_fi (fun v_2 => ?_)
        refine z_iload B dX5_putAt_43 1 rfl ?_
        refine z_isub B dX5_putAt_45 ?_
        refine z_fi (fun v_3 => ?_)
        refine z_imul B dX5_putAt_46 ?_
        refine z_fi (fun v_4 => ?_)
        refine z_lshr (v := b >>> ((v_4 : Int32).toInt64 &&& 63)) B dX5_putAt_47 rfl ?_
        refine z_fl (fun v_5 => ?_)
        refine z_l2i (v := v_5.toInt32) B dX5_putAt_48 rfl ?_
        refine z_fi (fun v_6 => ?_)
        refine z_i2b (v := v_6.toInt8.toInt32) B dX5_putAt_49 rfl ?_
        refine z_fi (fun v_7 => ?_)
        obtain ⟨f_1, h_3, r_1⟩ := in2 (k := k + 1) hI1 (kd_c hk_k)
        have b_4 := cap_le (k)
        have h_4 : Φl1 (x + (k + 1)) = some (ab_ G (cap (k)) f_1) := h_3
        refine z_bast B h_4 (by omega) (vp_in_nI (by omega) (by omega)) dX5_putAt_50 (fun Φ1 hΦ1 => ?_)
        have h_5 : Φ1 (x + (k + 1)) = some (ab_ G (cap (k)) (upd f_1 (nI n_1).toNatClampNeg (vp_nar .byte v_7))) := fset_at hΦ1
        have hI2 : In G x (ca) Φ1 := In.put (k := k + 1) hI1 hΦ1 (ok2 (k := k + 1) (kd_c hk_k) ⟨_, rfl, upd_fit r_1⟩)
        refine z_iinc (k := 1) (v := nI (i_1 + 1)) (lv' := [(5, .int (nI (i_1 + 1))), (6, .int (nI n_1)), (0, .ref (x + (k))), (1, .int a), (2, .long b), (4, .int (nI n))]) B dX5_putAt_51 rfl (nI_add i_1 1) (Nat.le_of_ble_eq_true rfl) rfl ?_
        refine z_goto (tgt := 3) B dX5_putAt_54 rfl ?_
        refine z_lv [0, 2, 3, 4, 5] rfl ?_
        exact ih1 (i_1 + 1) Φ1 (show n - (i_1 + 1) < n - i_1 by omega) ⟨hI2, (fun b9 h9 => ((fset_fr hΦ1 (fun h8 => h9 (k + 1) h8 (show (k + 1) = k + 1 by omega))).trans ((hF1 b9 h9).trans rfl))), (show (i_1 + 1) ≤ n by omega), trivial⟩

theorem hu_X1_template_X1 : ∀ w ∈ u_ws RX1 TX1 6, w ∈ wsX1_template := fun _ h => List.mem_cons_of_mem _ (List.mem_append_right _ (h))

theorem hv_X1_template_20 : Cond.fieldLink RX1 20 "FlowExporter$Config" (TX1 2).2.1 (TX1 2).2.2.1 ∈ wsX1_template := List.mem_cons_of_mem _ (List.mem_append_left _ (List.mem_of_getElem? (i := 0) rfl))

set_option maxHeartbeats 4000000 in
set_option maxRecDepth 100000 in
theorem s_X1_template (G : EnvG) (l : Launch) (Φ : Hm) (sz x ca : Nat) (k : Nat) (a : Int32) (hx : G.2.2.2 ≤ x) (hI : In G x ca Φ) (hk_k : kd k = 3) : Ct G l yX1_template wsX1_template ({ frames := 0, cells := 0, slots := 0, locals := 0 }) 0 0 [.ref (x + (k)), .int a] Φ sz (fun v Φ1 sz1 => (∃ m9 : Nat, m9 < 4 ∧ v = some (.ref (x + (k + 5 + 4 * m9)))) ∧ sz1 = sz ∧ In G x (ca) Φ1 ∧ Fr x (fun j9 => False) Φ Φ1) := by
  refine Ct.of (cc := cX1_template) (maxL := 2) (ret := (some (.object "FlowExporter$Template"))) (by decide) rfl (Nat.le_of_ble_eq_true rfl) ?_
  intro p9 e9 s9 m9 w9 t9 k9 B
  show Z p9 l e9 _ s9 m9 _ w9 t9 k9 _ G 2 0 [(0, .ref (x + (k))), (1, .int a)] [] Φ sz 0 0
  refine z_aload_n B dX1_template_0 rfl 0 rfl ?_
  obtain ⟨v_1, v_2, h_1⟩ := in3 (k := k) hI hk_k
  have h_2 : Φ (x + (k)) = some (o_ 3 [.ref (x + (k + 1)), .ref (x + (k + 2)), .ref (x + (k + 3)), .ref (x + (k + 4)), .int v_1, .int v_2]) := h_1
  refine z_get (ref := "FlowExporter$Config") (C := RX1) (T := TX1) (N := 6) (ci := 3) (v := .ref (x + (k + 3))) B hu_X1_template_X1 rfl 2 (Nat.le_of_ble_eq_true rfl) hv_X1_template_20 rfl h_2 rfl dX1_template_1 ?_
  refine z_iload_n B dX1_template_4 rfl 1 rfl ?_
  refine z_if_lt (tgt := 17) B dX1_template_5 rfl (fun c_1 => ?_) (fun c_1 => ?_)
  · refine z_iconst (v := 0) B dX1_template_17 rfl ?_
    obtain ⟨f_1, h_3, r_1⟩ := in6 (k := k + 3) hI (kd_s hk_k).2.2.1
    have h_4 : Φ (x + (k + 3)) = some (aq_ G 4 4 f_1) := h_3
    refine z_aald (b := x + (k + 3 + 2 + 4 * 0)) B rfl h_4 (vin rfl) ((r_1 0 (by omega))) dX1_template_18 ?_
    exact z_ret_a B dX1_template_19 ⟨⟨0, by omega, rfl⟩, rfl, hI, (fun b9 h9 => rfl)⟩
  · obtain ⟨n_1, e_1, rfl⟩ := nI_of c_1
    refine z_iload_n B dX1_template_8 rfl 1 rfl ?_
    refine z_iconst (v := 4) B dX1_template_9 rfl ?_
    refine z_icmp_ge (tgt := 17) B dX1_template_10 rfl (fun c_2 => ?_) (fun c_2 => ?_)
    · have e_2 : 4 ≤ n_1 := (nI_leI (a := 4) (b := n_1) (by omega) (by omega)).mp c_2
      refine z_iconst (v := 0) B dX1_template_17 rfl ?_
      obtain ⟨f_2, h_5, r_2⟩ := in6 (k := k + 3) hI (kd_s hk_k).2.2.1
      have h_6 : Φ (x + (k + 3)) = some (aq_ G 4 4 f_2) := h_5
      refine z_aald (b := x + (k + 3 + 2 + 4 * 0)) B rfl h_6 (vin rfl) ((r_2 0 (by omega))) dX1_template_18 ?_
      exact z_ret_a B dX1_template_19 ⟨⟨0, by omega, rfl⟩, rfl, hI, (fun b9 h9 => rfl)⟩
    · have e_3 : ¬ (4 ≤ n_1) := fun h9 => c_2 ((nI_leI (a := 4) (b := n_1) (by omega) (by omega)).mpr h9)
      refine z_iload_n B dX1_template_13 rfl 1 rfl ?_
      refine z_goto (tgt := 18) B dX1_template_14 rfl ?_
      obtain ⟨f_3, h_7, r_3⟩ := in6 (k := k + 3) hI (kd_s hk_k).2.2.1
      have h_8 : Φ (x + (k + 3)) = some (aq_ G 4 4 f_3) := h_7
      refine z_aald (b := x + (k + 3 + 2 + 4 * n_1)) B rfl h_8 (vp_in_nI (by omega) (by omega)) ((congrArg f_3 (nI_clamp (by omega))).trans (r_3 n_1 (by omega))) dX1_template_18 ?_
      exact z_ret_a B dX1_template_19 ⟨⟨n_1, by omega, rfl⟩, rfl, hI, (fun b9 h9 => rfl)⟩

theorem hu_X1_effective_X1 : ∀ w ∈ u_ws RX1 TX1 6, w ∈ wsX1_effective := fun _ h => List.mem_cons_of_mem _ (List.mem_append_right _ (h))

theorem hv_X1_effective_24 : Cond.fieldLink RX1 24 "FlowExporter$Config" (TX1 3).2.1 (TX1 3).2.2.1 ∈ wsX1_effective := List.mem_cons_of_mem _ (List.mem_append_left _ (List.mem_of_getElem? (i := 0) rfl))

set_option maxHeartbeats 4000000 in
set_option maxRecDepth 100000 in
theorem s_X1_effective (G : EnvG) (l : Launch) (Φ : Hm) (sz x ca : Nat) (k : Nat) (a : Int32) (hx : G.2.2.2 ≤ x) (hI : In G x ca Φ) (hk_k : kd k = 3) : Ct G l yX1_effective wsX1_effective ({ frames := 0, cells := 0, slots := 0, locals := 0 }) 0 0 [.ref (x + (k)), .int a] Φ sz (fun v Φ1 sz1 => (∃ m9 : Nat, m9 < 4 ∧ v = some (.ref (x + (k + 7 + 4 * m9)))) ∧ sz1 = sz ∧ In G x (ca) Φ1 ∧ Fr x (fun j9 => False) Φ Φ1) := by
  refine Ct.of (cc := cX1_effective) (maxL := 2) (ret := (some (.object "FlowExporter$Template"))) (by decide) rfl (Nat.le_of_ble_eq_true rfl) ?_
  intro p9 e9 s9 m9 w9 t9 k9 B
  show Z p9 l e9 _ s9 m9 _ w9 t9 k9 _ G 2 0 [(0, .ref (x + (k))), (1, .int a)] [] Φ sz 0 0
  refine z_aload_n B dX1_effective_0 rfl 0 rfl ?_
  obtain ⟨v_1, v_2, h_1⟩ := in3 (k := k) hI hk_k
  have h_2 : Φ (x + (k)) = some (o_ 3 [.ref (x + (k + 1)), .ref (x + (k + 2)), .ref (x + (k + 3)), .ref (x + (k + 4)), .int v_1, .int v_2]) := h_1
  refine z_get (ref := "FlowExporter$Config") (C := RX1) (T := TX1) (N := 6) (ci := 3) (v := .ref (x + (k + 4))) B hu_X1_effective_X1 rfl 3 (Nat.le_of_ble_eq_true rfl) hv_X1_effective_24 rfl h_2 rfl dX1_effective_1 ?_
  refine z_iload_n B dX1_effective_4 rfl 1 rfl ?_
  refine z_if_lt (tgt := 17) B dX1_effective_5 rfl (fun c_1 => ?_) (fun c_1 => ?_)
  · refine z_iconst (v := 0) B dX1_effective_17 rfl ?_
    obtain ⟨f_1, h_3, r_1⟩ := in7 (k := k + 4) hI (kd_s hk_k).2.2.2
    have h_4 : Φ (x + (k + 4)) = some (aq_ G 4 4 f_1) := h_3
    refine z_aald (b := x + (k + 4 + 3 + 4 * 0)) B rfl h_4 (vin rfl) ((r_1 0 (by omega))) dX1_effective_18 ?_
    exact z_ret_a B dX1_effective_19 ⟨⟨0, by omega, rfl⟩, rfl, hI, (fun b9 h9 => rfl)⟩
  · obtain ⟨n_1, e_1, rfl⟩ := nI_of c_1
    refine z_iload_n B dX1_effective_8 rfl 1 rfl ?_
    refine z_iconst (v := 4) B dX1_effective_9 rfl ?_
    refine z_icmp_ge (tgt := 17) B dX1_effective_10 rfl (fun c_2 => ?_) (fun c_2 => ?_)
    · have e_2 : 4 ≤ n_1 := (nI_leI (a := 4) (b := n_1) (by omega) (by omega)).mp c_2
      refine z_iconst (v := 0) B dX1_effective_17 rfl ?_
      obtain ⟨f_2, h_5, r_2⟩ := in7 (k := k + 4) hI (kd_s hk_k).2.2.2
      have h_6 : Φ (x + (k + 4)) = some (aq_ G 4 4 f_2) := h_5
      refine z_aald (b := x + (k + 4 + 3 + 4 * 0)) B rfl h_6 (vin rfl) ((r_2 0 (by omega))) dX1_effective_18 ?_
      exact z_ret_a B dX1_effective_19 ⟨⟨0, by omega, rfl⟩, rfl, hI, (fun b9 h9 => rfl)⟩
    · have e_3 : ¬ (4 ≤ n_1) := fun h9 => c_2 ((nI_leI (a := 4) (b := n_1) (by omega) (by omega)).mpr h9)
      refine z_iload_n B dX1_effective_13 rfl 1 rfl ?_
      refine z_goto (tgt := 18) B dX1_effective_14 rfl ?_
      obtain ⟨f_3, h_7, r_3⟩ := in7 (k := k + 4) hI (kd_s hk_k).2.2.2
      have h_8 : Φ (x + (k + 4)) = some (aq_ G 4 4 f_3) := h_7
      refine z_aald (b := x + (k + 4 + 3 + 4 * n_1)) B rfl h_8 (vp_in_nI (by omega) (by omega)) ((congrArg f_3 (nI_clamp (by omega))).trans (r_3 n_1 (by omega))) dX1_effective_18 ?_
      exact z_ret_a B dX1_effective_19 ⟨⟨n_1, by omega, rfl⟩, rfl, hI, (fun b9 h9 => rfl)⟩

theorem hu_X1_set_X1 : ∀ w ∈ u_ws RX1 TX1 6, w ∈ wsX1_set := fun _ h => List.mem_cons_of_mem _ (List.mem_append_left _ (List.mem_append_right _ (h)))

theorem hv_X1_set_9 : Cond.fieldLink RX1 9 "FlowExporter$Config" (TX1 0).2.1 (TX1 0).2.2.1 ∈ wsX1_set := List.mem_cons_of_mem _ (List.mem_append_left _ (List.mem_append_left _ (List.mem_of_getElem? (i := 0) rfl)))

set_option maxHeartbeats 4000000 in
set_option maxRecDepth 100000 in
theorem s_X1_set (G : EnvG) (l : Launch) (Φ : Hm) (sz x ca : Nat) (k : Nat) (a : Int32) (b : Nat) (hx : G.2.2.2 ≤ x) (hI : In G x ca Φ) (hk_k : kd k = 3) (hb : b < 2 ^ 31) : Ct G l yX1_set wsX1_set ({ frames := 0, cells := 0, slots := 0, locals := 0 }) 0 0 [.ref (x + (k)), .int a, .int (nI b)] Φ sz (fun v Φ1 sz1 => (v = none) ∧ sz1 = sz ∧ In G x (ca) Φ1 ∧ Fr x (fun j9 => j9 = k + 1) Φ Φ1) := by
  refine Ct.of (cc := cX1_set) (maxL := 3) (ret := none) (by decide) rfl (Nat.le_of_ble_eq_true rfl) ?_
  intro p9 e9 s9 m9 w9 t9 k9 B
  show Z p9 l e9 _ s9 m9 _ w9 t9 k9 _ G 3 0 [(0, .ref (x + (k))), (1, .int a), (2, .int (nI b))] [] Φ sz 0 0
  refine z_iload_n B dX1_set_0 rfl 1 rfl ?_
  refine z_if_lt (tgt := 17) B dX1_set_1 rfl (fun c_1 => ?_) (fun c_1 => ?_)
  · exact z_ret_v B dX1_set_17 ⟨rfl, rfl, hI, (fun b9 h9 => rfl)⟩
  · obtain ⟨n_1, e_1, rfl⟩ := nI_of c_1
    refine z_iload_n B dX1_set_4 rfl 1 rfl ?_
    refine z_bipush (v := 9) B dX1_set_5 rfl ?_
    refine z_icmp_ge (tgt := 17) B dX1_set_7 rfl (fun c_2 => ?_) (fun c_2 => ?_)
    · have e_2 : 9 ≤ n_1 := (nI_leI (a := 9) (b := n_1) (by omega) (by omega)).mp c_2
      exact z_ret_v B dX1_set_17 ⟨rfl, rfl, hI, (fun b9 h9 => rfl)⟩
    · have e_3 : ¬ (9 ≤ n_1) := fun h9 => c_2 ((nI_leI (a := 9) (b := n_1) (by omega) (by omega)).mpr h9)
      refine z_aload_n B dX1_set_10 rfl 0 rfl ?_
      obtain ⟨v_1, v_2, h_1⟩ := in3 (k := k) hI hk_k
      have h_2 : Φ (x + (k)) = some (o_ 3 [.ref (x + (k + 1)), .ref (x + (k + 2)), .ref (x + (k + 3)), .ref (x + (k + 4)), .int v_1, .int v_2]) := h_1
      refine z_get (ref := "FlowExporter$Config") (C := RX1) (T := TX1) (N := 6) (ci := 3) (v := .ref (x + (k + 1))) B hu_X1_set_X1 rfl 0 (Nat.le_of_ble_eq_true rfl) hv_X1_set_9 rfl h_2 rfl dX1_set_11 ?_
      refine z_iload_n B dX1_set_14 rfl 1 rfl ?_
      refine z_iload_n B dX1_set_15 rfl 2 rfl ?_
      obtain ⟨f_1, h_3, r_1⟩ := in4 (k := k + 1) hI (kd_s hk_k).1
      have h_4 : Φ (x + (k + 1)) = some (ai_ G 9 f_1) := h_3
      refine z_iast B h_4 (by omega) (vp_in_nI (by omega) (by omega)) dX1_set_16 (fun Φ1 hΦ1 => ?_)
      have h_5 : Φ1 (x + (k + 1)) = some (ai_ G 9 (upd f_1 (nI n_1).toNatClampNeg (nI b))) := fset_at hΦ1
      have hI1 : In G x (ca) Φ1 := In.put (k := k + 1) hI hΦ1 (ok4 (k := k + 1) (kd_s hk_k).1 ⟨_, rfl, upd_nn r_1 (nI_pos hb)⟩)
      exact z_ret_v B dX1_set_17 ⟨rfl, rfl, hI1, (fun b9 h9 => ((fset_fr hΦ1 (fun h8 => h9 (k + 1) h8 (show (k + 1) = k + 1 by omega))).trans rfl))⟩

theorem hu_X1_get_X1 : ∀ w ∈ u_ws RX1 TX1 6, w ∈ wsX1_get := fun _ h => List.mem_cons_of_mem _ (List.mem_append_left _ (List.mem_append_right _ (h)))

theorem hv_X1_get_9 : Cond.fieldLink RX1 9 "FlowExporter$Config" (TX1 0).2.1 (TX1 0).2.2.1 ∈ wsX1_get := List.mem_cons_of_mem _ (List.mem_append_left _ (List.mem_append_left _ (List.mem_of_getElem? (i := 0) rfl)))

set_option maxHeartbeats 4000000 in
set_option maxRecDepth 100000 in
theorem s_X1_get (G : EnvG) (l : Launch) (Φ : Hm) (sz x ca : Nat) (k : Nat) (a : Int32) (hx : G.2.2.2 ≤ x) (hI : In G x ca Φ) (hk_k : kd k = 3) : Ct G l yX1_get wsX1_get ({ frames := 0, cells := 0, slots := 0, locals := 0 }) 0 0 [.ref (x + (k)), .int a] Φ sz (fun v Φ1 sz1 => (∃ n9 : Nat, v = some (.int (nI n9)) ∧ n9 < 2 ^ 31) ∧ sz1 = sz ∧ In G x (ca) Φ1 ∧ Fr x (fun j9 => False) Φ Φ1) := by
  refine Ct.of (cc := cX1_get) (maxL := 2) (ret := (some .int)) (by decide) rfl (Nat.le_of_ble_eq_true rfl) ?_
  intro p9 e9 s9 m9 w9 t9 k9 B
  show Z p9 l e9 _ s9 m9 _ w9 t9 k9 _ G 2 0 [(0, .ref (x + (k))), (1, .int a)] [] Φ sz 0 0
  refine z_iload_n B dX1_get_0 rfl 1 rfl ?_
  refine z_if_lt (tgt := 19) B dX1_get_1 rfl (fun c_1 => ?_) (fun c_1 => ?_)
  · refine z_iconst (v := 0) B dX1_get_19 rfl ?_
    exact z_ret_i B dX1_get_20 ⟨⟨0, rfl, (show 0 < 2 ^ 31 by omega)⟩, rfl, hI, (fun b9 h9 => rfl)⟩
  · obtain ⟨n_1, e_1, rfl⟩ := nI_of c_1
    refine z_iload_n B dX1_get_4 rfl 1 rfl ?_
    refine z_bipush (v := 9) B dX1_get_5 rfl ?_
    refine z_icmp_ge (tgt := 19) B dX1_get_7 rfl (fun c_2 => ?_) (fun c_2 => ?_)
    · have e_2 : 9 ≤ n_1 := (nI_leI (a := 9) (b := n_1) (by omega) (by omega)).mp c_2
      refine z_iconst (v := 0) B dX1_get_19 rfl ?_
      exact z_ret_i B dX1_get_20 ⟨⟨0, rfl, (show 0 < 2 ^ 31 by omega)⟩, rfl, hI, (fun b9 h9 => rfl)⟩
    · have e_3 : ¬ (9 ≤ n_1) := fun h9 => c_2 ((nI_leI (a := 9) (b := n_1) (by omega) (by omega)).mpr h9)
      refine z_aload_n B dX1_get_10 rfl 0 rfl ?_
      obtain ⟨v_1, v_2, h_1⟩ := in3 (k := k) hI hk_k
      have h_2 : Φ (x + (k)) = some (o_ 3 [.ref (x + (k + 1)), .ref (x + (k + 2)), .ref (x + (k + 3)), .ref (x + (k + 4)), .int v_1, .int v_2]) := h_1
      refine z_get (ref := "FlowExporter$Config") (C := RX1) (T := TX1) (N := 6) (ci := 3) (v := .ref (x + (k + 1))) B hu_X1_get_X1 rfl 0 (Nat.le_of_ble_eq_true rfl) hv_X1_get_9 rfl h_2 rfl dX1_get_11 ?_
      refine z_iload_n B dX1_get_14 rfl 1 rfl ?_
      obtain ⟨f_1, h_3, r_1⟩ := in4 (k := k + 1) hI (kd_s hk_k).1
      have h_4 : Φ (x + (k + 1)) = some (ai_ G 9 f_1) := h_3
      refine z_iald B h_4 (vp_in_nI (by omega) (by omega)) dX1_get_15 ?_
      obtain ⟨n_2, b_1, e_4⟩ := nI_of (r_1 (((nI n_1).toNatClampNeg)))
      refine z_top (st1 := [.int (nI n_2)]) (congrArg (fun w9 : Int32 => ([.int w9] : List Value)) (e_4)) ?_
      refine z_goto (tgt := 20) B dX1_get_16 rfl ?_
      exact z_ret_i B dX1_get_20 ⟨⟨n_2, rfl, (show n_2 < 2 ^ 31 by omega)⟩, rfl, hI, (fun b9 h9 => rfl)⟩

theorem hu_X1_use_X1 : ∀ w ∈ u_ws RX1 TX1 6, w ∈ wsX1_use := fun _ h => List.mem_cons_of_mem _ (List.mem_append_left _ (List.mem_append_right _ (h)))

theorem hv_X1_use_15 : Cond.fieldLink RX1 15 "FlowExporter$Config" (TX1 1).2.1 (TX1 1).2.2.1 ∈ wsX1_use := List.mem_cons_of_mem _ (List.mem_append_left _ (List.mem_append_left _ (List.mem_of_getElem? (i := 0) rfl)))

set_option maxHeartbeats 4000000 in
set_option maxRecDepth 100000 in
theorem s_X1_use (G : EnvG) (l : Launch) (Φ : Hm) (sz x ca : Nat) (k : Nat) (a : Int32) (b : Int32) (hx : G.2.2.2 ≤ x) (hI : In G x ca Φ) (hk_k : kd k = 3) : Ct G l yX1_use wsX1_use ({ frames := 0, cells := 0, slots := 0, locals := 0 }) 0 0 [.ref (x + (k)), .int a, .int b] Φ sz (fun v Φ1 sz1 => (v = none) ∧ sz1 = sz ∧ In G x (ca) Φ1 ∧ Fr x (fun j9 => j9 = k + 2) Φ Φ1) := by
  refine Ct.of (cc := cX1_use) (maxL := 3) (ret := none) (by decide) rfl (Nat.le_of_ble_eq_true rfl) ?_
  intro p9 e9 s9 m9 w9 t9 k9 B
  show Z p9 l e9 _ s9 m9 _ w9 t9 k9 _ G 3 0 [(0, .ref (x + (k))), (1, .int a), (2, .int b)] [] Φ sz 0 0
  refine z_iload_n B dX1_use_0 rfl 1 rfl ?_
  refine z_if_lt (tgt := 18) B dX1_use_1 rfl (fun c_1 => ?_) (fun c_1 => ?_)
  · exact z_ret_v B dX1_use_18 ⟨rfl, rfl, hI, (fun b9 h9 => rfl)⟩
  · obtain ⟨n_1, e_1, rfl⟩ := nI_of c_1
    refine z_iload_n B dX1_use_4 rfl 1 rfl ?_
    refine z_sipush (v := 256) B dX1_use_5 rfl ?_
    refine z_icmp_ge (tgt := 18) B dX1_use_8 rfl (fun c_2 => ?_) (fun c_2 => ?_)
    · have e_2 : 256 ≤ n_1 := (nI_leI (a := 256) (b := n_1) (by omega) (by omega)).mp c_2
      exact z_ret_v B dX1_use_18 ⟨rfl, rfl, hI, (fun b9 h9 => rfl)⟩
    · have e_3 : ¬ (256 ≤ n_1) := fun h9 => c_2 ((nI_leI (a := 256) (b := n_1) (by omega) (by omega)).mpr h9)
      refine z_aload_n B dX1_use_11 rfl 0 rfl ?_
      obtain ⟨v_1, v_2, h_1⟩ := in3 (k := k) hI hk_k
      have h_2 : Φ (x + (k)) = some (o_ 3 [.ref (x + (k + 1)), .ref (x + (k + 2)), .ref (x + (k + 3)), .ref (x + (k + 4)), .int v_1, .int v_2]) := h_1
      refine z_get (ref := "FlowExporter$Config") (C := RX1) (T := TX1) (N := 6) (ci := 3) (v := .ref (x + (k + 2))) B hu_X1_use_X1 rfl 1 (Nat.le_of_ble_eq_true rfl) hv_X1_use_15 rfl h_2 rfl dX1_use_12 ?_
      refine z_iload_n B dX1_use_15 rfl 1 rfl ?_
      refine z_iload_n B dX1_use_16 rfl 2 rfl ?_
      obtain ⟨f_1, h_3⟩ := in5 (k := k + 2) hI (kd_s hk_k).2.1
      have h_4 : Φ (x + (k + 2)) = some (ai_ G 256 f_1) := h_3
      refine z_iast B h_4 (by omega) (vp_in_nI (by omega) (by omega)) dX1_use_17 (fun Φ1 hΦ1 => ?_)
      have h_5 : Φ1 (x + (k + 2)) = some (ai_ G 256 (upd f_1 (nI n_1).toNatClampNeg b)) := fset_at hΦ1
      have hI1 : In G x (ca) Φ1 := In.put (k := k + 2) hI hΦ1 (ok5 (k := k + 2) (kd_s hk_k).2.1 ⟨_, rfl⟩)
      exact z_ret_v B dX1_use_18 ⟨rfl, rfl, hI1, (fun b9 h9 => ((fset_fr hΦ1 (fun h8 => h9 (k + 2) h8 (show (k + 2) = k + 2 by omega))).trans rfl))⟩

theorem hu_X1_templateOf_X1 : ∀ w ∈ u_ws RX1 TX1 6, w ∈ wsX1_templateOf := fun _ h => List.mem_cons_of_mem _ (List.mem_append_left _ (List.mem_append_right _ (h)))

theorem hv_X1_templateOf_15 : Cond.fieldLink RX1 15 "FlowExporter$Config" (TX1 1).2.1 (TX1 1).2.2.1 ∈ wsX1_templateOf := List.mem_cons_of_mem _ (List.mem_append_left _ (List.mem_append_left _ (List.mem_of_getElem? (i := 0) rfl)))

set_option maxHeartbeats 4000000 in
set_option maxRecDepth 100000 in
theorem s_X1_templateOf (G : EnvG) (l : Launch) (Φ : Hm) (sz x ca : Nat) (k : Nat) (a : Int32) (hx : G.2.2.2 ≤ x) (hI : In G x ca Φ) (hk_k : kd k = 3) : Ct G l yX1_templateOf wsX1_templateOf ({ frames := 0, cells := 0, slots := 0, locals := 0 }) 0 0 [.ref (x + (k)), .int a] Φ sz (fun v Φ1 sz1 => (∃ r9 : Int32, v = some (.int r9)) ∧ sz1 = sz ∧ In G x (ca) Φ1 ∧ Fr x (fun j9 => False) Φ Φ1) := by
  refine Ct.of (cc := cX1_templateOf) (maxL := 2) (ret := (some .int)) (by decide) rfl (Nat.le_of_ble_eq_true rfl) ?_
  intro p9 e9 s9 m9 w9 t9 k9 B
  show Z p9 l e9 _ s9 m9 _ w9 t9 k9 _ G 2 0 [(0, .ref (x + (k))), (1, .int a)] [] Φ sz 0 0
  refine z_iload_n B dX1_templateOf_0 rfl 1 rfl ?_
  refine z_if_lt (tgt := 20) B dX1_templateOf_1 rfl (fun c_1 => ?_) (fun c_1 => ?_)
  · refine z_iconst (v := 0) B dX1_templateOf_20 rfl ?_
    exact z_ret_i B dX1_templateOf_21 ⟨⟨_, rfl⟩, rfl, hI, (fun b9 h9 => rfl)⟩
  · obtain ⟨n_1, e_1, rfl⟩ := nI_of c_1
    refine z_iload_n B dX1_templateOf_4 rfl 1 rfl ?_
    refine z_sipush (v := 256) B dX1_templateOf_5 rfl ?_
    refine z_icmp_ge (tgt := 20) B dX1_templateOf_8 rfl (fun c_2 => ?_) (fun c_2 => ?_)
    · have e_2 : 256 ≤ n_1 := (nI_leI (a := 256) (b := n_1) (by omega) (by omega)).mp c_2
      refine z_iconst (v := 0) B dX1_templateOf_20 rfl ?_
      exact z_ret_i B dX1_templateOf_21 ⟨⟨_, rfl⟩, rfl, hI, (fun b9 h9 => rfl)⟩
    · have e_3 : ¬ (256 ≤ n_1) := fun h9 => c_2 ((nI_leI (a := 256) (b := n_1) (by omega) (by omega)).mpr h9)
      refine z_aload_n B dX1_templateOf_11 rfl 0 rfl ?_
      obtain ⟨v_1, v_2, h_1⟩ := in3 (k := k) hI hk_k
      have h_2 : Φ (x + (k)) = some (o_ 3 [.ref (x + (k + 1)), .ref (x + (k + 2)), .ref (x + (k + 3)), .ref (x + (k + 4)), .int v_1, .int v_2]) := h_1
      refine z_get (ref := "FlowExporter$Config") (C := RX1) (T := TX1) (N := 6) (ci := 3) (v := .ref (x + (k + 2))) B hu_X1_templateOf_X1 rfl 1 (Nat.le_of_ble_eq_true rfl) hv_X1_templateOf_15 rfl h_2 rfl dX1_templateOf_12 ?_
      refine z_iload_n B dX1_templateOf_15 rfl 1 rfl ?_
      obtain ⟨f_1, h_3⟩ := in5 (k := k + 2) hI (kd_s hk_k).2.1
      have h_4 : Φ (x + (k + 2)) = some (ai_ G 256 f_1) := h_3
      refine z_iald B h_4 (vp_in_nI (by omega) (by omega)) dX1_templateOf_16 ?_
      refine z_fi (fun v_3 => ?_)
      refine z_goto (tgt := 21) B dX1_templateOf_17 rfl ?_
      exact z_ret_i B dX1_templateOf_21 ⟨⟨_, rfl⟩, rfl, hI, (fun b9 h9 => rfl)⟩

theorem hu_X1_clear_X1 : ∀ w ∈ u_ws RX1 TX1 6, w ∈ wsX1_clear := fun _ h => List.mem_cons_of_mem _ (List.mem_append_left _ (List.mem_append_right _ (h)))

theorem hv_X1_clear_9 : Cond.fieldLink RX1 9 "FlowExporter$Config" (TX1 0).2.1 (TX1 0).2.2.1 ∈ wsX1_clear := List.mem_cons_of_mem _ (List.mem_append_left _ (List.mem_append_left _ (List.mem_of_getElem? (i := 0) rfl)))

theorem hv_X1_clear_15 : Cond.fieldLink RX1 15 "FlowExporter$Config" (TX1 1).2.1 (TX1 1).2.2.1 ∈ wsX1_clear := List.mem_cons_of_mem _ (List.mem_append_left _ (List.mem_append_left _ (List.mem_of_getElem? (i := 5) rfl)))

theorem hv_X1_clear_27 : Cond.fieldLink RX1 27 "FlowExporter$Config" (TX1 4).2.1 (TX1 4).2.2.1 ∈ wsX1_clear := List.mem_cons_of_mem _ (List.mem_append_left _ (List.mem_append_left _ (List.mem_of_getElem? (i := 7) rfl)))

theorem hv_X1_clear_31 : Cond.fieldLink RX1 31 "FlowExporter$Config" (TX1 5).2.1 (TX1 5).2.2.1 ∈ wsX1_clear := List.mem_cons_of_mem _ (List.mem_append_left _ (List.mem_append_left _ (List.mem_of_getElem? (i := 8) rfl)))

theorem hv_X1_clear_20 : Cond.fieldLink RX1 20 "FlowExporter$Config" (TX1 2).2.1 (TX1 2).2.2.1 ∈ wsX1_clear := List.mem_cons_of_mem _ (List.mem_append_left _ (List.mem_append_left _ (List.mem_of_getElem? (i := 6) rfl)))

set_option maxHeartbeats 4000000 in
set_option maxRecDepth 100000 in
theorem s_X1_clear (G : EnvG) (l : Launch) (Φ : Hm) (sz x ca : Nat) (k : Nat) (hx : G.2.2.2 ≤ x) (hI : In G x ca Φ) (hk_k : kd k = 3) : Ct G l yX1_clear wsX1_clear ({ frames := 1, cells := 0, slots := 0, locals := 23 }) 0 0 [.ref (x + (k))] Φ sz (fun v Φ1 sz1 => (v = none) ∧ sz1 = sz ∧ In G x (ca) Φ1 ∧ Fr x (fun j9 => k ≤ j9 ∧ j9 < k + 21) Φ Φ1) := by
  refine Ct.of (cc := cX1_clear) (maxL := 2) (ret := none) (by decide) rfl (Nat.le_of_ble_eq_true rfl) ?_
  intro p9 e9 s9 m9 w9 t9 k9 B
  show Z p9 l e9 _ s9 m9 _ w9 t9 k9 _ G 2 0 [(0, .ref (x + (k)))] [] Φ sz 0 0
  refine z_staN (n := "USUAL") B B.2.2.2.2.2.1.1.2.1 (by decide +kernel) dX1_clear_0 ?_
  refine z_iconst (v := 0) B dX1_clear_3 rfl ?_
  refine z_aload_n B dX1_clear_4 rfl 0 rfl ?_
  obtain ⟨v_1, v_2, h_1⟩ := in3 (k := k) hI hk_k
  have h_2 : Φ (x + (k)) = some (o_ 3 [.ref (x + (k + 1)), .ref (x + (k + 2)), .ref (x + (k + 3)), .ref (x + (k + 4)), .int v_1, .int v_2]) := h_1
  refine z_get (ref := "FlowExporter$Config") (C := RX1) (T := TX1) (N := 6) (ci := 3) (v := .ref (x + (k + 1))) B hu_X1_clear_X1 rfl 0 (Nat.le_of_ble_eq_true rfl) hv_X1_clear_9 rfl h_2 rfl dX1_clear_5 ?_
  refine z_iconst (v := 0) B dX1_clear_8 rfl ?_
  refine z_bipush (v := 9) B dX1_clear_9 rfl ?_
  obtain ⟨f_1, h_3, r_1⟩ := in4 (k := k + 1) hI (kd_s hk_k).1
  have h_4 : Φ (x + (k + 1)) = some (ai_ G 9 f_1) := h_3
  refine z_copyS B (by decide +kernel) (by decide +kernel) (by decide +kernel) (by decide +kernel) B.2.2.2.2.2.1.2.2.2.1.2.1 (B.2.2.2.2.2.1.2.2.2.2 1 (by decide)) h_4 (by omega) (by decide) (by decide) (by decide) (by decide) (by decide) (fun _ _ => rfl) (Nat.le_of_ble_eq_true rfl) (by decide +kernel) dX1_clear_11 (fun Φ1 hΦ1 => ?_)
  have h_5 : Φ1 (x + (k + 1)) = some (ai_ G 9 (va_cpy usT f_1 (0 : Int32).toNatClampNeg (0 : Int32).toNatClampNeg (9 : Int32).toNatClampNeg)) := fset_at hΦ1
  have hI1 : In G x (ca) Φ1 := In.put (k := k + 1) hI hΦ1 (ok4 (k := k + 1) (kd_s hk_k).1 ⟨_, rfl, cpy_nn us_nn r_1⟩)
  refine z_aload_n B dX1_clear_14 rfl 0 rfl ?_
  have h_6 : Φ1 (x + (k)) = some (o_ 3 [.ref (x + (k + 1)), .ref (x + (k + 2)), .ref (x + (k + 3)), .ref (x + (k + 4)), .int v_1, .int v_2]) := ((fset_fr hΦ1 (by omega)).trans h_2)
  refine z_get (ref := "FlowExporter$Config") (C := RX1) (T := TX1) (N := 6) (ci := 3) (v := .ref (x + (k + 2))) B hu_X1_clear_X1 rfl 1 (Nat.le_of_ble_eq_true rfl) hv_X1_clear_15 rfl h_6 rfl dX1_clear_15 ?_
  refine z_iconst (v := 0) B dX1_clear_18 rfl ?_
  obtain ⟨f_2, h_7⟩ := in5 (k := k + 2) hI1 (kd_s hk_k).2.1
  have h_8 : Φ1 (x + (k + 2)) = some (ai_ G 256 f_2) := h_7
  refine z_callS (As := [.ref (x + (k + 2)), .int 0]) (rest := []) B (c_J7_fill_53178 G l Φ1 sz (x + (k + 2)) 256 f_2 0 h_8 (by omega) (by decide)) (va_cwS 2 B.1.2.2.2.2 gX1_clear_J7_fill_53178 rfl rfl rfl (by decide +kernel) ⟨Nat.le_of_ble_eq_true rfl, Nat.le_of_ble_eq_true rfl⟩) rfl rfl (Nat.le_of_ble_eq_true rfl) dX1_clear_19 ⟨Nat.le_of_ble_eq_true rfl, Nat.le_of_ble_eq_true rfl⟩ (fun r_2 Φ2 sz1 st1 hp1 hs1 => ?_)
  obtain ⟨rfl, hq1, fr1, h_9⟩ := hp1
  subst sz1
  replace hs1 : st1 = [] := hs1
  subst st1
  have hΦ2 : Φ2 = fset Φ1 (x + (k + 2)) (ai_ G 256 (fun _ => 0)) := fset_of fr1 h_9
  have h_10 : Φ2 (x + (k + 2)) = some (ai_ G 256 (fun _ => 0)) := fset_at hΦ2
  have hI2 : In G x (ca) Φ2 := In.put (k := k + 2) hI1 hΦ2 (ok5 (k := k + 2) (kd_s hk_k).2.1 ⟨_, rfl⟩)
  refine z_iconst (v := 0) B dX1_clear_22 rfl ?_
  refine z_istore_n (lv' := [(1, .int 0), (0, .ref (x + (k)))]) B dX1_clear_23 rfl (Nat.le_of_ble_eq_true rfl) rfl ?_
  refine z_lv [0, 1] rfl ?_
  refine z_loop (α := Nat) (fun (a9 : Nat) Φi => In G x (ca) Φi ∧ Fr x (fun j9 => k ≤ j9 ∧ j9 < k + 21) Φ2 Φi ∧ (a9 ≤ 4) ∧ True) (fun a9 => [(1, .int (nI a9)), (0, .ref (x + (k)))]) (fun a9 => 4 - a9) ?_ (0) ⟨hI2, fun _ _ => rfl, (show 0 ≤ 4 by omega), trivial⟩
  rintro i_1 Φl1 ⟨hI3, hF1, b_1, -⟩ ih1
  replace hI3 : In G x (ca) Φl1 := hI3
  replace b_1 : i_1 ≤ 4 := b_1
  show Z p9 l e9 _ s9 m9 _ w9 t9 k9 _ G 2 24 [(1, .int (nI i_1)), (0, .ref (x + (k)))] [] Φl1 _ _ _
  refine z_iload_n B dX1_clear_24 rfl 0 rfl ?_
  refine z_iconst (v := 4) B dX1_clear_25 rfl ?_
  refine z_icmp_ge (tgt := 44) B dX1_clear_26 rfl (fun c_1 => ?_) (fun c_1 => ?_)
  · have e_1 : 4 ≤ i_1 := (nI_leI (a := 4) (b := i_1) (by omega) (by omega)).mp c_1
    refine z_aload_n B dX1_clear_44 rfl 1 rfl ?_
    refine z_iconst (v := 0) B dX1_clear_45 rfl ?_
    obtain ⟨v_3, v_4, h_11⟩ := in3 (k := k) hI3 hk_k
    have h_12 : Φl1 (x + (k)) = some (o_ 3 [.ref (x + (k + 1)), .ref (x + (k + 2)), .ref (x + (k + 3)), .ref (x + (k + 4)), .int v_3, .int v_4]) := h_11
    refine z_put (ref := "FlowExporter$Config") (C := RX1) (T := TX1) (N := 6) (ci := 3) (v := .int 0) B hu_X1_clear_X1 tyX1 tyX1_ok nmX1 rfl 4 (Nat.le_of_ble_eq_true rfl) hv_X1_clear_27 rfl (Or.inl rfl) h_12 (by omega) rfl rfl (Nat.le_of_ble_eq_true rfl) dX1_clear_46 (fun Φ3 hΦ3 => ?_)
    have h_13 : Φ3 (x + (k)) = some (o_ 3 [.ref (x + (k + 1)), .ref (x + (k + 2)), .ref (x + (k + 3)), .ref (x + (k + 4)), .int 0, .int v_4]) := fset_at hΦ3
    have hI4 : In G x (ca) Φ3 := In.put (k := k) hI3 hΦ3 (ok3 (k := k) hk_k ⟨0, v_4, rfl⟩)
    refine z_aload_n B dX1_clear_49 rfl 1 rfl ?_
    refine z_sipush (v := 511) B dX1_clear_50 rfl ?_
    refine z_put (ref := "FlowExporter$Config") (C := RX1) (T := TX1) (N := 6) (ci := 3) (v := .int 511) B hu_X1_clear_X1 tyX1 tyX1_ok nmX1 rfl 5 (Nat.le_of_ble_eq_true rfl) hv_X1_clear_31 rfl (Or.inl rfl) h_13 (by omega) rfl rfl (Nat.le_of_ble_eq_true rfl) dX1_clear_53 (fun Φ4 hΦ4 => ?_)
    have h_14 : Φ4 (x + (k)) = some (o_ 3 [.ref (x + (k + 1)), .ref (x + (k + 2)), .ref (x + (k + 3)), .ref (x + (k + 4)), .int 0, .int 511]) := fset_at hΦ4
    have hI5 : In G x (ca) Φ4 := In.put (k := k) hI4 hΦ4 (ok3 (k := k) hk_k ⟨0, 511, rfl⟩)
    exact z_ret_v B dX1_clear_56 ⟨rfl, rfl, hI5, (fun b9 h9 => ((fset_fr hΦ4 (fun h8 => h9 (k) h8 (show k ≤ k ∧ k < k + 21 by omega))).trans ((fset_fr hΦ3 (fun h8 => h9 (k) h8 (show k ≤ k ∧ k < k + 21 by omega))).trans ((hF1 b9 h9).trans ((fset_fr hΦ2 (fun h8 => h9 (k + 2) h8 (show k ≤ (k + 2) ∧ (k + 2) < k + 21 by omega))).trans ((fset_fr hΦ1 (fun h8 => h9 (k + 1) h8 (show k ≤ (k + 1) ∧ (k + 1) < k + 21 by omega))).trans rfl))))))⟩
  · have e_2 : ¬ (4 ≤ i_1) := fun h9 => c_1 ((nI_leI (a := 4) (b := i_1) (by omega) (by omega)).mpr h9)
    refine z_aload_n B dX1_clear_29 rfl 1 rfl ?_
    obtain ⟨v_5, v_6, h_15⟩ := in3 (k := k) hI3 hk_k
    have h_16 : Φl1 (x + (k)) = some (o_ 3 [.ref (x + (k + 1)), .ref (x + (k + 2)), .ref (x + (k + 3)), .ref (x + (k + 4)), .int v_5, .int v_6]) := h_15
    refine z_get (ref := "FlowExporter$Config") (C := RX1) (T := TX1) (N := 6) (ci := 3) (v := .ref (x + (k + 3))) B hu_X1_clear_X1 rfl 2 (Nat.le_of_ble_eq_true rfl) hv_X1_clear_20 rfl h_16 rfl dX1_clear_30 ?_
    refine z_iload_n B dX1_clear_33 rfl 0 rfl ?_
    obtain ⟨f_3, h_17, r_3⟩ := in6 (k := k + 3) hI3 (kd_s hk_k).2.2.1
    have h_18 : Φl1 (x + (k + 3)) = some (aq_ G 4 4 f_3) := h_17
    refine z_aald (b := x + (k + 3 + 2 + 4 * i_1)) B rfl h_18 (vp_in_nI (by omega) (by omega)) ((congrArg f_3 (nI_clamp (by omega))).trans (r_3 i_1 (by omega))) dX1_clear_34 ?_
    obtain ⟨n_1, v_7, v_8, h_19, b_2⟩ := in8 (k := k + 3 + 2 + 4 * i_1) hI3 (kd_w (kd_s hk_k).2.2.1 (by omega))
    have h_20 : Φl1 (x + (k + 3 + 2 + 4 * i_1)) = some (o_ 12 [.ref (x + (k + 3 + 2 + 4 * i_1 + 1)), .int (nI n_1), .int v_7, .int v_8]) := h_19
    refine z_callV (As := []) (rest := []) B (s_X10_clear G l Φl1 sz x (ca) (k + 3 + 2 + 4 * i_1) hx hI3 (kd_w (kd_s hk_k).2.2.1 (by omega))) (cwV 0 B.1.2.2.2.2 gX1_clear_X10_clear rfl rfl rfl (by decide +kernel) ⟨Nat.le_of_ble_eq_true rfl, Nat.le_of_ble_eq_true rfl⟩) h_20 rfl rfl rfl rfl (Nat.le_of_ble_eq_true rfl) dX1_clear_35 ⟨Nat.le_of_ble_eq_true rfl, Nat.le_of_ble_eq_true rfl⟩ (fun r_4 Φ5 sz2 st2 hp2 hs2 => ?_)
    obtain ⟨rfl, hq2, hI6, hF2⟩ := hp2
    subst sz2
    replace hs2 : st2 = [] := hs2
    subst st2
    replace hI6 : In G x (ca) Φ5 := hI6
    refine z_iinc (k := 0) (v := nI (i_1 + 1)) (lv' := [(1, .int (nI (i_1 + 1))), (0, .ref (x + (k)))]) B dX1_clear_38 rfl (nI_add i_1 1) (Nat.le_of_ble_eq_true rfl) rfl ?_
    refine z_goto (tgt := 24) B dX1_clear_41 rfl ?_
    refine z_lv [0, 1] rfl ?_
    exact ih1 (i_1 + 1) Φ5 (show 4 - (i_1 + 1) < 4 - i_1 by omega) ⟨hI6, (fun b9 h9 => ((hF2 b9 (fun j9 h8 h7 => h9 j9 h8 (show k ≤ j9 ∧ j9 < k + 21 by have h6 : j9 = (k + 3 + 2 + 4 * i_1) := h7; omega))).trans ((hF1 b9 h9).trans rfl))), (show (i_1 + 1) ≤ 4 by omega), trivial⟩

theorem hu_X1_addUsualTemplate_X1 : ∀ w ∈ u_ws RX1 TX1 6, w ∈ wsX1_addUsualTemplate := fun _ h => List.mem_cons_of_mem _ (List.mem_append_left _ (List.mem_append_left _ (List.mem_append_right _ (h))))

theorem hv_X1_addUsualTemplate_27 : Cond.fieldLink RX1 27 "FlowExporter$Config" (TX1 4).2.1 (TX1 4).2.2.1 ∈ wsX1_addUsualTemplate := List.mem_cons_of_mem _ (List.mem_append_left _ (List.mem_append_left _ (List.mem_append_left _ (List.mem_of_getElem? (i := 0) rfl))))

theorem hv_X1_addUsualTemplate_20 : Cond.fieldLink RX1 20 "FlowExporter$Config" (TX1 2).2.1 (TX1 2).2.2.1 ∈ wsX1_addUsualTemplate := List.mem_cons_of_mem _ (List.mem_append_left _ (List.mem_append_left _ (List.mem_append_left _ (List.mem_of_getElem? (i := 1) rfl))))

set_option maxHeartbeats 4000000 in
set_option maxRecDepth 100000 in
theorem s_X1_addUsualTemplate (G : EnvG) (l : Launch) (Φ : Hm) (sz x ca : Nat) (k : Nat) (hx : G.2.2.2 ≤ x) (hI : In G x ca Φ) (hk_k : kd k = 3) : Ct G l yX1_addUsualTemplate wsX1_addUsualTemplate ({ frames := 1, cells := 0, slots := 0, locals := 21 }) 0 0 [.ref (x + (k))] Φ sz (fun v Φ1 sz1 => (v = none) ∧ sz1 = sz ∧ In G x (ca) Φ1 ∧ Fr x (fun j9 => k ≤ j9 ∧ j9 < k + 21) Φ Φ1) := by
  refine Ct.of (cc := cX1_addUsualTemplate) (maxL := 2) (ret := none) (by decide) rfl (Nat.le_of_ble_eq_true rfl) ?_
  intro p9 e9 s9 m9 w9 t9 k9 B
  show Z p9 l e9 _ s9 m9 _ w9 t9 k9 _ G 2 0 [(0, .ref (x + (k)))] [] Φ sz 0 0
  refine z_aload_n B dX1_addUsualTemplate_0 rfl 0 rfl ?_
  refine z_iconst (v := 1) B dX1_addUsualTemplate_1 rfl ?_
  obtain ⟨v_1, v_2, h_1⟩ := in3 (k := k) hI hk_k
  have h_2 : Φ (x + (k)) = some (o_ 3 [.ref (x + (k + 1)), .ref (x + (k + 2)), .ref (x + (k + 3)), .ref (x + (k + 4)), .int v_1, .int v_2]) := h_1
  refine z_put (ref := "FlowExporter$Config") (C := RX1) (T := TX1) (N := 6) (ci := 3) (v := .int 1) B hu_X1_addUsualTemplate_X1 tyX1 tyX1_ok nmX1 rfl 4 (Nat.le_of_ble_eq_true rfl) hv_X1_addUsualTemplate_27 rfl (Or.inl rfl) h_2 (by omega) rfl rfl (Nat.le_of_ble_eq_true rfl) dX1_addUsualTemplate_2 (fun Φ1 hΦ1 => ?_)
  have h_3 : Φ1 (x + (k)) = some (o_ 3 [.ref (x + (k + 1)), .ref (x + (k + 2)), .ref (x + (k + 3)), .ref (x + (k + 4)), .int 1, .int v_2]) := fset_at hΦ1
  have hI1 : In G x (ca) Φ1 := In.put (k := k) hI hΦ1 (ok3 (k := k) hk_k ⟨1, v_2, rfl⟩)
  refine z_iconst (v := 0) B dX1_addUsualTemplate_5 rfl ?_
  refine z_istore_n (lv' := [(1, .int 0), (0, .ref (x + (k)))]) B dX1_addUsualTemplate_6 rfl (Nat.le_of_ble_eq_true rfl) rfl ?_
  refine z_lv [0, 1] rfl ?_
  refine z_loop (α := Nat) (fun (a9 : Nat) Φi => In G x (ca) Φi ∧ Fr x (fun j9 => k ≤ j9 ∧ j9 < k + 21) Φ1 Φi ∧ (a9 ≤ 9) ∧ True) (fun a9 => [(1, .int (nI a9)), (0, .ref (x + (k)))]) (fun a9 => 9 - a9) ?_ (0) ⟨hI1, fun _ _ => rfl, (show 0 ≤ 9 by omega), trivial⟩
  rintro i_1 Φl1 ⟨hI2, hF1, b_1, -⟩ ih1
  replace hI2 : In G x (ca) Φl1 := hI2
  replace b_1 : i_1 ≤ 9 := b_1
  show Z p9 l e9 _ s9 m9 _ w9 t9 k9 _ G 2 7 [(1, .int (nI i_1)), (0, .ref (x + (k)))] [] Φl1 _ _ _
  refine z_iload_n B dX1_addUsualTemplate_7 rfl 0 rfl ?_
  refine z_bipush (v := 9) B dX1_addUsualTemplate_8 rfl ?_
  refine z_icmp_ge (tgt := 29) B dX1_addUsualTemplate_10 rfl (fun c_1 => ?_) (fun c_1 => ?_)
  · have e_1 : 9 ≤ i_1 := (nI_leI (a := 9) (b := i_1) (by omega) (by omega)).mp c_1
    exact z_ret_v B dX1_addUsualTemplate_29 ⟨rfl, rfl, hI2, (fun b9 h9 => ((hF1 b9 h9).trans ((fset_fr hΦ1 (fun h8 => h9 (k) h8 (show k ≤ k ∧ k < k + 21 by omega))).trans rfl)))⟩
  · have e_2 : ¬ (9 ≤ i_1) := fun h9 => c_1 ((nI_leI (a := 9) (b := i_1) (by omega) (by omega)).mpr h9)
    refine z_aload_n B dX1_addUsualTemplate_13 rfl 1 rfl ?_
    obtain ⟨v_3, v_4, h_4⟩ := in3 (k := k) hI2 hk_k
    have h_5 : Φl1 (x + (k)) = some (o_ 3 [.ref (x + (k + 1)), .ref (x + (k + 2)), .ref (x + (k + 3)), .ref (x + (k + 4)), .int v_3, .int v_4]) := h_4
    refine z_get (ref := "FlowExporter$Config") (C := RX1) (T := TX1) (N := 6) (ci := 3) (v := .ref (x + (k + 3))) B hu_X1_addUsualTemplate_X1 rfl 2 (Nat.le_of_ble_eq_true rfl) hv_X1_addUsualTemplate_20 rfl h_5 rfl dX1_addUsualTemplate_14 ?_
    refine z_iconst (v := 0) B dX1_addUsualTemplate_17 rfl ?_
    obtain ⟨f_1, h_6, r_1⟩ := in6 (k := k + 3) hI2 (kd_s hk_k).2.2.1
    have h_7 : Φl1 (x + (k + 3)) = some (aq_ G 4 4 f_1) := h_6
    refine z_aald (b := x + (k + 3 + 2 + 4 * 0)) B rfl h_7 (vin rfl) ((r_1 0 (by omega))) dX1_addUsualTemplate_18 ?_
    refine z_iload_n B dX1_addUsualTemplate_19 rfl 0 rfl ?_
    obtain ⟨n_1, v_5, v_6, h_8, b_2⟩ := in8 (k := k + 3 + 2 + 4 * 0) hI2 (kd_w (kd_s hk_k).2.2.1 (by omega))
    have h_9 : Φl1 (x + (k + 3 + 2 + 4 * 0)) = some (o_ 12 [.ref (x + (k + 3 + 2 + 4 * 0 + 1)), .int (nI n_1), .int v_5, .int v_6]) := h_8
    refine z_callV (As := [.int (nI i_1)]) (rest := []) B (s_X10_addField G l Φl1 sz x (ca) (k + 3 + 2 + 4 * 0) (nI i_1) hx hI2 (kd_w (kd_s hk_k).2.2.1 (by omega))) (cwV 1 B.1.2.2.2.2 gX1_addUsualTemplate_X10_addField rfl rfl rfl (by decide +kernel) ⟨Nat.le_of_ble_eq_true rfl, Nat.le_of_ble_eq_true rfl⟩) h_9 rfl rfl rfl rfl (Nat.le_of_ble_eq_true rfl) dX1_addUsualTemplate_20 ⟨Nat.le_of_ble_eq_true rfl, Nat.le_of_ble_eq_true rfl⟩ (fun r_2 Φ2 sz1 st1 hp1 hs1 => ?_)
    obtain ⟨rfl, hq1, hI3, hF2⟩ := hp1
    subst sz1
    replace hs1 : st1 = [] := hs1
    subst st1
    replace hI3 : In G x (ca) Φ2 := hI3
    refine z_iinc (k := 0) (v := nI (i_1 + 1)) (lv' := [(1, .int (nI (i_1 + 1))), (0, .ref (x + (k)))]) B dX1_addUsualTemplate_23 rfl (nI_add i_1 1) (Nat.le_of_ble_eq_true rfl) rfl ?_
    refine z_goto (tgt := 7) B dX1_addUsualTemplate_26 rfl ?_
    refine z_lv [0, 1] rfl ?_
    exact ih1 (i_1 + 1) Φ2 (show 9 - (i_1 + 1) < 9 - i_1 by omega) ⟨hI3, (fun b9 h9 => ((hF2 b9 (fun j9 h8 h7 => h9 j9 h8 (show k ≤ j9 ∧ j9 < k + 21 by have h6 : j9 = (k + 3 + 2 + 4 * 0) ∨ j9 = (k + 3 + 2 + 4 * 0) + 1 := h7; omega))).trans ((hF1 b9 h9).trans rfl))), (show (i_1 + 1) ≤ 9 by omega), trivial⟩

theorem hu_X1_support_X1 : ∀ w ∈ u_ws RX1 TX1 6, w ∈ wsX1_support := fun _ h => List.mem_cons_of_mem _ (List.mem_append_left _ (List.mem_append_left _ (List.mem_append_right _ (h))))

theorem hv_X1_support_31 : Cond.fieldLink RX1 31 "FlowExporter$Config" (TX1 5).2.1 (TX1 5).2.2.1 ∈ wsX1_support := List.mem_cons_of_mem _ (List.mem_append_left _ (List.mem_append_left _ (List.mem_append_left _ (List.mem_of_getElem? (i := 0) rfl))))

theorem hv_X1_support_24 : Cond.fieldLink RX1 24 "FlowExporter$Config" (TX1 3).2.1 (TX1 3).2.2.1 ∈ wsX1_support := List.mem_cons_of_mem _ (List.mem_append_left _ (List.mem_append_left _ (List.mem_append_left _ (List.mem_of_getElem? (i := 1) rfl))))

theorem hv_X1_support_20 : Cond.fieldLink RX1 20 "FlowExporter$Config" (TX1 2).2.1 (TX1 2).2.2.1 ∈ wsX1_support := List.mem_cons_of_mem _ (List.mem_append_left _ (List.mem_append_left _ (List.mem_append_left _ (List.mem_of_getElem? (i := 2) rfl))))

set_option maxHeartbeats 4000000 in
set_option maxRecDepth 100000 in
theorem s_X1_support (G : EnvG) (l : Launch) (Φ : Hm) (sz x ca : Nat) (k : Nat) (a : Int32) (hx : G.2.2.2 ≤ x) (hI : In G x ca Φ) (hk_k : kd k = 3) : Ct G l yX1_support wsX1_support ({ frames := 2, cells := 0, slots := 0, locals := 45 }) 0 0 [.ref (x + (k)), .int a] Φ sz (fun v Φ1 sz1 => (v = none) ∧ sz1 = sz ∧ In G x (ca) Φ1 ∧ Fr x (fun j9 => k ≤ j9 ∧ j9 < k + 21) Φ Φ1) := by
  refine Ct.of (cc := cX1_support) (maxL := 3) (ret := none) (by decide) rfl (Nat.le_of_ble_eq_true rfl) ?_
  intro p9 e9 s9 m9 w9 t9 k9 B
  show Z p9 l e9 _ s9 m9 _ w9 t9 k9 _ G 3 0 [(0, .ref (x + (k))), (1, .int a)] [] Φ sz 0 0
  refine z_aload_n B dX1_support_0 rfl 0 rfl ?_
  refine z_iload_n B dX1_support_1 rfl 1 rfl ?_
  obtain ⟨v_1, v_2, h_1⟩ := in3 (k := k) hI hk_k
  have h_2 : Φ (x + (k)) = some (o_ 3 [.ref (x + (k + 1)), .ref (x + (k + 2)), .ref (x + (k + 3)), .ref (x + (k + 4)), .int v_1, .int v_2]) := h_1
  refine z_put (ref := "FlowExporter$Config") (C := RX1) (T := TX1) (N := 6) (ci := 3) (v := .int a) B hu_X1_support_X1 tyX1 tyX1_ok nmX1 rfl 5 (Nat.le_of_ble_eq_true rfl) hv_X1_support_31 rfl (Or.inl rfl) h_2 (by omega) rfl rfl (Nat.le_of_ble_eq_true rfl) dX1_support_2 (fun Φ1 hΦ1 => ?_)
  have h_3 : Φ1 (x + (k)) = some (o_ 3 [.ref (x + (k + 1)), .ref (x + (k + 2)), .ref (x + (k + 3)), .ref (x + (k + 4)), .int v_1, .int a]) := fset_at hΦ1
  have hI1 : In G x (ca) Φ1 := In.put (k := k) hI hΦ1 (ok3 (k := k) hk_k ⟨v_1, a, rfl⟩)
  refine z_iconst (v := 0) B dX1_support_5 rfl ?_
  refine z_istore_n (lv' := [(2, .int 0), (0, .ref (x + (k))), (1, .int a)]) B dX1_support_6 rfl (Nat.le_of_ble_eq_true rfl) rfl ?_
  refine z_lv [0, 1, 2] rfl ?_
  refine z_loop (α := Nat) (fun (a9 : Nat) Φi => In G x (ca) Φi ∧ Fr x (fun j9 => k ≤ j9 ∧ j9 < k + 21) Φ1 Φi ∧ (a9 ≤ 4) ∧ True) (fun a9 => [(2, .int (nI a9)), (0, .ref (x + (k))), (1, .int a)]) (fun a9 => 4 - a9) ?_ (0) ⟨hI1, fun _ _ => rfl, (show 0 ≤ 4 by omega), trivial⟩
  rintro i_1 Φl1 ⟨hI2, hF1, b_1, -⟩ ih1
  replace hI2 : In G x (ca) Φl1 := hI2
  replace b_1 : i_1 ≤ 4 := b_1
  show Z p9 l e9 _ s9 m9 _ w9 t9 k9 _ G 3 7 [(2, .int (nI i_1)), (0, .ref (x + (k))), (1, .int a)] [] Φl1 _ _ _
  refine z_iload_n B dX1_support_7 rfl 0 rfl ?_
  refine z_iconst (v := 4) B dX1_support_8 rfl ?_
  refine z_icmp_ge (tgt := 34) B dX1_support_9 rfl (fun c_1 => ?_) (fun c_1 => ?_)
  · have e_1 : 4 ≤ i_1 := (nI_leI (a := 4) (b := i_1) (by omega) (by omega)).mp c_1
    exact z_ret_v B dX1_support_34 ⟨rfl, rfl, hI2, (fun b9 h9 => ((hF1 b9 h9).trans ((fset_fr hΦ1 (fun h8 => h9 (k) h8 (show k ≤ k ∧ k < k + 21 by omega))).trans rfl)))⟩
  · have e_2 : ¬ (4 ≤ i_1) := fun h9 => c_1 ((nI_leI (a := 4) (b := i_1) (by omega) (by omega)).mpr h9)
    refine z_aload_n B dX1_support_12 rfl 1 rfl ?_
    obtain ⟨v_3, v_4, h_4⟩ := in3 (k := k) hI2 hk_k
    have h_5 : Φl1 (x + (k)) = some (o_ 3 [.ref (x + (k + 1)), .ref (x + (k + 2)), .ref (x + (k + 3)), .ref (x + (k + 4)), .int v_3, .int v_4]) := h_4
    refine z_get (ref := "FlowExporter$Config") (C := RX1) (T := TX1) (N := 6) (ci := 3) (v := .ref (x + (k + 4))) B hu_X1_support_X1 rfl 3 (Nat.le_of_ble_eq_true rfl) hv_X1_support_24 rfl h_5 rfl dX1_support_13 ?_
    refine z_iload_n B dX1_support_16 rfl 0 rfl ?_
    obtain ⟨f_1, h_6, r_1⟩ := in7 (k := k + 4) hI2 (kd_s hk_k).2.2.2
    have h_7 : Φl1 (x + (k + 4)) = some (aq_ G 4 4 f_1) := h_6
    refine z_aald (b := x + (k + 4 + 3 + 4 * i_1)) B rfl h_7 (vp_in_nI (by omega) (by omega)) ((congrArg f_1 (nI_clamp (by omega))).trans (r_1 i_1 (by omega))) dX1_support_17 ?_
    refine z_aload_n B dX1_support_18 rfl 1 rfl ?_
    refine z_get (ref := "FlowExporter$Config") (C := RX1) (T := TX1) (N := 6) (ci := 3) (v := .ref (x + (k + 3))) B hu_X1_support_X1 rfl 2 (Nat.le_of_ble_eq_true rfl) hv_X1_support_20 rfl h_5 rfl dX1_support_19 ?_
    refine z_iload_n B dX1_support_22 rfl 0 rfl ?_
    obtain ⟨f_2, h_8, r_2⟩ := in6 (k := k + 3) hI2 (kd_s hk_k).2.2.1
    have h_9 : Φl1 (x + (k + 3)) = some (aq_ G 4 4 f_2) := h_8
    refine z_aald (b := x + (k + 3 + 2 + 4 * i_1)) B rfl h_9 (vp_in_nI (by omega) (by omega)) ((congrArg f_2 (nI_clamp (by omega))).trans (r_2 i_1 (by omega))) dX1_support_23 ?_
    refine z_iload_n B dX1_support_24 rfl 2 rfl ?_
    obtain ⟨n_1, v_5, v_6, h_10, b_2⟩ := in8 (k := k + 4 + 3 + 4 * i_1) hI2 (kd_e (kd_s hk_k).2.2.2 (by omega))
    have h_11 : Φl1 (x + (k + 4 + 3 + 4 * i_1)) = some (o_ 12 [.ref (x + (k + 4 + 3 + 4 * i_1 + 1)), .int (nI n_1), .int v_5, .int v_6]) := h_10
    refine z_callV (As := [.ref (x + (k + 3 + 2 + 4 * i_1)), .int a]) (rest := []) B (s_X10_copyFrom G l Φl1 sz x (ca) (k + 4 + 3 + 4 * i_1) (k + 3 + 2 + 4 * i_1) a hx hI2 (kd_e (kd_s hk_k).2.2.2 (by omega)) (kd_w (kd_s hk_k).2.2.1 (by omega)) (show (k + 4 + 3 + 4 * i_1) ≠ (k + 3 + 2 + 4 * i_1) by omega) (show (k + 4 + 3 + 4 * i_1) + 1 ≠ (k + 3 + 2 + 4 * i_1) by omega)) (cwV 2 B.1.2.2.2.2 gX1_support_X10_copyFrom rfl rfl rfl (by decide +kernel) ⟨Nat.le_of_ble_eq_true rfl, Nat.le_of_ble_eq_true rfl⟩) h_11 rfl rfl rfl rfl (Nat.le_of_ble_eq_true rfl) dX1_support_25 ⟨Nat.le_of_ble_eq_true rfl, Nat.le_of_ble_eq_true rfl⟩ (fun r_3 Φ2 sz1 st1 hp1 hs1 => ?_)
    obtain ⟨rfl, hq1, hI3, hF2⟩ := hp1
    subst sz1
    replace hs1 : st1 = [] := hs1
    subst st1
    replace hI3 : In G x (ca) Φ2 := hI3
    refine z_iinc (k := 0) (v := nI (i_1 + 1)) (lv' := [(2, .int (nI (i_1 + 1))), (0, .ref (x + (k))), (1, .int a)]) B dX1_support_28 rfl (nI_add i_1 1) (Nat.le_of_ble_eq_true rfl) rfl ?_
    refine z_goto (tgt := 7) B dX1_support_31 rfl ?_
    refine z_lv [0, 1, 2] rfl ?_
    exact ih1 (i_1 + 1) Φ2 (show 4 - (i_1 + 1) < 4 - i_1 by omega) ⟨hI3, (fun b9 h9 => ((hF2 b9 (fun j9 h8 h7 => h9 j9 h8 (show k ≤ j9 ∧ j9 < k + 21 by have h6 : j9 = (k + 4 + 3 + 4 * i_1) ∨ j9 = (k + 4 + 3 + 4 * i_1) + 1 := h7; omega))).trans ((hF1 b9 h9).trans rfl))), (show (i_1 + 1) ≤ 4 by omega), trivial⟩

theorem hu_X1_copyFrom_X1 : ∀ w ∈ u_ws RX1 TX1 6, w ∈ wsX1_copyFrom := fun _ h => List.mem_cons_of_mem _ (List.mem_append_left _ (List.mem_append_left _ (List.mem_append_right _ (h))))

theorem hv_X1_copyFrom_9 : Cond.fieldLink RX1 9 "FlowExporter$Config" (TX1 0).2.1 (TX1 0).2.2.1 ∈ wsX1_copyFrom := List.mem_cons_of_mem _ (List.mem_append_left _ (List.mem_append_left _ (List.mem_append_left _ (List.mem_append_left _ (List.mem_of_getElem? (i := 0) rfl)))))

theorem hv_X1_copyFrom_15 : Cond.fieldLink RX1 15 "FlowExporter$Config" (TX1 1).2.1 (TX1 1).2.2.1 ∈ wsX1_copyFrom := List.mem_cons_of_mem _ (List.mem_append_left _ (List.mem_append_left _ (List.mem_append_left _ (List.mem_append_left _ (List.mem_of_getElem? (i := 5) rfl)))))

theorem fq_53 {x : Nat} : ∀ j9 : Nat, x + 25 = x + j9 → (3 ≤ j9 ∧ j9 < 24) → False := by
  intro j9 h1 h2
  omega

theorem hv_X1_copyFrom_27 : Cond.fieldLink RX1 27 "FlowExporter$Config" (TX1 4).2.1 (TX1 4).2.2.1 ∈ wsX1_copyFrom := List.mem_cons_of_mem _ (List.mem_append_left _ (List.mem_append_left _ (List.mem_append_left _ (List.mem_append_left _ (List.mem_of_getElem? (i := 7) rfl)))))

theorem hv_X1_copyFrom_31 : Cond.fieldLink RX1 31 "FlowExporter$Config" (TX1 5).2.1 (TX1 5).2.2.1 ∈ wsX1_copyFrom := List.mem_cons_of_mem _ (List.mem_append_left _ (List.mem_append_left _ (List.mem_append_left _ (List.mem_append_left _ (List.mem_of_getElem? (i := 8) rfl)))))

theorem fq_56 : ∀ j9 : Nat, (3 ≤ j9 ∧ j9 < 3 + 21) → (3 ≤ j9 ∧ j9 < 24) := by
  intro j9 h
  omega

set_option maxRecDepth 20000 in
theorem ggX1_clear_J7_fill_53178 : GoodIn wsX1_clear wsJ7_fill_53178 := goodIn_r _ [13] rfl (by decide +kernel)
set_option maxRecDepth 20000 in
theorem gX1_clear_J7_fill_53178 : GoodIn wsX1_clear (va_wsS RX1 44 yJ7_fill_53178 wsJ7_fill_53178) := goodIn_app (goodIn_of _ (by decide +kernel)) ggX1_clear_J7_fill_53178
set_option maxRecDepth 20000 in
theorem ggX1_clear_X10_clear : GoodIn wsX1_clear wsX10_clear := goodIn_r _ [18, 19, 20, 21, 28, 29, 30, 31] rfl (by decide +kernel)
set_option maxRecDepth 20000 in
theorem gX1_clear_X10_clear : GoodIn wsX1_clear (wsV RX1 50 RX10 yX10_clear wsX10_clear) := goodIn_app (goodIn_of _ (by decide +kernel)) ggX1_clear_X10_clear
theorem dX1_clear_0 : decode cX1_clear 0 = .ok (.getstatic 35, 3) := by decide +kernel
theorem dX1_clear_3 : decode cX1_clear 3 = .ok (.iconst 0, 1) := by decide +kernel
theorem dX1_clear_4 : decode cX1_clear 4 = .ok (.aload_n 0, 1) := by decide +kernel
theorem dX1_clear_5 : decode cX1_clear 5 = .ok (.getfield 9, 3) := by decide +kernel
theorem dX1_clear_8 : decode cX1_clear 8 = .ok (.iconst 0, 1) := by decide +kernel
theorem dX1_clear_9 : decode cX1_clear 9 = .ok (.bipush 9, 2) := by decide +kernel
theorem dX1_clear_11 : decode cX1_clear 11 = .ok (.invokestatic 38, 3) := by decide +kernel
theorem dX1_clear_14 : decode cX1_clear 14 = .ok (.aload_n 0, 1) := by decide +kernel
theorem dX1_clear_15 : decode cX1_clear 15 = .ok (.getfield 15, 3) := by decide +kernel
theorem dX1_clear_18 : decode cX1_clear 18 = .ok (.iconst 0, 1) := by decide +kernel
theorem dX1_clear_19 : decode cX1_clear 19 = .ok (.invokestatic 44, 3) := by decide +kernel
theorem dX1_clear_22 : decode cX1_clear 22 = .ok (.iconst 0, 1) := by decide +kernel
theorem dX1_clear_23 : decode cX1_clear 23 = .ok (.istore_n 1, 1) := by decide +kernel
theorem dX1_clear_24 : decode cX1_clear 24 = .ok (.iload_n 1, 1) := by decide +kernel
theorem dX1_clear_25 : decode cX1_clear 25 = .ok (.iconst 4, 1) := by decide +kernel
theorem dX1_clear_26 : decode cX1_clear 26 = .ok (.if_icmp .ge 18, 3) := by decide +kernel
theorem dX1_clear_29 : decode cX1_clear 29 = .ok (.aload_n 0, 1) := by decide +kernel
theorem dX1_clear_30 : decode cX1_clear 30 = .ok (.getfield 20, 3) := by decide +kernel
theorem dX1_clear_33 : decode cX1_clear 33 = .ok (.iload_n 1, 1) := by decide +kernel
theorem dX1_clear_34 : decode cX1_clear 34 = .ok (.aaload, 1) := by decide +kernel
theorem dX1_clear_35 : decode cX1_clear 35 = .ok (.invokevirtual 50, 3) := by decide +kernel
theorem dX1_clear_38 : decode cX1_clear 38 = .ok (.iinc 1 1, 3) := by decide +kernel
theorem dX1_clear_41 : decode cX1_clear 41 = .ok (.goto (-17), 3) := by decide +kernel
theorem dX1_clear_44 : decode cX1_clear 44 = .ok (.aload_n 0, 1) := by decide +kernel
theorem dX1_clear_45 : decode cX1_clear 45 = .ok (.iconst 0, 1) := by decide +kernel
theorem dX1_clear_46 : decode cX1_clear 46 = .ok (.putfield 27, 3) := by decide +kernel
theorem dX1_clear_49 : decode cX1_clear 49 = .ok (.aload_n 0, 1) := by decide +kernel
theorem dX1_clear_50 : decode cX1_clear 50 = .ok (.sipush 511, 3) := by decide +kernel
theorem dX1_clear_53 : decode cX1_clear 53 = .ok (.putfield 31, 3) := by decide +kernel
theorem dX1_clear_56 : decode cX1_clear 56 = .ok (.return_, 1) := by decide +kernel
set_option maxRecDepth 20000 in
theorem ggX1_copyFrom_X10_copyFrom : GoodIn wsX1_copyFrom wsX10_copyFrom := goodIn_ca (goodIn_r _ [14, 15, 16, 17, 18, 13, 19, 20, 21, 22, 23, 24, 25, 26, 27, 28, 29, 30, 43, 44, 45, 46] rfl (by decide +kernel)) (goodIn_sub (fun _ h => List.mem_cons_of_mem _ (List.mem_append_right _ h)) (by decide +kernel))
set_option maxRecDepth 20000 in
theorem gX1_copyFrom_X10_copyFrom : GoodIn wsX1_copyFrom (wsV RX1 53 RX10 yX10_copyFrom wsX10_copyFrom) := goodIn_app (goodIn_of _ (by decide +kernel)) ggX1_copyFrom_X10_copyFrom
set_option maxRecDepth 20000 in
theorem ggX1_copyFrom_X1_support : GoodIn wsX1_copyFrom wsX1_support := goodIn_ca (goodIn_r _ [35, 9, 36, 7, 10, 11, 12, 13, 14, 15, 16, 17, 18, 19, 20, 21, 22, 23, 24, 25, 26, 27, 28, 29, 30, 37, 38, 39, 40, 41, 42, 43, 44, 45, 46] rfl (by decide +kernel)) (goodIn_sub (fun _ h => List.mem_cons_of_mem _ (List.mem_append_right _ h)) (by decide +kernel))
set_option maxRecDepth 20000 in
theorem gX1_copyFrom_X1_support : GoodIn wsX1_copyFrom (wsV RX1 57 RX1 yX1_support wsX1_support) := goodIn_app (goodIn_of _ (by decide +kernel)) ggX1_copyFrom_X1_support
theorem dX1_copyFrom_0 : decode cX1_copyFrom 0 = .ok (.aload_n 1, 1) := by decide +kernel
theorem dX1_copyFrom_1 : decode cX1_copyFrom 1 = .ok (.getfield 9, 3) := by decide +kernel
theorem dX1_copyFrom_4 : decode cX1_copyFrom 4 = .ok (.iconst 0, 1) := by decide +kernel
theorem dX1_copyFrom_5 : decode cX1_copyFrom 5 = .ok (.aload_n 0, 1) := by decide +kernel
theorem dX1_copyFrom_6 : decode cX1_copyFrom 6 = .ok (.getfield 9, 3) := by decide +kernel
theorem dX1_copyFrom_9 : decode cX1_copyFrom 9 = .ok (.iconst 0, 1) := by decide +kernel
theorem dX1_copyFrom_10 : decode cX1_copyFrom 10 = .ok (.bipush 9, 2) := by decide +kernel
theorem dX1_copyFrom_12 : decode cX1_copyFrom 12 = .ok (.invokestatic 38, 3) := by decide +kernel
theorem dX1_copyFrom_15 : decode cX1_copyFrom 15 = .ok (.aload_n 1, 1) := by decide +kernel
theorem dX1_copyFrom_16 : decode cX1_copyFrom 16 = .ok (.getfield 15, 3) := by decide +kernel
theorem dX1_copyFrom_19 : decode cX1_copyFrom 19 = .ok (.iconst 0, 1) := by decide +kernel
theorem dX1_copyFrom_20 : decode cX1_copyFrom 20 = .ok (.aload_n 0, 1) := by decide +kernel
theorem dX1_copyFrom_21 : decode cX1_copyFrom 21 = .ok (.getfield 15, 3) := by decide +kernel
theorem dX1_copyFrom_24 : decode cX1_copyFrom 24 = .ok (.iconst 0, 1) := by decide +kernel
theorem dX1_copyFrom_25 : decode cX1_copyFrom 25 = .ok (.sipush 256, 3) := by decide +kernel
theorem dX1_copyFrom_28 : decode cX1_copyFrom 28 = .ok (.invokestatic 38, 3) := by decide +kernel
theorem dX1_copyFrom_31 : decode cX1_copyFrom 31 = .ok (.iconst 0, 1) := by decide +kernel
theorem dX1_copyFrom_32 : decode cX1_copyFrom 32 = .ok (.istore_n 2, 1) := by decide +kernel
theorem dX1_copyFrom_33 : decode cX1_copyFrom 33 = .ok (.iload_n 2, 1) := by decide +kernel
theorem dX1_copyFrom_34 : decode cX1_copyFrom 34 = .ok (.iconst 4, 1) := by decide +kernel
theorem dX1_copyFrom_35 : decode cX1_copyFrom 35 = .ok (.if_icmp .ge 27, 3) := by decide +kernel
theorem dX1_copyFrom_38 : decode cX1_copyFrom 38 = .ok (.aload_n 0, 1) := by decide +kernel
theorem dX1_copyFrom_39 : decode cX1_copyFrom 39 = .ok (.getfield 20, 3) := by decide +kernel
theorem dX1_copyFrom_42 : decode cX1_copyFrom 42 = .ok (.iload_n 2, 1) := by decide +kernel
theorem dX1_copyFrom_43 : decode cX1_copyFrom 43 = .ok (.aaload, 1) := by decide +kernel
theorem dX1_copyFrom_44 : decode cX1_copyFrom 44 = .ok (.aload_n 1, 1) := by decide +kernel
theorem dX1_copyFrom_45 : decode cX1_copyFrom 45 = .ok (.getfield 20, 3) := by decide +kernel
theorem dX1_copyFrom_48 : decode cX1_copyFrom 48 = .ok (.iload_n 2, 1) := by decide +kernel
theorem dX1_copyFrom_49 : decode cX1_copyFrom 49 = .ok (.aaload, 1) := by decide +kernel
theorem dX1_copyFrom_50 : decode cX1_copyFrom 50 = .ok (.sipush 511, 3) := by decide +kernel
theorem dX1_copyFrom_53 : decode cX1_copyFrom 53 = .ok (.invokevirtual 53, 3) := by decide +kernel
theorem dX1_copyFrom_56 : decode cX1_copyFrom 56 = .ok (.iinc 2 1, 3) := by decide +kernel
theorem dX1_copyFrom_59 : decode cX1_copyFrom 59 = .ok (.goto (-26), 3) := by decide +kernel
theorem dX1_copyFrom_62 : decode cX1_copyFrom 62 = .ok (.aload_n 0, 1) := by decide +kernel
theorem dX1_copyFrom_63 : decode cX1_copyFrom 63 = .ok (.aload_n 1, 1) := by decide +kernel
theorem dX1_copyFrom_64 : decode cX1_copyFrom 64 = .ok (.getfield 27, 3) := by decide +kernel
theorem dX1_copyFrom_67 : decode cX1_copyFrom 67 = .ok (.putfield 27, 3) := by decide +kernel
theorem dX1_copyFrom_70 : decode cX1_copyFrom 70 = .ok (.aload_n 0, 1) := by decide +kernel
theorem dX1_copyFrom_71 : decode cX1_copyFrom 71 = .ok (.aload_n 1, 1) := by decide +kernel
theorem dX1_copyFrom_72 : decode cX1_copyFrom 72 = .ok (.getfield 31, 3) := by decide +kernel
theorem dX1_copyFrom_75 : decode cX1_copyFrom 75 = .ok (.invokevirtual 57, 3) := by decide +kernel
theorem dX1_copyFrom_78 : decode cX1_copyFrom 78 = .ok (.return_, 1) := by decide +kernel
set_option maxRecDepth 20000 in
theorem ggX1_support_X10_copyFrom : GoodIn wsX1_support wsX10_copyFrom := goodIn_ca (goodIn_r _ [8, 9, 10, 11, 12, 7, 13, 14, 15, 16, 17, 18, 19, 20, 21, 22, 23, 24, 31, 32, 33, 34] rfl (by decide +kernel)) (goodIn_sub (fun _ h => List.mem_cons_of_mem _ (List.mem_append_right _ h)) (by decide +kernel))
set_option maxRecDepth 20000 in
theorem gX1_support_X10_copyFrom : GoodIn wsX1_support (wsV RX1 53 RX10 yX10_copyFrom wsX10_copyFrom) := goodIn_app (goodIn_of _ (by decide +kernel)) ggX1_support_X10_copyFrom
theorem dX1_support_0 : decode cX1_support 0 = .ok (.aload_n 0, 1) := by decide +kernel
theorem dX1_support_1 : decode cX1_support 1 = .ok (.iload_n 1, 1) := by decide +kernel
theorem dX1_support_2 : decode cX1_support 2 = .ok (.putfield 31, 3) := by decide +kernel
theorem dX1_support_5 : decode cX1_support 5 = .ok (.iconst 0, 1) := by decide +kernel
theorem dX1_support_6 : decode cX1_support 6 = .ok (.istore_n 2, 1) := by decide +kernel
theorem dX1_support_7 : decode cX1_support 7 = .ok (.iload_n 2, 1) := by decide +kernel
theorem dX1_support_8 : decode cX1_support 8 = .ok (.iconst 4, 1) := by decide +kernel
theorem dX1_support_9 : decode cX1_support 9 = .ok (.if_icmp .ge 25, 3) := by decide +kernel
theorem dX1_support_12 : decode cX1_support 12 = .ok (.aload_n 0, 1) := by decide +kernel
theorem dX1_support_13 : decode cX1_support 13 = .ok (.getfield 24, 3) := by decide +kernel
theorem dX1_support_16 : decode cX1_support 16 = .ok (.iload_n 2, 1) := by decide +kernel
theorem dX1_support_17 : decode cX1_support 17 = .ok (.aaload, 1) := by decide +kernel
theorem dX1_support_18 : decode cX1_support 18 = .ok (.aload_n 0, 1) := by decide +kernel
theorem dX1_support_19 : decode cX1_support 19 = .ok (.getfield 20, 3) := by decide +kernel
theorem dX1_support_22 : decode cX1_support 22 = .ok (.iload_n 2, 1) := by decide +kernel
theorem dX1_support_23 : decode cX1_support 23 = .ok (.aaload, 1) := by decide +kernel
theorem dX1_support_24 : decode cX1_support 24 = .ok (.iload_n 1, 1) := by decide +kernel
theorem dX1_support_25 : decode cX1_support 25 = .ok (.invokevirtual 53, 3) := by decide +kernel
theorem dX1_support_28 : decode cX1_support 28 = .ok (.iinc 2 1, 3) := by decide +kernel
theorem dX1_support_31 : decode cX1_support 31 = .ok (.goto (-24), 3) := by decide +kernel
theorem dX1_support_34 : decode cX1_support 34 = .ok (.return_, 1) := by decide +kernel
set_option maxRecDepth 20000 in
theorem ggX1_addUsualTemplate_X10_addField : GoodIn wsX1_addUsualTemplate wsX10_addField := goodIn_ca (goodIn_r _ [7, 8, 9, 10, 11, 18, 19, 20, 21] rfl (by decide +kernel)) (goodIn_sub (fun _ h => List.mem_cons_of_mem _ (List.mem_append_right _ h)) (by decide +kernel))
set_option maxRecDepth 20000 in
theorem gX1_addUsualTemplate_X10_addField : GoodIn wsX1_addUsualTemplate (wsV RX1 61 RX10 yX10_addField wsX10_addField) := goodIn_app (goodIn_of _ (by decide +kernel)) ggX1_addUsualTemplate_X10_addField
theorem dX1_addUsualTemplate_0 : decode cX1_addUsualTemplate 0 = .ok (.aload_n 0, 1) := by decide +kernel
theorem dX1_addUsualTemplate_1 : decode cX1_addUsualTemplate 1 = .ok (.iconst 1, 1) := by decide +kernel
theorem dX1_addUsualTemplate_2 : decode cX1_addUsualTemplate 2 = .ok (.putfield 27, 3) := by decide +kernel
theorem dX1_addUsualTemplate_5 : decode cX1_addUsualTemplate 5 = .ok (.iconst 0, 1) := by decide +kernel
theorem dX1_addUsualTemplate_6 : decode cX1_addUsualTemplate 6 = .ok (.istore_n 1, 1) := by decide +kernel
theorem dX1_addUsualTemplate_7 : decode cX1_addUsualTemplate 7 = .ok (.iload_n 1, 1) := by decide +kernel
theorem dX1_addUsualTemplate_8 : decode cX1_addUsualTemplate 8 = .ok (.bipush 9, 2) := by decide +kernel
theorem dX1_addUsualTemplate_10 : decode cX1_addUsualTemplate 10 = .ok (.if_icmp .ge 19, 3) := by decide +kernel
theorem dX1_addUsualTemplate_13 : decode cX1_addUsualTemplate 13 = .ok (.aload_n 0, 1) := by decide +kernel
theorem dX1_addUsualTemplate_14 : decode cX1_addUsualTemplate 14 = .ok (.getfield 20, 3) := by decide +kernel
theorem dX1_addUsualTemplate_17 : decode cX1_addUsualTemplate 17 = .ok (.iconst 0, 1) := by decide +kernel
theorem dX1_addUsualTemplate_18 : decode cX1_addUsualTemplate 18 = .ok (.aaload, 1) := by decide +kernel
theorem dX1_addUsualTemplate_19 : decode cX1_addUsualTemplate 19 = .ok (.iload_n 1, 1) := by decide +kernel
theorem dX1_addUsualTemplate_20 : decode cX1_addUsualTemplate 20 = .ok (.invokevirtual 61, 3) := by decide +kernel
theorem dX1_addUsualTemplate_23 : decode cX1_addUsualTemplate 23 = .ok (.iinc 1 1, 3) := by decide +kernel
theorem dX1_addUsualTemplate_26 : decode cX1_addUsualTemplate 26 = .ok (.goto (-19), 3) := by decide +kernel
theorem dX1_addUsualTemplate_29 : decode cX1_addUsualTemplate 29 = .ok (.return_, 1) := by decide +kernel
theorem dX1_template_0 : decode cX1_template 0 = .ok (.aload_n 0, 1) := by decide +kernel
theorem dX1_template_1 : decode cX1_template 1 = .ok (.getfield 20, 3) := by decide +kernel
theorem dX1_template_4 : decode cX1_template 4 = .ok (.iload_n 1, 1) := by decide +kernel
theorem dX1_template_5 : decode cX1_template 5 = .ok (.ifCond .lt 12, 3) := by decide +kernel
theorem dX1_template_8 : decode cX1_template 8 = .ok (.iload_n 1, 1) := by decide +kernel
theorem dX1_template_9 : decode cX1_template 9 = .ok (.iconst 4, 1) := by decide +kernel
theorem dX1_template_10 : decode cX1_template 10 = .ok (.if_icmp .ge 7, 3) := by decide +kernel
theorem dX1_template_13 : decode cX1_template 13 = .ok (.iload_n 1, 1) := by decide +kernel
theorem dX1_template_14 : decode cX1_template 14 = .ok (.goto 4, 3) := by decide +kernel
theorem dX1_template_17 : decode cX1_template 17 = .ok (.iconst 0, 1) := by decide +kernel
theorem dX1_template_18 : decode cX1_template 18 = .ok (.aaload, 1) := by decide +kernel
theorem dX1_template_19 : decode cX1_template 19 = .ok (.areturn, 1) := by decide +kernel
theorem dX1_effective_0 : decode cX1_effective 0 = .ok (.aload_n 0, 1) := by decide +kernel
theorem dX1_effective_1 : decode cX1_effective 1 = .ok (.getfield 24, 3) := by decide +kernel
theorem dX1_effective_4 : decode cX1_effective 4 = .ok (.iload_n 1, 1) := by decide +kernel
theorem dX1_effective_5 : decode cX1_effective 5 = .ok (.ifCond .lt 12, 3) := by decide +kernel
theorem dX1_effective_8 : decode cX1_effective 8 = .ok (.iload_n 1, 1) := by decide +kernel
theorem dX1_effective_9 : decode cX1_effective 9 = .ok (.iconst 4, 1) := by decide +kernel
theorem dX1_effective_10 : decode cX1_effective 10 = .ok (.if_icmp .ge 7, 3) := by decide +kernel
theorem dX1_effective_13 : decode cX1_effective 13 = .ok (.iload_n 1, 1) := by decide +kernel
theorem dX1_effective_14 : decode cX1_effective 14 = .ok (.goto 4, 3) := by decide +kernel
theorem dX1_effective_17 : decode cX1_effective 17 = .ok (.iconst 0, 1) := by decide +kernel
theorem dX1_effective_18 : decode cX1_effective 18 = .ok (.aaload, 1) := by decide +kernel
theorem dX1_effective_19 : decode cX1_effective 19 = .ok (.areturn, 1) := by decide +kernel
theorem dX1_set_0 : decode cX1_set 0 = .ok (.iload_n 1, 1) := by decide +kernel
theorem dX1_set_1 : decode cX1_set 1 = .ok (.ifCond .lt 16, 3) := by decide +kernel
theorem dX1_set_4 : decode cX1_set 4 = .ok (.iload_n 1, 1) := by decide +kernel
theorem dX1_set_5 : decode cX1_set 5 = .ok (.bipush 9, 2) := by decide +kernel
theorem dX1_set_7 : decode cX1_set 7 = .ok (.if_icmp .ge 10, 3) := by decide +kernel
theorem dX1_set_10 : decode cX1_set 10 = .ok (.aload_n 0, 1) := by decide +kernel
theorem dX1_set_11 : decode cX1_set 11 = .ok (.getfield 9, 3) := by decide +kernel
theorem dX1_set_14 : decode cX1_set 14 = .ok (.iload_n 1, 1) := by decide +kernel
theorem dX1_set_15 : decode cX1_set 15 = .ok (.iload_n 2, 1) := by decide +kernel
theorem dX1_set_16 : decode cX1_set 16 = .ok (.iastore, 1) := by decide +kernel
theorem dX1_set_17 : decode cX1_set 17 = .ok (.return_, 1) := by decide +kernel
theorem dX1_get_0 : decode cX1_get 0 = .ok (.iload_n 1, 1) := by decide +kernel
theorem dX1_get_1 : decode cX1_get 1 = .ok (.ifCond .lt 18, 3) := by decide +kernel
theorem dX1_get_4 : decode cX1_get 4 = .ok (.iload_n 1, 1) := by decide +kernel
theorem dX1_get_5 : decode cX1_get 5 = .ok (.bipush 9, 2) := by decide +kernel
theorem dX1_get_7 : decode cX1_get 7 = .ok (.if_icmp .ge 12, 3) := by decide +kernel
theorem dX1_get_10 : decode cX1_get 10 = .ok (.aload_n 0, 1) := by decide +kernel
theorem dX1_get_11 : decode cX1_get 11 = .ok (.getfield 9, 3) := by decide +kernel
theorem dX1_get_14 : decode cX1_get 14 = .ok (.iload_n 1, 1) := by decide +kernel
theorem dX1_get_15 : decode cX1_get 15 = .ok (.iaload, 1) := by decide +kernel
theorem dX1_get_16 : decode cX1_get 16 = .ok (.goto 4, 3) := by decide +kernel
theorem dX1_get_19 : decode cX1_get 19 = .ok (.iconst 0, 1) := by decide +kernel
theorem dX1_get_20 : decode cX1_get 20 = .ok (.ireturn, 1) := by decide +kernel
theorem dX1_use_0 : decode cX1_use 0 = .ok (.iload_n 1, 1) := by decide +kernel
theorem dX1_use_1 : decode cX1_use 1 = .ok (.ifCond .lt 17, 3) := by decide +kernel
theorem dX1_use_4 : decode cX1_use 4 = .ok (.iload_n 1, 1) := by decide +kernel
theorem dX1_use_5 : decode cX1_use 5 = .ok (.sipush 256, 3) := by decide +kernel
theorem dX1_use_8 : decode cX1_use 8 = .ok (.if_icmp .ge 10, 3) := by decide +kernel
theorem dX1_use_11 : decode cX1_use 11 = .ok (.aload_n 0, 1) := by decide +kernel
theorem dX1_use_12 : decode cX1_use 12 = .ok (.getfield 15, 3) := by decide +kernel
theorem dX1_use_15 : decode cX1_use 15 = .ok (.iload_n 1, 1) := by decide +kernel
theorem dX1_use_16 : decode cX1_use 16 = .ok (.iload_n 2, 1) := by decide +kernel
theorem dX1_use_17 : decode cX1_use 17 = .ok (.iastore, 1) := by decide +kernel
theorem dX1_use_18 : decode cX1_use 18 = .ok (.return_, 1) := by decide +kernel
theorem dX1_templateOf_0 : decode cX1_templateOf 0 = .ok (.iload_n 1, 1) := by decide +kernel
theorem dX1_templateOf_1 : decode cX1_templateOf 1 = .ok (.ifCond .lt 19, 3) := by decide +kernel
theorem dX1_templateOf_4 : decode cX1_templateOf 4 = .ok (.iload_n 1, 1) := by decide +kernel
theorem dX1_templateOf_5 : decode cX1_templateOf 5 = .ok (.sipush 256, 3) := by decide +kernel
theorem dX1_templateOf_8 : decode cX1_templateOf 8 = .ok (.if_icmp .ge 12, 3) := by decide +kernel
theorem dX1_templateOf_11 : decode cX1_templateOf 11 = .ok (.aload_n 0, 1) := by decide +kernel
theorem dX1_templateOf_12 : decode cX1_templateOf 12 = .ok (.getfield 15, 3) := by decide +kernel
theorem dX1_templateOf_15 : decode cX1_templateOf 15 = .ok (.iload_n 1, 1) := by decide +kernel
theorem dX1_templateOf_16 : decode cX1_templateOf 16 = .ok (.iaload, 1) := by decide +kernel
theorem dX1_templateOf_17 : decode cX1_templateOf 17 = .ok (.goto 4, 3) := by decide +kernel
theorem dX1_templateOf_20 : decode cX1_templateOf 20 = .ok (.iconst 0, 1) := by decide +kernel
theorem dX1_templateOf_21 : decode cX1_templateOf 21 = .ok (.ireturn, 1) := by decide +kernel
theorem dX5_putAt_0 : decode cX5_putAt 0 = .ok (.iconst 0, 1) := by decide +kernel
theorem dX5_putAt_1 : decode cX5_putAt 1 = .ok (.istore 5, 2) := by decide +kernel
theorem dX5_putAt_3 : decode cX5_putAt 3 = .ok (.iload 5, 2) := by decide +kernel
theorem dX5_putAt_5 : decode cX5_putAt 5 = .ok (.iload 4, 2) := by decide +kernel
theorem dX5_putAt_7 : decode cX5_putAt 7 = .ok (.if_icmp .ge 50, 3) := by decide +kernel
theorem dX5_putAt_10 : decode cX5_putAt 10 = .ok (.iload_n 1, 1) := by decide +kernel
theorem dX5_putAt_11 : decode cX5_putAt 11 = .ok (.iload 5, 2) := by decide +kernel
theorem dX5_putAt_13 : decode cX5_putAt 13 = .ok (.iadd, 1) := by decide +kernel
theorem dX5_putAt_14 : decode cX5_putAt 14 = .ok (.istore 6, 2) := by decide +kernel
theorem dX5_putAt_16 : decode cX5_putAt 16 = .ok (.iload 6, 2) := by decide +kernel
theorem dX5_putAt_18 : decode cX5_putAt 18 = .ok (.ifCond .lt 33, 3) := by decide +kernel
theorem dX5_putAt_21 : decode cX5_putAt 21 = .ok (.iload 6, 2) := by decide +kernel
theorem dX5_putAt_23 : decode cX5_putAt 23 = .ok (.aload_n 0, 1) := by decide +kernel
theorem dX5_putAt_24 : decode cX5_putAt 24 = .ok (.getfield 9, 3) := by decide +kernel
theorem dX5_putAt_27 : decode cX5_putAt 27 = .ok (.if_icmp .ge 24, 3) := by decide +kernel
theorem dX5_putAt_30 : decode cX5_putAt 30 = .ok (.aload_n 0, 1) := by decide +kernel
theorem dX5_putAt_31 : decode cX5_putAt 31 = .ok (.getfield 21, 3) := by decide +kernel
theorem dX5_putAt_34 : decode cX5_putAt 34 = .ok (.iload 6, 2) := by decide +kernel
theorem dX5_putAt_36 : decode cX5_putAt 36 = .ok (.lload_n 2, 1) := by decide +kernel
theorem dX5_putAt_37 : decode cX5_putAt 37 = .ok (.bipush 8, 2) := by decide +kernel
theorem dX5_putAt_39 : decode cX5_putAt 39 = .ok (.iload 4, 2) := by decide +kernel
theorem dX5_putAt_41 : decode cX5_putAt 41 = .ok (.iconst 1, 1) := by decide +kernel
theorem dX5_putAt_42 : decode cX5_putAt 42 = .ok (.isub, 1) := by decide +kernel
theorem dX5_putAt_43 : decode cX5_putAt 43 = .ok (.iload 5, 2) := by decide +kernel
theorem dX5_putAt_45 : decode cX5_putAt 45 = .ok (.isub, 1) := by decide +kernel
theorem dX5_putAt_46 : decode cX5_putAt 46 = .ok (.imul, 1) := by decide +kernel
theorem dX5_putAt_47 : decode cX5_putAt 47 = .ok (.lshr, 1) := by decide +kernel
theorem dX5_putAt_48 : decode cX5_putAt 48 = .ok (.l2i, 1) := by decide +kernel
theorem dX5_putAt_49 : decode cX5_putAt 49 = .ok (.i2b, 1) := by decide +kernel
theorem dX5_putAt_50 : decode cX5_putAt 50 = .ok (.bastore, 1) := by decide +kernel
theorem dX5_putAt_51 : decode cX5_putAt 51 = .ok (.iinc 5 1, 3) := by decide +kernel
theorem dX5_putAt_54 : decode cX5_putAt 54 = .ok (.goto (-51), 3) := by decide +kernel
theorem dX5_putAt_57 : decode cX5_putAt 57 = .ok (.return_, 1) := by decide +kernel
theorem dX5_byteAt_0 : decode cX5_byteAt 0 = .ok (.iload_n 1, 1) := by decide +kernel
theorem dX5_byteAt_1 : decode cX5_byteAt 1 = .ok (.ifCond .lt 24, 3) := by decide +kernel
theorem dX5_byteAt_4 : decode cX5_byteAt 4 = .ok (.iload_n 1, 1) := by decide +kernel
theorem dX5_byteAt_5 : decode cX5_byteAt 5 = .ok (.aload_n 0, 1) := by decide +kernel
theorem dX5_byteAt_6 : decode cX5_byteAt 6 = .ok (.getfield 9, 3) := by decide +kernel
theorem dX5_byteAt_9 : decode cX5_byteAt 9 = .ok (.if_icmp .ge 16, 3) := by decide +kernel
theorem dX5_byteAt_12 : decode cX5_byteAt 12 = .ok (.aload_n 0, 1) := by decide +kernel
theorem dX5_byteAt_13 : decode cX5_byteAt 13 = .ok (.getfield 21, 3) := by decide +kernel
theorem dX5_byteAt_16 : decode cX5_byteAt 16 = .ok (.iload_n 1, 1) := by decide +kernel
theorem dX5_byteAt_17 : decode cX5_byteAt 17 = .ok (.baload, 1) := by decide +kernel
theorem dX5_byteAt_18 : decode cX5_byteAt 18 = .ok (.sipush 255, 3) := by decide +kernel
theorem dX5_byteAt_21 : decode cX5_byteAt 21 = .ok (.iand, 1) := by decide +kernel
theorem dX5_byteAt_22 : decode cX5_byteAt 22 = .ok (.goto 4, 3) := by decide +kernel
theorem dX5_byteAt_25 : decode cX5_byteAt 25 = .ok (.iconst (-1), 1) := by decide +kernel
theorem dX5_byteAt_26 : decode cX5_byteAt 26 = .ok (.ireturn, 1) := by decide +kernel
theorem dX5_numberAt_0 : decode cX5_numberAt 0 = .ok (.lconst 0, 1) := by decide +kernel
theorem dX5_numberAt_1 : decode cX5_numberAt 1 = .ok (.lstore_n 3, 1) := by decide +kernel
theorem dX5_numberAt_2 : decode cX5_numberAt 2 = .ok (.iconst 0, 1) := by decide +kernel
theorem dX5_numberAt_3 : decode cX5_numberAt 3 = .ok (.istore 5, 2) := by decide +kernel
theorem dX5_numberAt_5 : decode cX5_numberAt 5 = .ok (.iload 5, 2) := by decide +kernel
theorem dX5_numberAt_7 : decode cX5_numberAt 7 = .ok (.iload_n 2, 1) := by decide +kernel
theorem dX5_numberAt_8 : decode cX5_numberAt 8 = .ok (.if_icmp .ge 51, 3) := by decide +kernel
theorem dX5_numberAt_11 : decode cX5_numberAt 11 = .ok (.iload_n 1, 1) := by decide +kernel
theorem dX5_numberAt_12 : decode cX5_numberAt 12 = .ok (.iload 5, 2) := by decide +kernel
theorem dX5_numberAt_14 : decode cX5_numberAt 14 = .ok (.iadd, 1) := by decide +kernel
theorem dX5_numberAt_15 : decode cX5_numberAt 15 = .ok (.istore 6, 2) := by decide +kernel
theorem dX5_numberAt_17 : decode cX5_numberAt 17 = .ok (.lload_n 3, 1) := by decide +kernel
theorem dX5_numberAt_18 : decode cX5_numberAt 18 = .ok (.bipush 8, 2) := by decide +kernel
theorem dX5_numberAt_20 : decode cX5_numberAt 20 = .ok (.lshl, 1) := by decide +kernel
theorem dX5_numberAt_21 : decode cX5_numberAt 21 = .ok (.iload 6, 2) := by decide +kernel
theorem dX5_numberAt_23 : decode cX5_numberAt 23 = .ok (.ifCond .lt 26, 3) := by decide +kernel
theorem dX5_numberAt_26 : decode cX5_numberAt 26 = .ok (.iload 6, 2) := by decide +kernel
theorem dX5_numberAt_28 : decode cX5_numberAt 28 = .ok (.aload_n 0, 1) := by decide +kernel
theorem dX5_numberAt_29 : decode cX5_numberAt 29 = .ok (.getfield 9, 3) := by decide +kernel
theorem dX5_numberAt_32 : decode cX5_numberAt 32 = .ok (.if_icmp .ge 17, 3) := by decide +kernel
theorem dX5_numberAt_35 : decode cX5_numberAt 35 = .ok (.aload_n 0, 1) := by decide +kernel
theorem dX5_numberAt_36 : decode cX5_numberAt 36 = .ok (.getfield 21, 3) := by decide +kernel
theorem dX5_numberAt_39 : decode cX5_numberAt 39 = .ok (.iload 6, 2) := by decide +kernel
theorem dX5_numberAt_41 : decode cX5_numberAt 41 = .ok (.baload, 1) := by decide +kernel
theorem dX5_numberAt_42 : decode cX5_numberAt 42 = .ok (.sipush 255, 3) := by decide +kernel
theorem dX5_numberAt_45 : decode cX5_numberAt 45 = .ok (.iand, 1) := by decide +kernel
theorem dX5_numberAt_46 : decode cX5_numberAt 46 = .ok (.goto 4, 3) := by decide +kernel
theorem dX5_numberAt_49 : decode cX5_numberAt 49 = .ok (.iconst 0, 1) := by decide +kernel
theorem dX5_numberAt_50 : decode cX5_numberAt 50 = .ok (.i2l, 1) := by decide +kernel
theorem dX5_numberAt_51 : decode cX5_numberAt 51 = .ok (.lor, 1) := by decide +kernel
theorem dX5_numberAt_52 : decode cX5_numberAt 52 = .ok (.lstore_n 3, 1) := by decide +kernel
theorem dX5_numberAt_53 : decode cX5_numberAt 53 = .ok (.iinc 5 1, 3) := by decide +kernel
theorem dX5_numberAt_56 : decode cX5_numberAt 56 = .ok (.goto (-51), 3) := by decide +kernel
theorem dX5_numberAt_59 : decode cX5_numberAt 59 = .ok (.lload_n 3, 1) := by decide +kernel
theorem dX5_numberAt_60 : decode cX5_numberAt 60 = .ok (.lreturn, 1) := by decide +kernel
set_option maxRecDepth 20000 in
theorem ggX5_intAt_X5_numberAt : GoodIn wsX5_intAt wsX5_numberAt := goodIn_ca (goodIn_r _ [5, 6, 7, 8, 9] rfl (by decide +kernel)) (goodIn_sub (fun _ h => List.mem_cons_of_mem _ (List.mem_append_right _ h)) (by decide +kernel))
set_option maxRecDepth 20000 in
theorem gX5_intAt_X5_numberAt : GoodIn wsX5_intAt (wsV RX5 34 RX5 yX5_numberAt wsX5_numberAt) := goodIn_app (goodIn_of _ (by decide +kernel)) ggX5_intAt_X5_numberAt
theorem dX5_intAt_0 : decode cX5_intAt 0 = .ok (.aload_n 0, 1) := by decide +kernel
theorem dX5_intAt_1 : decode cX5_intAt 1 = .ok (.iload_n 1, 1) := by decide +kernel
theorem dX5_intAt_2 : decode cX5_intAt 2 = .ok (.iload_n 2, 1) := by decide +kernel
theorem dX5_intAt_3 : decode cX5_intAt 3 = .ok (.invokevirtual 34, 3) := by decide +kernel
theorem dX5_intAt_6 : decode cX5_intAt 6 = .ok (.l2i, 1) := by decide +kernel
theorem dX5_intAt_7 : decode cX5_intAt 7 = .ok (.ireturn, 1) := by decide +kernel
theorem dX10_has_0 : decode cX10_has 0 = .ok (.iload_n 1, 1) := by decide +kernel
theorem dX10_has_1 : decode cX10_has 1 = .ok (.ifCond .lt 25, 3) := by decide +kernel
theorem dX10_has_4 : decode cX10_has 4 = .ok (.iload_n 1, 1) := by decide +kernel
theorem dX10_has_5 : decode cX10_has 5 = .ok (.bipush 9, 2) := by decide +kernel
theorem dX10_has_7 : decode cX10_has 7 = .ok (.if_icmp .ge 19, 3) := by decide +kernel
theorem dX10_has_10 : decode cX10_has 10 = .ok (.aload_n 0, 1) := by decide +kernel
theorem dX10_has_11 : decode cX10_has 11 = .ok (.getfield 19, 3) := by decide +kernel
theorem dX10_has_14 : decode cX10_has 14 = .ok (.iload_n 1, 1) := by decide +kernel
theorem dX10_has_15 : decode cX10_has 15 = .ok (.ishr, 1) := by decide +kernel
theorem dX10_has_16 : decode cX10_has 16 = .ok (.iconst 1, 1) := by decide +kernel
theorem dX10_has_17 : decode cX10_has 17 = .ok (.iand, 1) := by decide +kernel
theorem dX10_has_18 : decode cX10_has 18 = .ok (.iconst 1, 1) := by decide +kernel
theorem dX10_has_19 : decode cX10_has 19 = .ok (.if_icmp .ne 7, 3) := by decide +kernel
theorem dX10_has_22 : decode cX10_has 22 = .ok (.iconst 1, 1) := by decide +kernel
theorem dX10_has_23 : decode cX10_has 23 = .ok (.goto 4, 3) := by decide +kernel
theorem dX10_has_26 : decode cX10_has 26 = .ok (.iconst 0, 1) := by decide +kernel
theorem dX10_has_27 : decode cX10_has 27 = .ok (.ireturn, 1) := by decide +kernel
theorem dX10_field_21 : decode cX10_field 21 = .ok (.iconst (-1), 1) := by decide +kernel

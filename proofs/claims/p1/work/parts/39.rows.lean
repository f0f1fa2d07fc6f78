set_option maxRecDepth 20000 in
theorem ggX2_trueValue_X4_indexOf : GoodIn wsX2_trueValue wsX4_indexOf := goodIn_r _ [6, 7, 8, 9, 42, 43, 44, 45, 46, 47, 48] (by decide +kernel) (by decide +kernel)
set_option maxRecDepth 20000 in
theorem gX2_trueValue_X4_indexOf : GoodIn wsX2_trueValue (wsV RX2 87 RX4 yX4_indexOf wsX4_indexOf) := goodIn_app (goodIn_of _ (by decide +kernel)) ggX2_trueValue_X4_indexOf
theorem dX2_trueValue_0 : decode cX2_trueValue 0 = .ok (.aload_n 0, 1) := by decide +kernel
theorem dX2_trueValue_1 : decode cX2_trueValue 1 = .ok (.getfield 20, 3) := by decide +kernel
theorem dX2_trueValue_4 : decode cX2_trueValue 4 = .ok (.lload_n 1, 1) := by decide +kernel
theorem dX2_trueValue_5 : decode cX2_trueValue 5 = .ok (.invokevirtual 87, 3) := by decide +kernel
theorem dX2_trueValue_8 : decode cX2_trueValue 8 = .ok (.istore 4, 2) := by decide +kernel
theorem dX2_trueValue_10 : decode cX2_trueValue 10 = .ok (.iload 4, 2) := by decide +kernel
theorem dX2_trueValue_12 : decode cX2_trueValue 12 = .ok (.iconst (-1), 1) := by decide +kernel
theorem dX2_trueValue_13 : decode cX2_trueValue 13 = .ok (.if_icmp .ne 7, 3) := by decide +kernel
theorem dX2_trueValue_16 : decode cX2_trueValue 16 = .ok (.lconst 0, 1) := by decide +kernel
theorem dX2_trueValue_17 : decode cX2_trueValue 17 = .ok (.goto 24, 3) := by decide +kernel
theorem dX2_trueValue_41 : decode cX2_trueValue 41 = .ok (.lreturn, 1) := by decide +kernel
theorem dX3_keyOf_0 : decode cX3_keyOf 0 = .ok (.iload_n 0, 1) := by decide +kernel
theorem dX3_keyOf_1 : decode cX3_keyOf 1 = .ok (.ifCond .lt 21, 3) := by decide +kernel
theorem dX3_keyOf_4 : decode cX3_keyOf 4 = .ok (.iload_n 0, 1) := by decide +kernel
theorem dX3_keyOf_5 : decode cX3_keyOf 5 = .ok (.sipush 255, 3) := by decide +kernel
theorem dX3_keyOf_8 : decode cX3_keyOf 8 = .ok (.if_icmp .gt 14, 3) := by decide +kernel
theorem dX3_keyOf_11 : decode cX3_keyOf 11 = .ok (.iload_n 1, 1) := by decide +kernel
theorem dX3_keyOf_12 : decode cX3_keyOf 12 = .ok (.ifCond .lt 10, 3) := by decide +kernel
theorem dX3_keyOf_15 : decode cX3_keyOf 15 = .ok (.iload_n 1, 1) := by decide +kernel
theorem dX3_keyOf_16 : decode cX3_keyOf 16 = .ok (.sipush 255, 3) := by decide +kernel
theorem dX3_keyOf_19 : decode cX3_keyOf 19 = .ok (.if_icmp .le 7, 3) := by decide +kernel
theorem dX3_keyOf_22 : decode cX3_keyOf 22 = .ok (.ldc2_w 28, 3) := by decide +kernel
theorem dX3_keyOf_25 : decode cX3_keyOf 25 = .ok (.lreturn, 1) := by decide +kernel
theorem dX3_keyOf_26 : decode cX3_keyOf 26 = .ok (.iload_n 2, 1) := by decide +kernel
theorem dX3_keyOf_27 : decode cX3_keyOf 27 = .ok (.ifCond .lt 20, 3) := by decide +kernel
theorem dX3_keyOf_30 : decode cX3_keyOf 30 = .ok (.iload_n 2, 1) := by decide +kernel
theorem dX3_keyOf_31 : decode cX3_keyOf 31 = .ok (.ldc 30, 2) := by decide +kernel
theorem dX3_keyOf_33 : decode cX3_keyOf 33 = .ok (.if_icmp .gt 14, 3) := by decide +kernel
theorem dX3_keyOf_36 : decode cX3_keyOf 36 = .ok (.iload_n 3, 1) := by decide +kernel
theorem dX3_keyOf_37 : decode cX3_keyOf 37 = .ok (.ifCond .lt 10, 3) := by decide +kernel
theorem dX3_keyOf_40 : decode cX3_keyOf 40 = .ok (.iload_n 3, 1) := by decide +kernel
theorem dX3_keyOf_41 : decode cX3_keyOf 41 = .ok (.sipush 255, 3) := by decide +kernel
theorem dX3_keyOf_44 : decode cX3_keyOf 44 = .ok (.if_icmp .le 7, 3) := by decide +kernel
theorem dX3_keyOf_47 : decode cX3_keyOf 47 = .ok (.ldc2_w 28, 3) := by decide +kernel
theorem dX3_keyOf_50 : decode cX3_keyOf 50 = .ok (.lreturn, 1) := by decide +kernel
theorem dX3_keyOf_51 : decode cX3_keyOf 51 = .ok (.iload_n 0, 1) := by decide +kernel
theorem dX3_keyOf_52 : decode cX3_keyOf 52 = .ok (.i2l, 1) := by decide +kernel
theorem dX3_keyOf_53 : decode cX3_keyOf 53 = .ok (.bipush 32, 2) := by decide +kernel
theorem dX3_keyOf_55 : decode cX3_keyOf 55 = .ok (.lshl, 1) := by decide +kernel
theorem dX3_keyOf_56 : decode cX3_keyOf 56 = .ok (.iload_n 1, 1) := by decide +kernel
theorem dX3_keyOf_57 : decode cX3_keyOf 57 = .ok (.i2l, 1) := by decide +kernel
theorem dX3_keyOf_58 : decode cX3_keyOf 58 = .ok (.bipush 24, 2) := by decide +kernel
theorem dX3_keyOf_60 : decode cX3_keyOf 60 = .ok (.lshl, 1) := by decide +kernel
theorem dX3_keyOf_61 : decode cX3_keyOf 61 = .ok (.lor, 1) := by decide +kernel
theorem dX3_keyOf_62 : decode cX3_keyOf 62 = .ok (.iload_n 2, 1) := by decide +kernel
theorem dX3_keyOf_63 : decode cX3_keyOf 63 = .ok (.i2l, 1) := by decide +kernel
theorem dX3_keyOf_64 : decode cX3_keyOf 64 = .ok (.bipush 8, 2) := by decide +kernel
theorem dX3_keyOf_66 : decode cX3_keyOf 66 = .ok (.lshl, 1) := by decide +kernel
theorem dX3_keyOf_67 : decode cX3_keyOf 67 = .ok (.lor, 1) := by decide +kernel
theorem dX3_keyOf_68 : decode cX3_keyOf 68 = .ok (.iload_n 3, 1) := by decide +kernel
theorem dX3_keyOf_69 : decode cX3_keyOf 69 = .ok (.i2l, 1) := by decide +kernel
theorem dX3_keyOf_70 : decode cX3_keyOf 70 = .ok (.lor, 1) := by decide +kernel
theorem dX3_keyOf_71 : decode cX3_keyOf 71 = .ok (.lreturn, 1) := by decide +kernel
theorem dX4_indexOf_0 : decode cX4_indexOf 0 = .ok (.iconst 0, 1) := by decide +kernel
theorem dX4_indexOf_1 : decode cX4_indexOf 1 = .ok (.istore_n 3, 1) := by decide +kernel
theorem dX4_indexOf_2 : decode cX4_indexOf 2 = .ok (.iload_n 3, 1) := by decide +kernel
theorem dX4_indexOf_3 : decode cX4_indexOf 3 = .ok (.aload_n 0, 1) := by decide +kernel
theorem dX4_indexOf_4 : decode cX4_indexOf 4 = .ok (.getfield 9, 3) := by decide +kernel
theorem dX4_indexOf_7 : decode cX4_indexOf 7 = .ok (.if_icmp .ge 25, 3) := by decide +kernel
theorem dX4_indexOf_32 : decode cX4_indexOf 32 = .ok (.iconst (-1), 1) := by decide +kernel
theorem dX4_indexOf_33 : decode cX4_indexOf 33 = .ok (.ireturn, 1) := by decide +kernel
theorem dX9_indexOf_0 : decode cX9_indexOf 0 = .ok (.iconst 0, 1) := by decide +kernel
theorem dX9_indexOf_1 : decode cX9_indexOf 1 = .ok (.istore_n 3, 1) := by decide +kernel
theorem dX9_indexOf_2 : decode cX9_indexOf 2 = .ok (.iload_n 3, 1) := by decide +kernel
theorem dX9_indexOf_3 : decode cX9_indexOf 3 = .ok (.aload_n 0, 1) := by decide +kernel
theorem dX9_indexOf_4 : decode cX9_indexOf 4 = .ok (.getfield 28, 3) := by decide +kernel
theorem dX9_indexOf_7 : decode cX9_indexOf 7 = .ok (.if_icmp .ge 22, 3) := by decide +kernel
theorem dX9_indexOf_29 : decode cX9_indexOf 29 = .ok (.iconst (-1), 1) := by decide +kernel
theorem dX9_indexOf_30 : decode cX9_indexOf 30 = .ok (.ireturn, 1) := by decide +kernel
theorem dX9_estimateOfAll_0 : decode cX9_estimateOfAll 0 = .ok (.lconst 0, 1) := by decide +kernel
theorem dX9_estimateOfAll_1 : decode cX9_estimateOfAll 1 = .ok (.lstore_n 2, 1) := by decide +kernel
theorem dX9_estimateOfAll_2 : decode cX9_estimateOfAll 2 = .ok (.iconst 0, 1) := by decide +kernel
theorem dX9_estimateOfAll_3 : decode cX9_estimateOfAll 3 = .ok (.istore 4, 2) := by decide +kernel
theorem dX9_estimateOfAll_5 : decode cX9_estimateOfAll 5 = .ok (.iload 4, 2) := by decide +kernel
theorem dX9_estimateOfAll_7 : decode cX9_estimateOfAll 7 = .ok (.aload_n 0, 1) := by decide +kernel
theorem dX9_estimateOfAll_8 : decode cX9_estimateOfAll 8 = .ok (.getfield 28, 3) := by decide +kernel
theorem dX9_estimateOfAll_11 : decode cX9_estimateOfAll 11 = .ok (.if_icmp .ge 21, 3) := by decide +kernel
theorem dX9_estimateOfAll_32 : decode cX9_estimateOfAll 32 = .ok (.lload_n 2, 1) := by decide +kernel
theorem dX9_estimateOfAll_33 : decode cX9_estimateOfAll 33 = .ok (.lreturn, 1) := by decide +kernel
set_option maxRecDepth 20000 in
theorem ggX9_marginOfAll_X9_margin : GoodIn wsX9_marginOfAll wsX9_margin := goodIn_r _ [6, 7, 8, 9, 5, 10, 11, 12, 13, 14, 15, 16, 17, 18, 19, 20, 21, 22, 23] (by decide +kernel) (by decide +kernel)
set_option maxRecDepth 20000 in
theorem gX9_marginOfAll_X9_margin : GoodIn wsX9_marginOfAll (va_wsS RX9 36 yX9_margin wsX9_margin) := goodIn_app (goodIn_of _ (by decide +kernel)) ggX9_marginOfAll_X9_margin
theorem dX9_marginOfAll_0 : decode cX9_marginOfAll 0 = .ok (.dconst 0, 1) := by decide +kernel
theorem dX9_marginOfAll_1 : decode cX9_marginOfAll 1 = .ok (.dstore_n 2, 1) := by decide +kernel
theorem dX9_marginOfAll_2 : decode cX9_marginOfAll 2 = .ok (.iconst 0, 1) := by decide +kernel
theorem dX9_marginOfAll_3 : decode cX9_marginOfAll 3 = .ok (.istore 4, 2) := by decide +kernel
theorem dX9_marginOfAll_5 : decode cX9_marginOfAll 5 = .ok (.iload 4, 2) := by decide +kernel
theorem dX9_marginOfAll_7 : decode cX9_marginOfAll 7 = .ok (.aload_n 0, 1) := by decide +kernel
theorem dX9_marginOfAll_8 : decode cX9_marginOfAll 8 = .ok (.getfield 28, 3) := by decide +kernel
theorem dX9_marginOfAll_11 : decode cX9_marginOfAll 11 = .ok (.if_icmp .ge 21, 3) := by decide +kernel
theorem dX9_marginOfAll_32 : decode cX9_marginOfAll 32 = .ok (.dload_n 2, 1) := by decide +kernel
theorem dX9_marginOfAll_33 : decode cX9_marginOfAll 33 = .ok (.invokestatic 36, 3) := by decide +kernel
theorem dX9_marginOfAll_36 : decode cX9_marginOfAll 36 = .ok (.dreturn, 1) := by decide +kernel
theorem dX9_indexWithRank_0 : decode cX9_indexWithRank 0 = .ok (.iconst 0, 1) := by decide +kernel
theorem dX9_indexWithRank_1 : decode cX9_indexWithRank 1 = .ok (.istore_n 3, 1) := by decide +kernel
theorem dX9_indexWithRank_2 : decode cX9_indexWithRank 2 = .ok (.iload_n 3, 1) := by decide +kernel
theorem dX9_indexWithRank_3 : decode cX9_indexWithRank 3 = .ok (.aload_n 0, 1) := by decide +kernel
theorem dX9_indexWithRank_4 : decode cX9_indexWithRank 4 = .ok (.getfield 28, 3) := by decide +kernel
theorem dX9_indexWithRank_7 : decode cX9_indexWithRank 7 = .ok (.if_icmp .ge 21, 3) := by decide +kernel
theorem dX9_indexWithRank_28 : decode cX9_indexWithRank 28 = .ok (.iconst (-1), 1) := by decide +kernel
theorem dX9_indexWithRank_29 : decode cX9_indexWithRank 29 = .ok (.ireturn, 1) := by decide +kernel
set_option maxRecDepth 20000 in
theorem ggX9_margin_X9_root : GoodIn wsX9_margin wsX9_root := goodIn_r _ [5, 6, 7, 8, 9, 10, 4, 11, 12, 13, 14, 15, 16, 17, 18] (by decide +kernel) (by decide +kernel)
set_option maxRecDepth 20000 in
theorem gX9_margin_X9_root : GoodIn wsX9_margin (va_wsS RX9 46 yX9_root wsX9_root) := goodIn_app (goodIn_of _ (by decide +kernel)) ggX9_margin_X9_root
theorem dX9_margin_0 : decode cX9_margin 0 = .ok (.ldc2_w 44, 3) := by decide +kernel
theorem dX9_margin_3 : decode cX9_margin 3 = .ok (.dload_n 0, 1) := by decide +kernel
theorem dX9_margin_4 : decode cX9_margin 4 = .ok (.invokestatic 46, 3) := by decide +kernel
theorem dX9_margin_7 : decode cX9_margin 7 = .ok (.dmul, 1) := by decide +kernel
theorem dX9_margin_8 : decode cX9_margin 8 = .ok (.dreturn, 1) := by decide +kernel
theorem dX9_root_0 : decode cX9_root 0 = .ok (.dload_n 0, 1) := by decide +kernel
theorem dX9_root_1 : decode cX9_root 1 = .ok (.dconst 0, 1) := by decide +kernel
theorem dX9_root_2 : decode cX9_root 2 = .ok (.dcmp .l, 1) := by decide +kernel
theorem dX9_root_3 : decode cX9_root 3 = .ok (.ifCond .gt 5, 3) := by decide +kernel
theorem dX9_root_6 : decode cX9_root 6 = .ok (.dconst 0, 1) := by decide +kernel
theorem dX9_root_7 : decode cX9_root 7 = .ok (.dreturn, 1) := by decide +kernel
theorem dX11_templateAge_9 : decode cX11_templateAge 9 = .ok (.new 116, 3) := by decide +kernel
theorem dX11_templateAge_12 : decode cX11_templateAge 12 = .ok (.dup, 1) := by decide +kernel
theorem dX11_templateAge_13 : decode cX11_templateAge 13 = .ok (.invokespecial 118, 3) := by decide +kernel
theorem dX11_templateAge_16 : decode cX11_templateAge 16 = .ok (.athrow, 1) := by decide +kernel
theorem dX11_counter_0 : decode cX11_counter 0 = .ok (.iload_n 1, 1) := by decide +kernel
theorem dX11_counter_1 : decode cX11_counter 1 = .ok (.ifCond .lt 9, 3) := by decide +kernel
theorem dX11_counter_4 : decode cX11_counter 4 = .ok (.iload_n 1, 1) := by decide +kernel
theorem dX11_counter_5 : decode cX11_counter 5 = .ok (.bipush 9, 2) := by decide +kernel
theorem dX11_counter_7 : decode cX11_counter 7 = .ok (.if_icmp .lt 11, 3) := by decide +kernel
theorem dX11_counter_10 : decode cX11_counter 10 = .ok (.new 116, 3) := by decide +kernel
theorem dX11_counter_13 : decode cX11_counter 13 = .ok (.dup, 1) := by decide +kernel
theorem dX11_counter_14 : decode cX11_counter 14 = .ok (.invokespecial 118, 3) := by decide +kernel
theorem dX11_counter_17 : decode cX11_counter 17 = .ok (.athrow, 1) := by decide +kernel
theorem dX11_counter_18 : decode cX11_counter 18 = .ok (.aload_n 0, 1) := by decide +kernel
theorem dX11_counter_19 : decode cX11_counter 19 = .ok (.getfield 71, 3) := by decide +kernel
theorem dX11_counter_22 : decode cX11_counter 22 = .ok (.getfield 289, 3) := by decide +kernel
theorem dX11_counter_25 : decode cX11_counter 25 = .ok (.iload_n 1, 1) := by decide +kernel
theorem dX11_counter_26 : decode cX11_counter 26 = .ok (.laload, 1) := by decide +kernel
theorem dX11_counter_27 : decode cX11_counter 27 = .ok (.lreturn, 1) := by decide +kernel
theorem dX11_requireWhat_0 : decode cX11_requireWhat 0 = .ok (.iload_n 0, 1) := by decide +kernel
theorem dX11_requireWhat_1 : decode cX11_requireWhat 1 = .ok (.ifCond .eq 16, 3) := by decide +kernel
theorem dX11_requireWhat_4 : decode cX11_requireWhat 4 = .ok (.iload_n 0, 1) := by decide +kernel
theorem dX11_requireWhat_5 : decode cX11_requireWhat 5 = .ok (.iconst 1, 1) := by decide +kernel
theorem dX11_requireWhat_6 : decode cX11_requireWhat 6 = .ok (.if_icmp .eq 11, 3) := by decide +kernel
theorem dX11_requireWhat_9 : decode cX11_requireWhat 9 = .ok (.new 116, 3) := by decide +kernel
theorem dX11_requireWhat_12 : decode cX11_requireWhat 12 = .ok (.dup, 1) := by decide +kernel
theorem dX11_requireWhat_13 : decode cX11_requireWhat 13 = .ok (.invokespecial 118, 3) := by decide +kernel
theorem dX11_requireWhat_16 : decode cX11_requireWhat 16 = .ok (.athrow, 1) := by decide +kernel
theorem dX11_requireWhat_17 : decode cX11_requireWhat 17 = .ok (.return_, 1) := by decide +kernel
set_option maxRecDepth 20000 in
theorem ggX11_find_X3_keyOf : GoodIn wsX11_find wsX3_keyOf := goodIn_r _ [5, 6, 7] (by decide +kernel) (by decide +kernel)
set_option maxRecDepth 20000 in
theorem gX11_find_X3_keyOf : GoodIn wsX11_find (va_wsS RX11 119 yX3_keyOf wsX3_keyOf) := goodIn_app (goodIn_of _ (by decide +kernel)) ggX11_find_X3_keyOf
set_option maxRecDepth 20000 in
theorem ggX11_find_X9_indexOf : GoodIn wsX11_find wsX9_indexOf := goodIn_ca (goodIn_r _ [12, 13, 14, 23, 24, 25, 26, 27] (by decide +kernel) (by decide +kernel)) (goodIn_sub (fun _ h => List.mem_cons_of_mem _ (List.mem_append_right _ h)) (by decide +kernel))
set_option maxRecDepth 20000 in
theorem gX11_find_X9_indexOf : GoodIn wsX11_find (wsV RX11 308 RX9 yX9_indexOf wsX9_indexOf) := goodIn_app (goodIn_of _ (by decide +kernel)) ggX11_find_X9_indexOf
theorem dX11_find_0 : decode cX11_find 0 = .ok (.aload_n 0, 1) := by decide +kernel
theorem dX11_find_1 : decode cX11_find 1 = .ok (.getfield 62, 3) := by decide +kernel
theorem dX11_find_4 : decode cX11_find 4 = .ok (.iload_n 1, 1) := by decide +kernel
theorem dX11_find_5 : decode cX11_find 5 = .ok (.iload_n 2, 1) := by decide +kernel
theorem dX11_find_6 : decode cX11_find 6 = .ok (.iload_n 3, 1) := by decide +kernel
theorem dX11_find_7 : decode cX11_find 7 = .ok (.iload 4, 2) := by decide +kernel
theorem dX11_find_9 : decode cX11_find 9 = .ok (.invokestatic 119, 3) := by decide +kernel
theorem dX11_find_12 : decode cX11_find 12 = .ok (.invokevirtual 308, 3) := by decide +kernel
theorem dX11_find_15 : decode cX11_find 15 = .ok (.ireturn, 1) := by decide +kernel
set_option maxRecDepth 20000 in
theorem ggX11_truth_X11_requireWhat : GoodIn wsX11_truth wsX11_requireWhat := goodIn_ca (goodIn_r _ [5, 6, 7] (by decide +kernel) (by decide +kernel)) (goodIn_sub (fun _ h => List.mem_cons_of_mem _ (List.mem_append_left _ (List.mem_append_right _ h))) (by decide +kernel))
set_option maxRecDepth 20000 in
theorem gX11_truth_X11_requireWhat : GoodIn wsX11_truth (va_wsS RX11 312 yX11_requireWhat wsX11_requireWhat) := goodIn_app (goodIn_of _ (by decide +kernel)) ggX11_truth_X11_requireWhat
set_option maxRecDepth 20000 in
theorem ggX11_truth_X3_keyOf : GoodIn wsX11_truth wsX3_keyOf := goodIn_r _ [11, 12, 13] (by decide +kernel) (by decide +kernel)
set_option maxRecDepth 20000 in
theorem gX11_truth_X3_keyOf : GoodIn wsX11_truth (va_wsS RX11 119 yX3_keyOf wsX3_keyOf) := goodIn_app (goodIn_of _ (by decide +kernel)) ggX11_truth_X3_keyOf
set_option maxRecDepth 20000 in
theorem ggX11_truth_X2_trueValue : GoodIn wsX11_truth wsX2_trueValue := goodIn_ca (goodIn_r _ [18, 19, 20, 21, 22, 23, 24, 25, 26, 27, 28, 29, 30, 31, 32, 33, 34, 10, 35, 36, 37, 38, 39, 40, 41, 42, 43, 44, 45, 54, 55, 56, 57, 58, 59, 60, 61, 62, 63, 64, 65, 66, 67, 68, 69, 70, 71, 72, 73] (by decide +kernel) (by decide +kernel)) (goodIn_sub (fun _ h => List.mem_cons_of_mem _ (List.mem_append_right _ h)) (by decide +kernel))
set_option maxRecDepth 20000 in
theorem gX11_truth_X2_trueValue : GoodIn wsX11_truth (wsV RX11 329 RX2 yX2_trueValue wsX2_trueValue) := goodIn_app (goodIn_of _ (by decide +kernel)) ggX11_truth_X2_trueValue
theorem dX11_truth_0 : decode cX11_truth 0 = .ok (.iload 5, 2) := by decide +kernel
theorem dX11_truth_2 : decode cX11_truth 2 = .ok (.invokestatic 312, 3) := by decide +kernel
theorem dX11_truth_5 : decode cX11_truth 5 = .ok (.aload_n 0, 1) := by decide +kernel
theorem dX11_truth_6 : decode cX11_truth 6 = .ok (.getfield 55, 3) := by decide +kernel
theorem dX11_truth_9 : decode cX11_truth 9 = .ok (.iload_n 1, 1) := by decide +kernel
theorem dX11_truth_10 : decode cX11_truth 10 = .ok (.iload_n 2, 1) := by decide +kernel
theorem dX11_truth_11 : decode cX11_truth 11 = .ok (.iload_n 3, 1) := by decide +kernel
theorem dX11_truth_12 : decode cX11_truth 12 = .ok (.iload 4, 2) := by decide +kernel
theorem dX11_truth_14 : decode cX11_truth 14 = .ok (.invokestatic 119, 3) := by decide +kernel
theorem dX11_truth_17 : decode cX11_truth 17 = .ok (.iload 5, 2) := by decide +kernel
theorem dX11_truth_19 : decode cX11_truth 19 = .ok (.invokevirtual 329, 3) := by decide +kernel
theorem dX11_truth_22 : decode cX11_truth 22 = .ok (.lreturn, 1) := by decide +kernel
set_option maxRecDepth 20000 in
theorem ggX11_covered_X11_requireWhat : GoodIn wsX11_covered wsX11_requireWhat := goodIn_ca (goodIn_r _ [8, 9, 10] (by decide +kernel) (by decide +kernel)) (goodIn_sub (fun _ h => List.mem_cons_of_mem _ (List.mem_append_right _ h)) (by decide +kernel))
set_option maxRecDepth 20000 in
theorem gX11_covered_X11_requireWhat : GoodIn wsX11_covered (va_wsS RX11 312 yX11_requireWhat wsX11_requireWhat) := goodIn_app (goodIn_of _ (by decide +kernel)) ggX11_covered_X11_requireWhat
theorem dX11_covered_0 : decode cX11_covered 0 = .ok (.iload_n 1, 1) := by decide +kernel
theorem dX11_covered_1 : decode cX11_covered 1 = .ok (.invokestatic 312, 3) := by decide +kernel
theorem dX11_covered_4 : decode cX11_covered 4 = .ok (.iconst 0, 1) := by decide +kernel
theorem dX11_covered_5 : decode cX11_covered 5 = .ok (.istore_n 2, 1) := by decide +kernel
theorem dX11_covered_6 : decode cX11_covered 6 = .ok (.iconst 0, 1) := by decide +kernel
theorem dX11_covered_7 : decode cX11_covered 7 = .ok (.istore_n 3, 1) := by decide +kernel
theorem dX11_covered_8 : decode cX11_covered 8 = .ok (.iload_n 3, 1) := by decide +kernel
theorem dX11_covered_9 : decode cX11_covered 9 = .ok (.aload_n 0, 1) := by decide +kernel
theorem dX11_covered_10 : decode cX11_covered 10 = .ok (.getfield 62, 3) := by decide +kernel
theorem dX11_covered_13 : decode cX11_covered 13 = .ok (.getfield 92, 3) := by decide +kernel
theorem dX11_covered_16 : decode cX11_covered 16 = .ok (.if_icmp .ge 62, 3) := by decide +kernel
theorem dX11_covered_78 : decode cX11_covered 78 = .ok (.iload_n 2, 1) := by decide +kernel
theorem dX11_covered_79 : decode cX11_covered 79 = .ok (.ireturn, 1) := by decide +kernel
set_option maxRecDepth 20000 in
theorem ggX11_totalEstimate_X11_requireWhat : GoodIn wsX11_totalEstimate wsX11_requireWhat := goodIn_ca (goodIn_r _ [5, 6, 7] (by decide +kernel) (by decide +kernel)) (goodIn_sub (fun _ h => List.mem_cons_of_mem _ (List.mem_append_left _ (List.mem_append_right _ h))) (by decide +kernel))
set_option maxRecDepth 20000 in
theorem gX11_totalEstimate_X11_requireWhat : GoodIn wsX11_totalEstimate (va_wsS RX11 312 yX11_requireWhat wsX11_requireWhat) := goodIn_app (goodIn_of _ (by decide +kernel)) ggX11_totalEstimate_X11_requireWhat
set_option maxRecDepth 20000 in
theorem ggX11_totalEstimate_X9_estimateOfAll : GoodIn wsX11_totalEstimate wsX9_estimateOfAll := goodIn_ca (goodIn_r _ [12, 13, 14, 23, 24, 25, 26, 27] (by decide +kernel) (by decide +kernel)) (goodIn_sub (fun _ h => List.mem_cons_of_mem _ (List.mem_append_right _ h)) (by decide +kernel))
set_option maxRecDepth 20000 in
theorem gX11_totalEstimate_X9_estimateOfAll : GoodIn wsX11_totalEstimate (wsV RX11 333 RX9 yX9_estimateOfAll wsX9_estimateOfAll) := goodIn_app (goodIn_of _ (by decide +kernel)) ggX11_totalEstimate_X9_estimateOfAll
theorem dX11_totalEstimate_0 : decode cX11_totalEstimate 0 = .ok (.iload_n 1, 1) := by decide +kernel
theorem dX11_totalEstimate_1 : decode cX11_totalEstimate 1 = .ok (.invokestatic 312, 3) := by decide +kernel
theorem dX11_totalEstimate_4 : decode cX11_totalEstimate 4 = .ok (.aload_n 0, 1) := by decide +kernel
theorem dX11_totalEstimate_5 : decode cX11_totalEstimate 5 = .ok (.getfield 62, 3) := by decide +kernel
theorem dX11_totalEstimate_8 : decode cX11_totalEstimate 8 = .ok (.iload_n 1, 1) := by decide +kernel
theorem dX11_totalEstimate_9 : decode cX11_totalEstimate 9 = .ok (.invokevirtual 333, 3) := by decide +kernel
theorem dX11_totalEstimate_12 : decode cX11_totalEstimate 12 = .ok (.lreturn, 1) := by decide +kernel
set_option maxRecDepth 20000 in
theorem ggX11_totalMargin_X11_requireWhat : GoodIn wsX11_totalMargin wsX11_requireWhat := goodIn_ca (goodIn_r _ [5, 6, 7] (by decide +kernel) (by decide +kernel)) (goodIn_sub (fun _ h => List.mem_cons_of_mem _ (List.mem_append_left _ (List.mem_append_right _ h))) (by decide +kernel))
set_option maxRecDepth 20000 in
theorem gX11_totalMargin_X11_requireWhat : GoodIn wsX11_totalMargin (va_wsS RX11 312 yX11_requireWhat wsX11_requireWhat) := goodIn_app (goodIn_of _ (by decide +kernel)) ggX11_totalMargin_X11_requireWhat
set_option maxRecDepth 20000 in
theorem ggX11_totalMargin_X9_marginOfAll : GoodIn wsX11_totalMargin wsX9_marginOfAll := goodIn_ca (goodIn_r _ [12, 13, 14, 15, 16, 11, 17, 18, 19, 20, 21, 22, 23, 24, 25, 26, 27, 28, 29, 30, 31, 32, 33, 34, 43, 44, 45, 46, 47] (by decide +kernel) (by decide +kernel)) (goodIn_sub (fun _ h => List.mem_cons_of_mem _ (List.mem_append_right _ h)) (by decide +kernel))
set_option maxRecDepth 20000 in
theorem gX11_totalMargin_X9_marginOfAll : GoodIn wsX11_totalMargin (wsV RX11 336 RX9 yX9_marginOfAll wsX9_marginOfAll) := goodIn_app (goodIn_of _ (by decide +kernel)) ggX11_totalMargin_X9_marginOfAll
theorem dX11_totalMargin_0 : decode cX11_totalMargin 0 = .ok (.iload_n 1, 1) := by decide +kernel
theorem dX11_totalMargin_1 : decode cX11_totalMargin 1 = .ok (.invokestatic 312, 3) := by decide +kernel
theorem dX11_totalMargin_4 : decode cX11_totalMargin 4 = .ok (.aload_n 0, 1) := by decide +kernel
theorem dX11_totalMargin_5 : decode cX11_totalMargin 5 = .ok (.getfield 62, 3) := by decide +kernel
theorem dX11_totalMargin_8 : decode cX11_totalMargin 8 = .ok (.iload_n 1, 1) := by decide +kernel
theorem dX11_totalMargin_9 : decode cX11_totalMargin 9 = .ok (.invokevirtual 336, 3) := by decide +kernel
theorem dX11_totalMargin_12 : decode cX11_totalMargin 12 = .ok (.dreturn, 1) := by decide +kernel
set_option maxRecDepth 20000 in
theorem ggX11_ranked_X11_requireWhat : GoodIn wsX11_ranked wsX11_requireWhat := goodIn_ca (goodIn_r _ [5, 6, 7] (by decide +kernel) (by decide +kernel)) (goodIn_sub (fun _ h => List.mem_cons_of_mem _ (List.mem_append_left _ (List.mem_append_right _ h))) (by decide +kernel))
set_option maxRecDepth 20000 in
theorem gX11_ranked_X11_requireWhat : GoodIn wsX11_ranked (va_wsS RX11 312 yX11_requireWhat wsX11_requireWhat) := goodIn_app (goodIn_of _ (by decide +kernel)) ggX11_ranked_X11_requireWhat
set_option maxRecDepth 20000 in
theorem ggX11_ranked_X9_indexWithRank : GoodIn wsX11_ranked wsX9_indexWithRank := goodIn_ca (goodIn_r _ [12, 13, 14, 15, 16, 11, 17, 18, 27, 28, 29, 30, 31] (by decide +kernel) (by decide +kernel)) (goodIn_sub (fun _ h => List.mem_cons_of_mem _ (List.mem_append_right _ h)) (by decide +kernel))
set_option maxRecDepth 20000 in
theorem gX11_ranked_X9_indexWithRank : GoodIn wsX11_ranked (wsV RX11 340 RX9 yX9_indexWithRank wsX9_indexWithRank) := goodIn_app (goodIn_of _ (by decide +kernel)) ggX11_ranked_X9_indexWithRank
theorem dX11_ranked_0 : decode cX11_ranked 0 = .ok (.iload_n 2, 1) := by decide +kernel
theorem dX11_ranked_1 : decode cX11_ranked 1 = .ok (.invokestatic 312, 3) := by decide +kernel
theorem dX11_ranked_4 : decode cX11_ranked 4 = .ok (.aload_n 0, 1) := by decide +kernel
theorem dX11_ranked_5 : decode cX11_ranked 5 = .ok (.getfield 62, 3) := by decide +kernel
theorem dX11_ranked_8 : decode cX11_ranked 8 = .ok (.iload_n 1, 1) := by decide +kernel
theorem dX11_ranked_9 : decode cX11_ranked 9 = .ok (.iload_n 2, 1) := by decide +kernel
theorem dX11_ranked_10 : decode cX11_ranked 10 = .ok (.invokevirtual 340, 3) := by decide +kernel
theorem dX11_ranked_13 : decode cX11_ranked 13 = .ok (.ireturn, 1) := by decide +kernel

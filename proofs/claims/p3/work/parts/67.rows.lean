set_option maxRecDepth 20000 in
theorem ggX12_find_X12_keyOf : GoodIn wsX12_find wsX12_keyOf := goodIn_ca (goodIn_r _ [6, 7, 8, 9, 10, 5, 11, 12, 13, 14, 15, 16, 17, 18, 19, 20, 21, 22, 23, 24, 25, 26, 27, 28, 29, 30, 31, 32, 33, 34, 35, 36, 37, 38, 39, 40, 41, 42, 43, 44, 45, 46, 47, 48, 49, 50, 51, 52, 53, 54, 55, 56, 57, 58, 59, 60, 61, 62, 63, 64, 65] rfl (by decide +kernel)) (goodIn_sub (fun _ h => List.mem_cons_of_mem _ (List.mem_append_right _ h)) (by decide +kernel))
set_option maxRecDepth 20000 in
theorem gX12_find_X12_keyOf : GoodIn wsX12_find (wsV RX12 390 RX12 yX12_keyOf wsX12_keyOf) := goodIn_app (goodIn_of _ (by decide +kernel)) ggX12_find_X12_keyOf
theorem dX12_find_0 : decode cX12_find 0 = .ok (.aload_n 0, 1) := by decide +kernel
theorem dX12_find_1 : decode cX12_find 1 = .ok (.iconst 0, 1) := by decide +kernel
theorem dX12_find_2 : decode cX12_find 2 = .ok (.putfield 1, 3) := by decide +kernel
theorem dX12_find_5 : decode cX12_find 5 = .ok (.aload_n 0, 1) := by decide +kernel
theorem dX12_find_6 : decode cX12_find 6 = .ok (.iload_n 1, 1) := by decide +kernel
theorem dX12_find_7 : decode cX12_find 7 = .ok (.i2l, 1) := by decide +kernel
theorem dX12_find_8 : decode cX12_find 8 = .ok (.iload_n 2, 1) := by decide +kernel
theorem dX12_find_9 : decode cX12_find 9 = .ok (.i2l, 1) := by decide +kernel
theorem dX12_find_10 : decode cX12_find 10 = .ok (.iload_n 3, 1) := by decide +kernel
theorem dX12_find_11 : decode cX12_find 11 = .ok (.i2l, 1) := by decide +kernel
theorem dX12_find_12 : decode cX12_find 12 = .ok (.iload 4, 2) := by decide +kernel
theorem dX12_find_14 : decode cX12_find 14 = .ok (.i2l, 1) := by decide +kernel
theorem dX12_find_15 : decode cX12_find 15 = .ok (.invokevirtual 390, 3) := by decide +kernel
theorem dX12_find_18 : decode cX12_find 18 = .ok (.ireturn, 1) := by decide +kernel
set_option maxRecDepth 20000 in
theorem ggX12_raw_X12_isKey : GoodIn wsX12_raw wsX12_isKey := goodIn_r _ [7, 8, 9, 10, 6, 11, 19, 20, 21, 22, 23, 24, 25, 26, 27, 28, 29, 30, 31, 32, 33, 34, 35, 36, 37, 38, 39, 40, 41, 42, 43, 44, 45, 46, 47, 48, 49, 50, 51, 52, 53, 54, 55, 56, 57, 58, 59, 60, 61, 62, 63, 64, 65, 66, 67, 68, 69, 70, 71, 72] rfl (by decide +kernel)
set_option maxRecDepth 20000 in
theorem gX12_raw_X12_isKey : GoodIn wsX12_raw (wsV RX12 394 RX12 yX12_isKey wsX12_isKey) := goodIn_app (goodIn_of _ (by decide +kernel)) ggX12_raw_X12_isKey
set_option maxRecDepth 20000 in
theorem ggX12_raw_X12_throwsIf : GoodIn wsX12_raw wsX12_throwsIf := goodIn_r _ [15, 1, 19, 20, 21, 22, 23, 24, 25, 26, 27, 28, 29, 30, 31, 32, 33, 34, 35, 36, 37, 38, 39, 40, 41, 42, 43, 44, 45, 46, 47, 48, 49, 50, 51, 52, 53, 54, 55, 56, 57, 58, 59, 60, 61, 62, 63, 64, 65, 66, 67, 68, 69, 70, 71, 72] rfl (by decide +kernel)
set_option maxRecDepth 20000 in
theorem gX12_raw_X12_throwsIf : GoodIn wsX12_raw (wsV RX12 185 RX12 yX12_throwsIf wsX12_throwsIf) := goodIn_app (goodIn_of _ (by decide +kernel)) ggX12_raw_X12_throwsIf
set_option maxRecDepth 20000 in
theorem ggX12_raw_X12_isWhat : GoodIn wsX12_raw wsX12_isWhat := goodIn_r _ [18, 9, 10, 6, 11] rfl (by decide +kernel)
set_option maxRecDepth 20000 in
theorem gX12_raw_X12_isWhat : GoodIn wsX12_raw (va_wsS RX12 397 yX12_isWhat wsX12_isWhat) := goodIn_app (goodIn_of _ (by decide +kernel)) ggX12_raw_X12_isWhat
theorem dX12_raw_0 : decode cX12_raw 0 = .ok (.aload_n 0, 1) := by decide +kernel
theorem dX12_raw_1 : decode cX12_raw 1 = .ok (.iconst 0, 1) := by decide +kernel
theorem dX12_raw_2 : decode cX12_raw 2 = .ok (.putfield 1, 3) := by decide +kernel
theorem dX12_raw_5 : decode cX12_raw 5 = .ok (.aload_n 0, 1) := by decide +kernel
theorem dX12_raw_6 : decode cX12_raw 6 = .ok (.aload_n 0, 1) := by decide +kernel
theorem dX12_raw_7 : decode cX12_raw 7 = .ok (.iload_n 1, 1) := by decide +kernel
theorem dX12_raw_8 : decode cX12_raw 8 = .ok (.invokevirtual 394, 3) := by decide +kernel
theorem dX12_raw_11 : decode cX12_raw 11 = .ok (.ifCond .ne 7, 3) := by decide +kernel
theorem dX12_raw_14 : decode cX12_raw 14 = .ok (.iconst 1, 1) := by decide +kernel
theorem dX12_raw_15 : decode cX12_raw 15 = .ok (.goto 4, 3) := by decide +kernel
theorem dX12_raw_18 : decode cX12_raw 18 = .ok (.iconst 0, 1) := by decide +kernel
theorem dX12_raw_19 : decode cX12_raw 19 = .ok (.iconst 1, 1) := by decide +kernel
theorem dX12_raw_20 : decode cX12_raw 20 = .ok (.invokevirtual 185, 3) := by decide +kernel
theorem dX12_raw_23 : decode cX12_raw 23 = .ok (.ifCond .ne 23, 3) := by decide +kernel
theorem dX12_raw_26 : decode cX12_raw 26 = .ok (.aload_n 0, 1) := by decide +kernel
theorem dX12_raw_27 : decode cX12_raw 27 = .ok (.iload_n 2, 1) := by decide +kernel
theorem dX12_raw_28 : decode cX12_raw 28 = .ok (.invokestatic 397, 3) := by decide +kernel
theorem dX12_raw_31 : decode cX12_raw 31 = .ok (.ifCond .ne 7, 3) := by decide +kernel
theorem dX12_raw_34 : decode cX12_raw 34 = .ok (.iconst 1, 1) := by decide +kernel
theorem dX12_raw_35 : decode cX12_raw 35 = .ok (.goto 4, 3) := by decide +kernel
theorem dX12_raw_38 : decode cX12_raw 38 = .ok (.iconst 0, 1) := by decide +kernel
theorem dX12_raw_39 : decode cX12_raw 39 = .ok (.iconst 2, 1) := by decide +kernel
theorem dX12_raw_40 : decode cX12_raw 40 = .ok (.invokevirtual 185, 3) := by decide +kernel
theorem dX12_raw_43 : decode cX12_raw 43 = .ok (.ifCond .eq 7, 3) := by decide +kernel
theorem dX12_raw_46 : decode cX12_raw 46 = .ok (.lconst 0, 1) := by decide +kernel
theorem dX12_raw_47 : decode cX12_raw 47 = .ok (.goto 13, 3) := by decide +kernel
theorem dX12_raw_50 : decode cX12_raw 50 = .ok (.aload_n 0, 1) := by decide +kernel
theorem dX12_raw_51 : decode cX12_raw 51 = .ok (.getfield 72, 3) := by decide +kernel
theorem dX12_raw_54 : decode cX12_raw 54 = .ok (.iconst 2, 1) := by decide +kernel
theorem dX12_raw_55 : decode cX12_raw 55 = .ok (.iload_n 1, 1) := by decide +kernel
theorem dX12_raw_56 : decode cX12_raw 56 = .ok (.imul, 1) := by decide +kernel
theorem dX12_raw_57 : decode cX12_raw 57 = .ok (.iload_n 2, 1) := by decide +kernel
theorem dX12_raw_58 : decode cX12_raw 58 = .ok (.iadd, 1) := by decide +kernel
theorem dX12_raw_59 : decode cX12_raw 59 = .ok (.laload, 1) := by decide +kernel
theorem dX12_raw_60 : decode cX12_raw 60 = .ok (.lreturn, 1) := by decide +kernel
set_option maxRecDepth 20000 in
theorem ggX12_estimate_X12_isKey : GoodIn wsX12_estimate wsX12_isKey := goodIn_r _ [7, 8, 9, 10, 6, 11, 19, 20, 21, 22, 23, 24, 25, 26, 27, 28, 29, 30, 31, 32, 33, 34, 35, 36, 37, 38, 39, 40, 41, 42, 43, 44, 45, 46, 47, 48, 49, 50, 51, 52, 53, 54, 55, 56, 57, 58, 59, 60, 61, 62, 63, 64, 65, 66, 67, 68, 69, 70, 71, 72] rfl (by decide +kernel)
set_option maxRecDepth 20000 in
theorem gX12_estimate_X12_isKey : GoodIn wsX12_estimate (wsV RX12 394 RX12 yX12_isKey wsX12_isKey) := goodIn_app (goodIn_of _ (by decide +kernel)) ggX12_estimate_X12_isKey
set_option maxRecDepth 20000 in
theorem ggX12_estimate_X12_throwsIf : GoodIn wsX12_estimate wsX12_throwsIf := goodIn_r _ [15, 1, 19, 20, 21, 22, 23, 24, 25, 26, 27, 28, 29, 30, 31, 32, 33, 34, 35, 36, 37, 38, 39, 40, 41, 42, 43, 44, 45, 46, 47, 48, 49, 50, 51, 52, 53, 54, 55, 56, 57, 58, 59, 60, 61, 62, 63, 64, 65, 66, 67, 68, 69, 70, 71, 72] rfl (by decide +kernel)
set_option maxRecDepth 20000 in
theorem gX12_estimate_X12_throwsIf : GoodIn wsX12_estimate (wsV RX12 185 RX12 yX12_throwsIf wsX12_throwsIf) := goodIn_app (goodIn_of _ (by decide +kernel)) ggX12_estimate_X12_throwsIf
set_option maxRecDepth 20000 in
theorem ggX12_estimate_X12_isWhat : GoodIn wsX12_estimate wsX12_isWhat := goodIn_r _ [18, 9, 10, 6, 11] rfl (by decide +kernel)
set_option maxRecDepth 20000 in
theorem gX12_estimate_X12_isWhat : GoodIn wsX12_estimate (va_wsS RX12 397 yX12_isWhat wsX12_isWhat) := goodIn_app (goodIn_of _ (by decide +kernel)) ggX12_estimate_X12_isWhat
theorem dX12_estimate_0 : decode cX12_estimate 0 = .ok (.aload_n 0, 1) := by decide +kernel
theorem dX12_estimate_1 : decode cX12_estimate 1 = .ok (.iconst 0, 1) := by decide +kernel
theorem dX12_estimate_2 : decode cX12_estimate 2 = .ok (.putfield 1, 3) := by decide +kernel
theorem dX12_estimate_5 : decode cX12_estimate 5 = .ok (.aload_n 0, 1) := by decide +kernel
theorem dX12_estimate_6 : decode cX12_estimate 6 = .ok (.aload_n 0, 1) := by decide +kernel
theorem dX12_estimate_7 : decode cX12_estimate 7 = .ok (.iload_n 1, 1) := by decide +kernel
theorem dX12_estimate_8 : decode cX12_estimate 8 = .ok (.invokevirtual 394, 3) := by decide +kernel
theorem dX12_estimate_11 : decode cX12_estimate 11 = .ok (.ifCond .ne 7, 3) := by decide +kernel
theorem dX12_estimate_14 : decode cX12_estimate 14 = .ok (.iconst 1, 1) := by decide +kernel
theorem dX12_estimate_15 : decode cX12_estimate 15 = .ok (.goto 4, 3) := by decide +kernel
theorem dX12_estimate_18 : decode cX12_estimate 18 = .ok (.iconst 0, 1) := by decide +kernel
theorem dX12_estimate_19 : decode cX12_estimate 19 = .ok (.iconst 1, 1) := by decide +kernel
theorem dX12_estimate_20 : decode cX12_estimate 20 = .ok (.invokevirtual 185, 3) := by decide +kernel
theorem dX12_estimate_23 : decode cX12_estimate 23 = .ok (.ifCond .ne 23, 3) := by decide +kernel
theorem dX12_estimate_26 : decode cX12_estimate 26 = .ok (.aload_n 0, 1) := by decide +kernel
theorem dX12_estimate_27 : decode cX12_estimate 27 = .ok (.iload_n 2, 1) := by decide +kernel
theorem dX12_estimate_28 : decode cX12_estimate 28 = .ok (.invokestatic 397, 3) := by decide +kernel
theorem dX12_estimate_31 : decode cX12_estimate 31 = .ok (.ifCond .ne 7, 3) := by decide +kernel
theorem dX12_estimate_34 : decode cX12_estimate 34 = .ok (.iconst 1, 1) := by decide +kernel
theorem dX12_estimate_35 : decode cX12_estimate 35 = .ok (.goto 4, 3) := by decide +kernel
theorem dX12_estimate_38 : decode cX12_estimate 38 = .ok (.iconst 0, 1) := by decide +kernel
theorem dX12_estimate_39 : decode cX12_estimate 39 = .ok (.iconst 2, 1) := by decide +kernel
theorem dX12_estimate_40 : decode cX12_estimate 40 = .ok (.invokevirtual 185, 3) := by decide +kernel
theorem dX12_estimate_43 : decode cX12_estimate 43 = .ok (.ifCond .eq 7, 3) := by decide +kernel
theorem dX12_estimate_46 : decode cX12_estimate 46 = .ok (.lconst 0, 1) := by decide +kernel
theorem dX12_estimate_47 : decode cX12_estimate 47 = .ok (.goto 13, 3) := by decide +kernel
theorem dX12_estimate_50 : decode cX12_estimate 50 = .ok (.aload_n 0, 1) := by decide +kernel
theorem dX12_estimate_51 : decode cX12_estimate 51 = .ok (.getfield 75, 3) := by decide +kernel
theorem dX12_estimate_54 : decode cX12_estimate 54 = .ok (.iconst 2, 1) := by decide +kernel
theorem dX12_estimate_55 : decode cX12_estimate 55 = .ok (.iload_n 1, 1) := by decide +kernel
theorem dX12_estimate_56 : decode cX12_estimate 56 = .ok (.imul, 1) := by decide +kernel
theorem dX12_estimate_57 : decode cX12_estimate 57 = .ok (.iload_n 2, 1) := by decide +kernel
theorem dX12_estimate_58 : decode cX12_estimate 58 = .ok (.iadd, 1) := by decide +kernel
theorem dX12_estimate_59 : decode cX12_estimate 59 = .ok (.laload, 1) := by decide +kernel
theorem dX12_estimate_60 : decode cX12_estimate 60 = .ok (.lreturn, 1) := by decide +kernel
set_option maxRecDepth 20000 in
theorem ggX12_truthOf_X12_trueKeyOf : GoodIn wsX12_truthOf wsX12_trueKeyOf := goodIn_ca (goodIn_r _ [6, 7, 8, 9, 10, 5, 11, 12, 13, 14, 15, 16, 17, 18, 19, 20, 21, 22, 23, 24, 25, 26, 27, 28, 29, 30, 31, 32, 33, 34, 35, 36, 37, 38, 39, 40, 41, 42, 43, 44, 45, 46, 47, 48, 49, 50, 51, 52, 53, 54, 55, 56, 57, 58, 59, 60, 61, 62, 63, 64, 65] rfl (by decide +kernel)) (goodIn_sub (fun _ h => List.mem_cons_of_mem _ (List.mem_append_right _ h)) (by decide +kernel))
set_option maxRecDepth 20000 in
theorem gX12_truthOf_X12_trueKeyOf : GoodIn wsX12_truthOf (wsV RX12 434 RX12 yX12_trueKeyOf wsX12_trueKeyOf) := goodIn_app (goodIn_of _ (by decide +kernel)) ggX12_truthOf_X12_trueKeyOf
theorem dX12_truthOf_0 : decode cX12_truthOf 0 = .ok (.aload_n 0, 1) := by decide +kernel
theorem dX12_truthOf_1 : decode cX12_truthOf 1 = .ok (.iload_n 1, 1) := by decide +kernel
theorem dX12_truthOf_2 : decode cX12_truthOf 2 = .ok (.iload_n 2, 1) := by decide +kernel
theorem dX12_truthOf_3 : decode cX12_truthOf 3 = .ok (.iload_n 3, 1) := by decide +kernel
theorem dX12_truthOf_4 : decode cX12_truthOf 4 = .ok (.iload 4, 2) := by decide +kernel
theorem dX12_truthOf_6 : decode cX12_truthOf 6 = .ok (.invokevirtual 434, 3) := by decide +kernel
theorem dX12_truthOf_9 : decode cX12_truthOf 9 = .ok (.istore 6, 2) := by decide +kernel
theorem dX12_truthOf_11 : decode cX12_truthOf 11 = .ok (.iload 6, 2) := by decide +kernel
theorem dX12_truthOf_13 : decode cX12_truthOf 13 = .ok (.iconst (-1), 1) := by decide +kernel
theorem dX12_truthOf_14 : decode cX12_truthOf 14 = .ok (.if_icmp .ne 7, 3) := by decide +kernel
theorem dX12_truthOf_17 : decode cX12_truthOf 17 = .ok (.lconst 0, 1) := by decide +kernel
theorem dX12_truthOf_18 : decode cX12_truthOf 18 = .ok (.goto 15, 3) := by decide +kernel
theorem dX12_truthOf_21 : decode cX12_truthOf 21 = .ok (.aload_n 0, 1) := by decide +kernel
theorem dX12_truthOf_22 : decode cX12_truthOf 22 = .ok (.getfield 85, 3) := by decide +kernel
theorem dX12_truthOf_25 : decode cX12_truthOf 25 = .ok (.iconst 2, 1) := by decide +kernel
theorem dX12_truthOf_26 : decode cX12_truthOf 26 = .ok (.iload 6, 2) := by decide +kernel
theorem dX12_truthOf_28 : decode cX12_truthOf 28 = .ok (.imul, 1) := by decide +kernel
theorem dX12_truthOf_29 : decode cX12_truthOf 29 = .ok (.iload 5, 2) := by decide +kernel
theorem dX12_truthOf_31 : decode cX12_truthOf 31 = .ok (.iadd, 1) := by decide +kernel
theorem dX12_truthOf_32 : decode cX12_truthOf 32 = .ok (.laload, 1) := by decide +kernel
theorem dX12_truthOf_33 : decode cX12_truthOf 33 = .ok (.lreturn, 1) := by decide +kernel
set_option maxRecDepth 20000 in
theorem ggX12_truth_X12_isWhat : GoodIn wsX12_truth wsX12_isWhat := goodIn_r _ [5, 6, 7, 4, 8] rfl (by decide +kernel)
set_option maxRecDepth 20000 in
theorem gX12_truth_X12_isWhat : GoodIn wsX12_truth (va_wsS RX12 397 yX12_isWhat wsX12_isWhat) := goodIn_app (goodIn_of _ (by decide +kernel)) ggX12_truth_X12_isWhat
set_option maxRecDepth 20000 in
theorem ggX12_truth_X12_throwsIf : GoodIn wsX12_truth wsX12_throwsIf := goodIn_r _ [12, 1, 27, 28, 29, 30, 31, 32, 33, 34, 35, 36, 37, 38, 39, 40, 41, 42, 43, 44, 45, 46, 47, 48, 49, 50, 51, 52, 53, 54, 55, 56, 57, 58, 59, 60, 61, 62, 63, 64, 65, 66, 67, 68, 69, 70, 71, 72, 73, 74, 75, 76, 77, 78, 79, 80] rfl (by decide +kernel)
set_option maxRecDepth 20000 in
theorem gX12_truth_X12_throwsIf : GoodIn wsX12_truth (wsV RX12 185 RX12 yX12_throwsIf wsX12_throwsIf) := goodIn_app (goodIn_of _ (by decide +kernel)) ggX12_truth_X12_throwsIf
set_option maxRecDepth 20000 in
theorem ggX12_truth_X12_truthOf : GoodIn wsX12_truth wsX12_truthOf := goodIn_ca (goodIn_r _ [16, 17, 18, 19, 20, 4, 21, 22, 23, 24, 25, 26, 27, 28, 29, 30, 31, 32, 33, 34, 35, 36, 37, 38, 39, 40, 41, 42, 43, 44, 45, 46, 47, 48, 49, 50, 51, 52, 53, 54, 55, 56, 57, 58, 59, 60, 61, 62, 63, 64, 65, 66, 67, 68, 69, 70, 71, 72, 73, 74, 75, 76, 77, 78, 79, 80] rfl (by decide +kernel)) (goodIn_sub (fun _ h => List.mem_cons_of_mem _ (List.mem_append_right _ h)) (by decide +kernel))
set_option maxRecDepth 20000 in
theorem gX12_truth_X12_truthOf : GoodIn wsX12_truth (wsV RX12 437 RX12 yX12_truthOf wsX12_truthOf) := goodIn_app (goodIn_of _ (by decide +kernel)) ggX12_truth_X12_truthOf
theorem dX12_truth_0 : decode cX12_truth 0 = .ok (.aload_n 0, 1) := by decide +kernel
theorem dX12_truth_1 : decode cX12_truth 1 = .ok (.iconst 0, 1) := by decide +kernel
theorem dX12_truth_2 : decode cX12_truth 2 = .ok (.putfield 1, 3) := by decide +kernel
theorem dX12_truth_5 : decode cX12_truth 5 = .ok (.aload_n 0, 1) := by decide +kernel
theorem dX12_truth_6 : decode cX12_truth 6 = .ok (.iload 5, 2) := by decide +kernel
theorem dX12_truth_8 : decode cX12_truth 8 = .ok (.invokestatic 397, 3) := by decide +kernel
theorem dX12_truth_11 : decode cX12_truth 11 = .ok (.ifCond .ne 7, 3) := by decide +kernel
theorem dX12_truth_14 : decode cX12_truth 14 = .ok (.iconst 1, 1) := by decide +kernel
theorem dX12_truth_15 : decode cX12_truth 15 = .ok (.goto 4, 3) := by decide +kernel
theorem dX12_truth_18 : decode cX12_truth 18 = .ok (.iconst 0, 1) := by decide +kernel
theorem dX12_truth_19 : decode cX12_truth 19 = .ok (.iconst 1, 1) := by decide +kernel
theorem dX12_truth_20 : decode cX12_truth 20 = .ok (.invokevirtual 185, 3) := by decide +kernel
theorem dX12_truth_23 : decode cX12_truth 23 = .ok (.ifCond .eq 7, 3) := by decide +kernel
theorem dX12_truth_26 : decode cX12_truth 26 = .ok (.lconst 0, 1) := by decide +kernel
theorem dX12_truth_27 : decode cX12_truth 27 = .ok (.goto 14, 3) := by decide +kernel
theorem dX12_truth_30 : decode cX12_truth 30 = .ok (.aload_n 0, 1) := by decide +kernel
theorem dX12_truth_31 : decode cX12_truth 31 = .ok (.iload_n 1, 1) := by decide +kernel
theorem dX12_truth_32 : decode cX12_truth 32 = .ok (.iload_n 2, 1) := by decide +kernel
theorem dX12_truth_33 : decode cX12_truth 33 = .ok (.iload_n 3, 1) := by decide +kernel
theorem dX12_truth_34 : decode cX12_truth 34 = .ok (.iload 4, 2) := by decide +kernel
theorem dX12_truth_36 : decode cX12_truth 36 = .ok (.iload 5, 2) := by decide +kernel
theorem dX12_truth_38 : decode cX12_truth 38 = .ok (.invokevirtual 437, 3) := by decide +kernel
theorem dX12_truth_41 : decode cX12_truth 41 = .ok (.lreturn, 1) := by decide +kernel
set_option maxRecDepth 20000 in
theorem ggX12_covered_X12_isWhat : GoodIn wsX12_covered wsX12_isWhat := goodIn_r _ [7, 8, 9, 6, 10] rfl (by decide +kernel)
set_option maxRecDepth 20000 in
theorem gX12_covered_X12_isWhat : GoodIn wsX12_covered (va_wsS RX12 397 yX12_isWhat wsX12_isWhat) := goodIn_app (goodIn_of _ (by decide +kernel)) ggX12_covered_X12_isWhat
set_option maxRecDepth 20000 in
theorem ggX12_covered_X12_throwsIf : GoodIn wsX12_covered wsX12_throwsIf := goodIn_r _ [14, 1, 67, 68, 69, 70, 71, 72, 73, 74, 75, 76, 77, 78, 79, 80, 81, 82, 83, 84, 85, 86, 87, 88, 89, 90, 91, 92, 93, 94, 95, 96, 97, 98, 99, 100, 101, 102, 103, 104, 105, 106, 107, 108, 109, 110, 111, 112, 113, 114, 115, 116, 117, 118, 119, 120] rfl (by decide +kernel)
set_option maxRecDepth 20000 in
theorem gX12_covered_X12_throwsIf : GoodIn wsX12_covered (wsV RX12 185 RX12 yX12_throwsIf wsX12_throwsIf) := goodIn_app (goodIn_of _ (by decide +kernel)) ggX12_covered_X12_throwsIf
set_option maxRecDepth 20000 in
theorem ggX12_covered_X12_truthOf : GoodIn wsX12_covered wsX12_truthOf := goodIn_ca (goodIn_r _ [18, 19, 20, 21, 22, 6, 23, 24, 25, 26, 27, 28, 67, 68, 69, 70, 71, 72, 73, 74, 75, 76, 77, 78, 79, 80, 81, 82, 83, 84, 85, 86, 87, 88, 89, 90, 91, 92, 93, 94, 95, 96, 97, 98, 99, 100, 101, 102, 103, 104, 105, 106, 107, 108, 109, 110, 111, 112, 113, 114, 115, 116, 117, 118, 119, 120] rfl (by decide +kernel)) (goodIn_sub (fun _ h => List.mem_cons_of_mem _ (List.mem_append_right _ h)) (by decide +kernel))
set_option maxRecDepth 20000 in
theorem gX12_covered_X12_truthOf : GoodIn wsX12_covered (wsV RX12 437 RX12 yX12_truthOf wsX12_truthOf) := goodIn_app (goodIn_of _ (by decide +kernel)) ggX12_covered_X12_truthOf
set_option maxRecDepth 20000 in
theorem ggX12_covered_X12_lowerOf : GoodIn wsX12_covered wsX12_lowerOf := goodIn_ca (goodIn_r _ [32, 33, 34, 35, 36, 37, 6, 38, 39, 40, 41, 42, 43, 44, 45, 46, 47, 48, 49, 50, 51, 52, 53, 54, 55, 56, 57, 58, 59, 60, 61, 62, 67, 68, 69, 70, 71, 72, 73, 74, 75, 76, 77, 78, 79, 80, 81, 82, 83, 84, 85, 86, 87, 88, 89, 90, 91, 92, 93, 94, 95, 96, 97, 98, 99, 100, 101, 102, 103, 104, 105, 106, 107, 108, 109, 110, 111, 112, 113, 114, 115, 116, 117, 118, 119, 120] rfl (by decide +kernel)) (goodIn_sub (fun _ h => List.mem_cons_of_mem _ (List.mem_append_right _ h)) (by decide +kernel))
set_option maxRecDepth 20000 in
theorem gX12_covered_X12_lowerOf : GoodIn wsX12_covered (wsV RX12 427 RX12 yX12_lowerOf wsX12_lowerOf) := goodIn_app (goodIn_of _ (by decide +kernel)) ggX12_covered_X12_lowerOf
set_option maxRecDepth 20000 in
theorem ggX12_covered_X12_upperOf : GoodIn wsX12_covered wsX12_upperOf := goodIn_ca (goodIn_r _ [66, 33, 34, 36, 37, 6, 38, 39, 40, 41, 42, 43, 44, 45, 46, 47, 48, 49, 50, 51, 52, 53, 54, 55, 56, 57, 58, 59, 60, 61, 62, 67, 68, 69, 70, 71, 72, 73, 74, 75, 76, 77, 78, 79, 80, 81, 82, 83, 84, 85, 86, 87, 88, 89, 90, 91, 92, 93, 94, 95, 96, 97, 98, 99, 100, 101, 102, 103, 104, 105, 106, 107, 108, 109, 110, 111, 112, 113, 114, 115, 116, 117, 118, 119, 120] rfl (by decide +kernel)) (goodIn_sub (fun _ h => List.mem_cons_of_mem _ (List.mem_append_right _ h)) (by decide +kernel))
set_option maxRecDepth 20000 in
theorem gX12_covered_X12_upperOf : GoodIn wsX12_covered (wsV RX12 431 RX12 yX12_upperOf wsX12_upperOf) := goodIn_app (goodIn_of _ (by decide +kernel)) ggX12_covered_X12_upperOf
theorem dX12_covered_0 : decode cX12_covered 0 = .ok (.aload_n 0, 1) := by decide +kernel
theorem dX12_covered_1 : decode cX12_covered 1 = .ok (.iconst 0, 1) := by decide +kernel
theorem dX12_covered_2 : decode cX12_covered 2 = .ok (.putfield 1, 3) := by decide +kernel
theorem dX12_covered_5 : decode cX12_covered 5 = .ok (.aload_n 0, 1) := by decide +kernel
theorem dX12_covered_6 : decode cX12_covered 6 = .ok (.iload_n 1, 1) := by decide +kernel
theorem dX12_covered_7 : decode cX12_covered 7 = .ok (.invokestatic 397, 3) := by decide +kernel
theorem dX12_covered_10 : decode cX12_covered 10 = .ok (.ifCond .ne 7, 3) := by decide +kernel
theorem dX12_covered_13 : decode cX12_covered 13 = .ok (.iconst 1, 1) := by decide +kernel
theorem dX12_covered_14 : decode cX12_covered 14 = .ok (.goto 4, 3) := by decide +kernel
theorem dX12_covered_17 : decode cX12_covered 17 = .ok (.iconst 0, 1) := by decide +kernel
theorem dX12_covered_18 : decode cX12_covered 18 = .ok (.iconst 1, 1) := by decide +kernel
theorem dX12_covered_19 : decode cX12_covered 19 = .ok (.invokevirtual 185, 3) := by decide +kernel
theorem dX12_covered_22 : decode cX12_covered 22 = .ok (.ifCond .eq 5, 3) := by decide +kernel
theorem dX12_covered_25 : decode cX12_covered 25 = .ok (.iconst 0, 1) := by decide +kernel
theorem dX12_covered_26 : decode cX12_covered 26 = .ok (.ireturn, 1) := by decide +kernel
theorem dX12_covered_27 : decode cX12_covered 27 = .ok (.iconst 0, 1) := by decide +kernel
theorem dX12_covered_28 : decode cX12_covered 28 = .ok (.istore_n 2, 1) := by decide +kernel
theorem dX12_covered_29 : decode cX12_covered 29 = .ok (.iconst 0, 1) := by decide +kernel
theorem dX12_covered_30 : decode cX12_covered 30 = .ok (.istore_n 3, 1) := by decide +kernel
theorem dX12_covered_31 : decode cX12_covered 31 = .ok (.iload_n 3, 1) := by decide +kernel
theorem dX12_covered_32 : decode cX12_covered 32 = .ok (.aload_n 0, 1) := by decide +kernel
theorem dX12_covered_33 : decode cX12_covered 33 = .ok (.getfield 148, 3) := by decide +kernel
theorem dX12_covered_36 : decode cX12_covered 36 = .ok (.if_icmp .ge 87, 3) := by decide +kernel
theorem dX12_covered_39 : decode cX12_covered 39 = .ok (.aload_n 0, 1) := by decide +kernel
theorem dX12_covered_40 : decode cX12_covered 40 = .ok (.aload_n 0, 1) := by decide +kernel
theorem dX12_covered_41 : decode cX12_covered 41 = .ok (.getfield 69, 3) := by decide +kernel
theorem dX12_covered_44 : decode cX12_covered 44 = .ok (.iconst 4, 1) := by decide +kernel
theorem dX12_covered_45 : decode cX12_covered 45 = .ok (.iload_n 3, 1) := by decide +kernel
theorem dX12_covered_46 : decode cX12_covered 46 = .ok (.imul, 1) := by decide +kernel
theorem dX12_covered_47 : decode cX12_covered 47 = .ok (.iaload, 1) := by decide +kernel
theorem dX12_covered_48 : decode cX12_covered 48 = .ok (.aload_n 0, 1) := by decide +kernel
theorem dX12_covered_49 : decode cX12_covered 49 = .ok (.getfield 69, 3) := by decide +kernel
theorem dX12_covered_52 : decode cX12_covered 52 = .ok (.iconst 4, 1) := by decide +kernel
theorem dX12_covered_53 : decode cX12_covered 53 = .ok (.iload_n 3, 1) := by decide +kernel
theorem dX12_covered_54 : decode cX12_covered 54 = .ok (.imul, 1) := by decide +kernel
theorem dX12_covered_55 : decode cX12_covered 55 = .ok (.iconst 1, 1) := by decide +kernel
theorem dX12_covered_56 : decode cX12_covered 56 = .ok (.iadd, 1) := by decide +kernel
theorem dX12_covered_57 : decode cX12_covered 57 = .ok (.iaload, 1) := by decide +kernel
theorem dX12_covered_58 : decode cX12_covered 58 = .ok (.aload_n 0, 1) := by decide +kernel
theorem dX12_covered_59 : decode cX12_covered 59 = .ok (.getfield 69, 3) := by decide +kernel
theorem dX12_covered_62 : decode cX12_covered 62 = .ok (.iconst 4, 1) := by decide +kernel
theorem dX12_covered_63 : decode cX12_covered 63 = .ok (.iload_n 3, 1) := by decide +kernel
theorem dX12_covered_64 : decode cX12_covered 64 = .ok (.imul, 1) := by decide +kernel
theorem dX12_covered_65 : decode cX12_covered 65 = .ok (.iconst 2, 1) := by decide +kernel
theorem dX12_covered_66 : decode cX12_covered 66 = .ok (.iadd, 1) := by decide +kernel
theorem dX12_covered_67 : decode cX12_covered 67 = .ok (.iaload, 1) := by decide +kernel
theorem dX12_covered_68 : decode cX12_covered 68 = .ok (.aload_n 0, 1) := by decide +kernel
theorem dX12_covered_69 : decode cX12_covered 69 = .ok (.getfield 69, 3) := by decide +kernel
theorem dX12_covered_72 : decode cX12_covered 72 = .ok (.iconst 4, 1) := by decide +kernel
theorem dX12_covered_73 : decode cX12_covered 73 = .ok (.iload_n 3, 1) := by decide +kernel
theorem dX12_covered_74 : decode cX12_covered 74 = .ok (.imul, 1) := by decide +kernel
theorem dX12_covered_75 : decode cX12_covered 75 = .ok (.iconst 3, 1) := by decide +kernel
theorem dX12_covered_76 : decode cX12_covered 76 = .ok (.iadd, 1) := by decide +kernel
theorem dX12_covered_77 : decode cX12_covered 77 = .ok (.iaload, 1) := by decide +kernel
theorem dX12_covered_78 : decode cX12_covered 78 = .ok (.iload_n 1, 1) := by decide +kernel
theorem dX12_covered_79 : decode cX12_covered 79 = .ok (.invokevirtual 437, 3) := by decide +kernel
theorem dX12_covered_82 : decode cX12_covered 82 = .ok (.l2d, 1) := by decide +kernel
theorem dX12_covered_83 : decode cX12_covered 83 = .ok (.dstore 4, 2) := by decide +kernel
theorem dX12_covered_85 : decode cX12_covered 85 = .ok (.iload_n 2, 1) := by decide +kernel
theorem dX12_covered_86 : decode cX12_covered 86 = .ok (.dload 4, 2) := by decide +kernel
theorem dX12_covered_88 : decode cX12_covered 88 = .ok (.aload_n 0, 1) := by decide +kernel
theorem dX12_covered_89 : decode cX12_covered 89 = .ok (.iload_n 3, 1) := by decide +kernel
theorem dX12_covered_90 : decode cX12_covered 90 = .ok (.iload_n 1, 1) := by decide +kernel
theorem dX12_covered_91 : decode cX12_covered 91 = .ok (.invokevirtual 427, 3) := by decide +kernel
theorem dX12_covered_94 : decode cX12_covered 94 = .ok (.dcmp .l, 1) := by decide +kernel
theorem dX12_covered_95 : decode cX12_covered 95 = .ok (.ifCond .lt 19, 3) := by decide +kernel
theorem dX12_covered_98 : decode cX12_covered 98 = .ok (.dload 4, 2) := by decide +kernel
theorem dX12_covered_100 : decode cX12_covered 100 = .ok (.aload_n 0, 1) := by decide +kernel
theorem dX12_covered_101 : decode cX12_covered 101 = .ok (.iload_n 3, 1) := by decide +kernel
theorem dX12_covered_102 : decode cX12_covered 102 = .ok (.iload_n 1, 1) := by decide +kernel
theorem dX12_covered_103 : decode cX12_covered 103 = .ok (.invokevirtual 431, 3) := by decide +kernel
theorem dX12_covered_106 : decode cX12_covered 106 = .ok (.dcmp .g, 1) := by decide +kernel
theorem dX12_covered_107 : decode cX12_covered 107 = .ok (.ifCond .gt 7, 3) := by decide +kernel
theorem dX12_covered_110 : decode cX12_covered 110 = .ok (.iconst 1, 1) := by decide +kernel
theorem dX12_covered_111 : decode cX12_covered 111 = .ok (.goto 4, 3) := by decide +kernel
theorem dX12_covered_114 : decode cX12_covered 114 = .ok (.iconst 0, 1) := by decide +kernel
theorem dX12_covered_115 : decode cX12_covered 115 = .ok (.iadd, 1) := by decide +kernel
theorem dX12_covered_116 : decode cX12_covered 116 = .ok (.istore_n 2, 1) := by decide +kernel
theorem dX12_covered_117 : decode cX12_covered 117 = .ok (.iinc 3 1, 3) := by decide +kernel
theorem dX12_covered_120 : decode cX12_covered 120 = .ok (.goto (-89), 3) := by decide +kernel
theorem dX12_covered_123 : decode cX12_covered 123 = .ok (.iload_n 2, 1) := by decide +kernel
theorem dX12_covered_124 : decode cX12_covered 124 = .ok (.ireturn, 1) := by decide +kernel
set_option maxRecDepth 20000 in
theorem ggX12_totalEstimate_X12_isWhat : GoodIn wsX12_totalEstimate wsX12_isWhat := goodIn_r _ [7, 8, 9, 6, 10] rfl (by decide +kernel)
set_option maxRecDepth 20000 in
theorem gX12_totalEstimate_X12_isWhat : GoodIn wsX12_totalEstimate (va_wsS RX12 397 yX12_isWhat wsX12_isWhat) := goodIn_app (goodIn_of _ (by decide +kernel)) ggX12_totalEstimate_X12_isWhat
set_option maxRecDepth 20000 in
theorem ggX12_totalEstimate_X12_throwsIf : GoodIn wsX12_totalEstimate wsX12_throwsIf := goodIn_r _ [14, 1, 15, 16, 17, 18, 19, 20, 21, 22, 23, 24, 25, 26, 27, 28, 29, 30, 31, 32, 33, 34, 35, 36, 37, 38, 39, 40, 41, 42, 43, 44, 45, 46, 47, 48, 49, 50, 51, 52, 53, 54, 55, 56, 57, 58, 59, 60, 61, 62, 63, 64, 65, 66, 67, 68] rfl (by decide +kernel)
set_option maxRecDepth 20000 in
theorem gX12_totalEstimate_X12_throwsIf : GoodIn wsX12_totalEstimate (wsV RX12 185 RX12 yX12_throwsIf wsX12_throwsIf) := goodIn_app (goodIn_of _ (by decide +kernel)) ggX12_totalEstimate_X12_throwsIf
theorem dX12_totalEstimate_0 : decode cX12_totalEstimate 0 = .ok (.aload_n 0, 1) := by decide +kernel
theorem dX12_totalEstimate_1 : decode cX12_totalEstimate 1 = .ok (.iconst 0, 1) := by decide +kernel
theorem dX12_totalEstimate_2 : decode cX12_totalEstimate 2 = .ok (.putfield 1, 3) := by decide +kernel
theorem dX12_totalEstimate_5 : decode cX12_totalEstimate 5 = .ok (.aload_n 0, 1) := by decide +kernel
theorem dX12_totalEstimate_6 : decode cX12_totalEstimate 6 = .ok (.iload_n 1, 1) := by decide +kernel
theorem dX12_totalEstimate_7 : decode cX12_totalEstimate 7 = .ok (.invokestatic 397, 3) := by decide +kernel
theorem dX12_totalEstimate_10 : decode cX12_totalEstimate 10 = .ok (.ifCond .ne 7, 3) := by decide +kernel
theorem dX12_totalEstimate_13 : decode cX12_totalEstimate 13 = .ok (.iconst 1, 1) := by decide +kernel
theorem dX12_totalEstimate_14 : decode cX12_totalEstimate 14 = .ok (.goto 4, 3) := by decide +kernel
theorem dX12_totalEstimate_17 : decode cX12_totalEstimate 17 = .ok (.iconst 0, 1) := by decide +kernel
theorem dX12_totalEstimate_18 : decode cX12_totalEstimate 18 = .ok (.iconst 1, 1) := by decide +kernel
theorem dX12_totalEstimate_19 : decode cX12_totalEstimate 19 = .ok (.invokevirtual 185, 3) := by decide +kernel
theorem dX12_totalEstimate_22 : decode cX12_totalEstimate 22 = .ok (.ifCond .eq 5, 3) := by decide +kernel
theorem dX12_totalEstimate_25 : decode cX12_totalEstimate 25 = .ok (.lconst 0, 1) := by decide +kernel
theorem dX12_totalEstimate_26 : decode cX12_totalEstimate 26 = .ok (.lreturn, 1) := by decide +kernel
theorem dX12_totalEstimate_27 : decode cX12_totalEstimate 27 = .ok (.lconst 0, 1) := by decide +kernel
theorem dX12_totalEstimate_28 : decode cX12_totalEstimate 28 = .ok (.lstore_n 2, 1) := by decide +kernel
theorem dX12_totalEstimate_29 : decode cX12_totalEstimate 29 = .ok (.iconst 0, 1) := by decide +kernel
theorem dX12_totalEstimate_30 : decode cX12_totalEstimate 30 = .ok (.istore 4, 2) := by decide +kernel
theorem dX12_totalEstimate_32 : decode cX12_totalEstimate 32 = .ok (.iload 4, 2) := by decide +kernel
theorem dX12_totalEstimate_34 : decode cX12_totalEstimate 34 = .ok (.aload_n 0, 1) := by decide +kernel
theorem dX12_totalEstimate_35 : decode cX12_totalEstimate 35 = .ok (.getfield 148, 3) := by decide +kernel
theorem dX12_totalEstimate_38 : decode cX12_totalEstimate 38 = .ok (.if_icmp .ge 23, 3) := by decide +kernel
theorem dX12_totalEstimate_41 : decode cX12_totalEstimate 41 = .ok (.lload_n 2, 1) := by decide +kernel
theorem dX12_totalEstimate_42 : decode cX12_totalEstimate 42 = .ok (.aload_n 0, 1) := by decide +kernel
theorem dX12_totalEstimate_43 : decode cX12_totalEstimate 43 = .ok (.getfield 75, 3) := by decide +kernel
theorem dX12_totalEstimate_46 : decode cX12_totalEstimate 46 = .ok (.iconst 2, 1) := by decide +kernel
theorem dX12_totalEstimate_47 : decode cX12_totalEstimate 47 = .ok (.iload 4, 2) := by decide +kernel
theorem dX12_totalEstimate_49 : decode cX12_totalEstimate 49 = .ok (.imul, 1) := by decide +kernel
theorem dX12_totalEstimate_50 : decode cX12_totalEstimate 50 = .ok (.iload_n 1, 1) := by decide +kernel
theorem dX12_totalEstimate_51 : decode cX12_totalEstimate 51 = .ok (.iadd, 1) := by decide +kernel
theorem dX12_totalEstimate_52 : decode cX12_totalEstimate 52 = .ok (.laload, 1) := by decide +kernel
theorem dX12_totalEstimate_53 : decode cX12_totalEstimate 53 = .ok (.ladd, 1) := by decide +kernel
theorem dX12_totalEstimate_54 : decode cX12_totalEstimate 54 = .ok (.lstore_n 2, 1) := by decide +kernel
theorem dX12_totalEstimate_55 : decode cX12_totalEstimate 55 = .ok (.iinc 4 1, 3) := by decide +kernel
theorem dX12_totalEstimate_58 : decode cX12_totalEstimate 58 = .ok (.goto (-26), 3) := by decide +kernel
theorem dX12_totalEstimate_61 : decode cX12_totalEstimate 61 = .ok (.lload_n 2, 1) := by decide +kernel
theorem dX12_totalEstimate_62 : decode cX12_totalEstimate 62 = .ok (.lreturn, 1) := by decide +kernel

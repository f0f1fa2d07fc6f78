theorem dX12_lengthOf_0 : decode cX12_lengthOf 0 = .ok (.iload_n 0, 1) := by decide +kernel
theorem dX12_lengthOf_1 : decode cX12_lengthOf 1 = .ok (.tableswitch 46 0 5 #[39, 39, 41, 39, 46, 43], 39) := by decide +kernel
theorem dX12_lengthOf_40 : decode cX12_lengthOf 40 = .ok (.iconst 1, 1) := by decide +kernel
theorem dX12_lengthOf_41 : decode cX12_lengthOf 41 = .ok (.ireturn, 1) := by decide +kernel
theorem dX12_lengthOf_42 : decode cX12_lengthOf 42 = .ok (.iconst 2, 1) := by decide +kernel
theorem dX12_lengthOf_43 : decode cX12_lengthOf 43 = .ok (.ireturn, 1) := by decide +kernel
theorem dX12_lengthOf_44 : decode cX12_lengthOf 44 = .ok (.bipush 8, 2) := by decide +kernel
theorem dX12_lengthOf_46 : decode cX12_lengthOf 46 = .ok (.ireturn, 1) := by decide +kernel
theorem dX12_lengthOf_47 : decode cX12_lengthOf 47 = .ok (.iconst 4, 1) := by decide +kernel
theorem dX12_lengthOf_48 : decode cX12_lengthOf 48 = .ok (.ireturn, 1) := by decide +kernel
theorem dX12_sizeOf_0 : decode cX12_sizeOf 0 = .ok (.aload_n 0, 1) := by decide +kernel
theorem dX12_sizeOf_1 : decode cX12_sizeOf 1 = .ok (.getfield 17, 3) := by decide +kernel
theorem dX12_sizeOf_4 : decode cX12_sizeOf 4 = .ok (.bipush 11, 2) := by decide +kernel
theorem dX12_sizeOf_6 : decode cX12_sizeOf 6 = .ok (.iload_n 1, 1) := by decide +kernel
theorem dX12_sizeOf_7 : decode cX12_sizeOf 7 = .ok (.iadd, 1) := by decide +kernel
theorem dX12_sizeOf_8 : decode cX12_sizeOf 8 = .ok (.iaload, 1) := by decide +kernel
theorem dX12_sizeOf_9 : decode cX12_sizeOf 9 = .ok (.ireturn, 1) := by decide +kernel
theorem dX12_fieldOf_0 : decode cX12_fieldOf 0 = .ok (.aload_n 0, 1) := by decide +kernel
theorem dX12_fieldOf_1 : decode cX12_fieldOf 1 = .ok (.getfield 17, 3) := by decide +kernel
theorem dX12_fieldOf_4 : decode cX12_fieldOf 4 = .ok (.bipush 15, 2) := by decide +kernel
theorem dX12_fieldOf_6 : decode cX12_fieldOf 6 = .ok (.bipush 9, 2) := by decide +kernel
theorem dX12_fieldOf_8 : decode cX12_fieldOf 8 = .ok (.iload_n 1, 1) := by decide +kernel
theorem dX12_fieldOf_9 : decode cX12_fieldOf 9 = .ok (.imul, 1) := by decide +kernel
theorem dX12_fieldOf_10 : decode cX12_fieldOf 10 = .ok (.iadd, 1) := by decide +kernel
theorem dX12_fieldOf_11 : decode cX12_fieldOf 11 = .ok (.iload_n 2, 1) := by decide +kernel
theorem dX12_fieldOf_12 : decode cX12_fieldOf 12 = .ok (.iadd, 1) := by decide +kernel
theorem dX12_fieldOf_13 : decode cX12_fieldOf 13 = .ok (.iaload, 1) := by decide +kernel
theorem dX12_fieldOf_14 : decode cX12_fieldOf 14 = .ok (.ireturn, 1) := by decide +kernel
set_option maxRecDepth 20000 in
theorem ggX12_fieldsOf_X12_sizeOf : GoodIn wsX12_fieldsOf wsX12_sizeOf := goodIn_ca (goodIn_r _ [5, 6, 11, 12, 13, 14, 15, 16, 17, 18, 19, 20, 21, 22, 23, 24, 25, 26, 27, 28, 29, 30, 31, 32, 33, 34, 35, 36, 37, 38, 39, 40, 41, 42, 43, 44, 45, 46, 47, 48, 49, 50, 51, 52, 53, 54, 55, 56, 57, 58, 59, 60, 61, 62, 63, 64] (by decide +kernel) (by decide +kernel)) (goodIn_sub (fun _ h => List.mem_cons_of_mem _ (List.mem_append_right _ h)) (by decide +kernel))
set_option maxRecDepth 20000 in
theorem gX12_fieldsOf_X12_sizeOf : GoodIn wsX12_fieldsOf (wsV RX12 173 RX12 yX12_sizeOf wsX12_sizeOf) := goodIn_app (goodIn_of _ (by decide +kernel)) ggX12_fieldsOf_X12_sizeOf
set_option maxRecDepth 20000 in
theorem ggX12_fieldsOf_X12_fieldOf : GoodIn wsX12_fieldsOf wsX12_fieldOf := goodIn_ca (goodIn_r _ [10, 6, 11, 12, 13, 14, 15, 16, 17, 18, 19, 20, 21, 22, 23, 24, 25, 26, 27, 28, 29, 30, 31, 32, 33, 34, 35, 36, 37, 38, 39, 40, 41, 42, 43, 44, 45, 46, 47, 48, 49, 50, 51, 52, 53, 54, 55, 56, 57, 58, 59, 60, 61, 62, 63, 64] (by decide +kernel) (by decide +kernel)) (goodIn_sub (fun _ h => List.mem_cons_of_mem _ (List.mem_append_right _ h)) (by decide +kernel))
set_option maxRecDepth 20000 in
theorem gX12_fieldsOf_X12_fieldOf : GoodIn wsX12_fieldsOf (wsV RX12 177 RX12 yX12_fieldOf wsX12_fieldOf) := goodIn_app (goodIn_of _ (by decide +kernel)) ggX12_fieldsOf_X12_fieldOf
theorem dX12_fieldsOf_0 : decode cX12_fieldsOf 0 = .ok (.iconst 0, 1) := by decide +kernel
theorem dX12_fieldsOf_1 : decode cX12_fieldsOf 1 = .ok (.istore_n 2, 1) := by decide +kernel
theorem dX12_fieldsOf_2 : decode cX12_fieldsOf 2 = .ok (.iconst 0, 1) := by decide +kernel
theorem dX12_fieldsOf_3 : decode cX12_fieldsOf 3 = .ok (.istore_n 3, 1) := by decide +kernel
theorem dX12_fieldsOf_4 : decode cX12_fieldsOf 4 = .ok (.iload_n 3, 1) := by decide +kernel
theorem dX12_fieldsOf_5 : decode cX12_fieldsOf 5 = .ok (.aload_n 0, 1) := by decide +kernel
theorem dX12_fieldsOf_6 : decode cX12_fieldsOf 6 = .ok (.iload_n 1, 1) := by decide +kernel
theorem dX12_fieldsOf_7 : decode cX12_fieldsOf 7 = .ok (.invokevirtual 173, 3) := by decide +kernel
theorem dX12_fieldsOf_10 : decode cX12_fieldsOf 10 = .ok (.if_icmp .ge 20, 3) := by decide +kernel
theorem dX12_fieldsOf_13 : decode cX12_fieldsOf 13 = .ok (.iload_n 2, 1) := by decide +kernel
theorem dX12_fieldsOf_14 : decode cX12_fieldsOf 14 = .ok (.iconst 1, 1) := by decide +kernel
theorem dX12_fieldsOf_15 : decode cX12_fieldsOf 15 = .ok (.aload_n 0, 1) := by decide +kernel
theorem dX12_fieldsOf_16 : decode cX12_fieldsOf 16 = .ok (.iload_n 1, 1) := by decide +kernel
theorem dX12_fieldsOf_17 : decode cX12_fieldsOf 17 = .ok (.iload_n 3, 1) := by decide +kernel
theorem dX12_fieldsOf_18 : decode cX12_fieldsOf 18 = .ok (.invokevirtual 177, 3) := by decide +kernel
theorem dX12_fieldsOf_21 : decode cX12_fieldsOf 21 = .ok (.ishl, 1) := by decide +kernel
theorem dX12_fieldsOf_22 : decode cX12_fieldsOf 22 = .ok (.ior, 1) := by decide +kernel
theorem dX12_fieldsOf_23 : decode cX12_fieldsOf 23 = .ok (.istore_n 2, 1) := by decide +kernel
theorem dX12_fieldsOf_24 : decode cX12_fieldsOf 24 = .ok (.iinc 3 1, 3) := by decide +kernel
theorem dX12_fieldsOf_27 : decode cX12_fieldsOf 27 = .ok (.goto (-23), 3) := by decide +kernel
theorem dX12_fieldsOf_30 : decode cX12_fieldsOf 30 = .ok (.iload_n 2, 1) := by decide +kernel
theorem dX12_fieldsOf_31 : decode cX12_fieldsOf 31 = .ok (.ireturn, 1) := by decide +kernel
set_option maxRecDepth 20000 in
theorem ggX12_templateFields_X12_fieldsOf : GoodIn wsX12_templateFields wsX12_fieldsOf := goodIn_ca (goodIn_r _ [18, 19, 20, 21, 5, 22, 7, 23, 24, 25, 26, 27, 28, 29, 30, 31, 32, 33, 34, 35, 36, 37, 38, 39, 40, 41, 42, 43, 44, 45, 46, 47, 48, 49, 50, 51, 52, 53, 54, 55, 56, 57, 58, 59, 60, 61, 62, 63, 64, 65, 66, 67, 68, 69, 70, 71, 72, 73, 74, 75, 76, 77, 78, 79, 80] (by decide +kernel) (by decide +kernel)) (goodIn_sub (fun _ h => List.mem_cons_of_mem _ (List.mem_append_right _ h)) (by decide +kernel))
set_option maxRecDepth 20000 in
theorem gX12_templateFields_X12_fieldsOf : GoodIn wsX12_templateFields (wsV RX12 189 RX12 yX12_fieldsOf wsX12_fieldsOf) := goodIn_app (goodIn_of _ (by decide +kernel)) ggX12_templateFields_X12_fieldsOf
theorem dX12_templateFields_18 : decode cX12_templateFields 18 = .ok (.iconst 0, 1) := by decide +kernel
theorem dX12_templateFields_30 : decode cX12_templateFields 30 = .ok (.aload_n 0, 1) := by decide +kernel
theorem dX12_templateFields_31 : decode cX12_templateFields 31 = .ok (.iload_n 1, 1) := by decide +kernel
theorem dX12_templateFields_32 : decode cX12_templateFields 32 = .ok (.invokevirtual 189, 3) := by decide +kernel
set_option maxRecDepth 20000 in
theorem ggX12_effective_X12_fieldsOf : GoodIn wsX12_effective wsX12_fieldsOf := goodIn_ca (goodIn_r _ [6, 7, 8, 9, 5, 10, 1, 11, 12, 13, 14, 15, 16, 17, 18, 19, 20, 21, 22, 23, 24, 25, 26, 27, 28, 29, 30, 31, 32, 33, 34, 35, 36, 37, 38, 39, 40, 41, 42, 43, 44, 45, 46, 47, 48, 49, 50, 51, 52, 53, 54, 55, 56, 57, 58, 59, 60, 61, 62, 63, 64, 65, 66, 67, 68] (by decide +kernel) (by decide +kernel)) (goodIn_sub (fun _ h => List.mem_cons_of_mem _ (List.mem_append_right _ h)) (by decide +kernel))
set_option maxRecDepth 20000 in
theorem gX12_effective_X12_fieldsOf : GoodIn wsX12_effective (wsV RX12 189 RX12 yX12_fieldsOf wsX12_fieldsOf) := goodIn_app (goodIn_of _ (by decide +kernel)) ggX12_effective_X12_fieldsOf
theorem dX12_effective_0 : decode cX12_effective 0 = .ok (.aload_n 0, 1) := by decide +kernel
theorem dX12_effective_1 : decode cX12_effective 1 = .ok (.iload_n 1, 1) := by decide +kernel
theorem dX12_effective_2 : decode cX12_effective 2 = .ok (.invokevirtual 189, 3) := by decide +kernel
theorem dX12_effective_5 : decode cX12_effective 5 = .ok (.aload_n 0, 1) := by decide +kernel
theorem dX12_effective_6 : decode cX12_effective 6 = .ok (.getfield 17, 3) := by decide +kernel
theorem dX12_effective_9 : decode cX12_effective 9 = .ok (.bipush 9, 2) := by decide +kernel
theorem dX12_effective_11 : decode cX12_effective 11 = .ok (.iaload, 1) := by decide +kernel
theorem dX12_effective_12 : decode cX12_effective 12 = .ok (.iand, 1) := by decide +kernel
theorem dX12_effective_13 : decode cX12_effective 13 = .ok (.ireturn, 1) := by decide +kernel
set_option maxRecDepth 20000 in
theorem ggX12_effectiveFields_X12_effective : GoodIn wsX12_effectiveFields wsX12_effective := goodIn_ca (goodIn_r _ [18, 7, 19, 20, 21, 5, 22, 23, 24, 25, 26, 27, 28, 29, 30, 31, 32, 33, 34, 35, 36, 37, 38, 39, 40, 41, 42, 43, 44, 45, 46, 47, 48, 49, 50, 51, 52, 53, 54, 55, 56, 57, 58, 59, 60, 61, 62, 63, 64, 65, 66, 67, 68, 69, 70, 71, 72, 73, 74, 75, 76, 77, 78, 79, 80, 81, 82, 83, 84] (by decide +kernel) (by decide +kernel)) (goodIn_sub (fun _ h => List.mem_cons_of_mem _ (List.mem_append_right _ h)) (by decide +kernel))
set_option maxRecDepth 20000 in
theorem gX12_effectiveFields_X12_effective : GoodIn wsX12_effectiveFields (wsV RX12 192 RX12 yX12_effective wsX12_effective) := goodIn_app (goodIn_of _ (by decide +kernel)) ggX12_effectiveFields_X12_effective
theorem dX12_effectiveFields_18 : decode cX12_effectiveFields 18 = .ok (.iconst 0, 1) := by decide +kernel
theorem dX12_effectiveFields_30 : decode cX12_effectiveFields 30 = .ok (.aload_n 0, 1) := by decide +kernel
theorem dX12_effectiveFields_31 : decode cX12_effectiveFields 31 = .ok (.iload_n 1, 1) := by decide +kernel
theorem dX12_effectiveFields_32 : decode cX12_effectiveFields 32 = .ok (.invokevirtual 192, 3) := by decide +kernel
set_option maxRecDepth 20000 in
theorem ggX12_recordLengthOf_X12_effective : GoodIn wsX12_recordLengthOf wsX12_effective := goodIn_ca (goodIn_r _ [5, 6, 7, 8, 9, 4, 10, 11, 12, 13, 14, 15, 16, 17, 18, 22, 23, 24, 25, 26, 27, 28, 29, 30, 31, 32, 33, 34, 35, 36, 37, 38, 39, 40, 41, 42, 43, 44, 45, 46, 47, 48, 49, 50, 51, 52, 53, 54, 55, 56, 57, 58, 59, 60, 61, 62, 63, 64, 65, 66, 67, 68, 69, 70, 71, 72, 73, 74, 75] (by decide +kernel) (by decide +kernel)) (goodIn_sub (fun _ h => List.mem_cons_of_mem _ (List.mem_append_right _ h)) (by decide +kernel))
set_option maxRecDepth 20000 in
theorem gX12_recordLengthOf_X12_effective : GoodIn wsX12_recordLengthOf (wsV RX12 192 RX12 yX12_effective wsX12_effective) := goodIn_app (goodIn_of _ (by decide +kernel)) ggX12_recordLengthOf_X12_effective
set_option maxRecDepth 20000 in
theorem ggX12_recordLengthOf_X12_lengthOf : GoodIn wsX12_recordLengthOf wsX12_lengthOf := goodIn_r _ [21] (by decide +kernel) (by decide +kernel)
set_option maxRecDepth 20000 in
theorem gX12_recordLengthOf_X12_lengthOf : GoodIn wsX12_recordLengthOf (va_wsS RX12 195 yX12_lengthOf wsX12_lengthOf) := goodIn_app (goodIn_of _ (by decide +kernel)) ggX12_recordLengthOf_X12_lengthOf
theorem dX12_recordLengthOf_0 : decode cX12_recordLengthOf 0 = .ok (.iconst 0, 1) := by decide +kernel
theorem dX12_recordLengthOf_1 : decode cX12_recordLengthOf 1 = .ok (.istore_n 2, 1) := by decide +kernel
theorem dX12_recordLengthOf_2 : decode cX12_recordLengthOf 2 = .ok (.iconst 0, 1) := by decide +kernel
theorem dX12_recordLengthOf_3 : decode cX12_recordLengthOf 3 = .ok (.istore_n 3, 1) := by decide +kernel
theorem dX12_recordLengthOf_4 : decode cX12_recordLengthOf 4 = .ok (.iload_n 3, 1) := by decide +kernel
theorem dX12_recordLengthOf_5 : decode cX12_recordLengthOf 5 = .ok (.bipush 9, 2) := by decide +kernel
theorem dX12_recordLengthOf_7 : decode cX12_recordLengthOf 7 = .ok (.if_icmp .ge 29, 3) := by decide +kernel
theorem dX12_recordLengthOf_10 : decode cX12_recordLengthOf 10 = .ok (.aload_n 0, 1) := by decide +kernel
theorem dX12_recordLengthOf_11 : decode cX12_recordLengthOf 11 = .ok (.iload_n 1, 1) := by decide +kernel
theorem dX12_recordLengthOf_12 : decode cX12_recordLengthOf 12 = .ok (.invokevirtual 192, 3) := by decide +kernel
theorem dX12_recordLengthOf_15 : decode cX12_recordLengthOf 15 = .ok (.iload_n 3, 1) := by decide +kernel
theorem dX12_recordLengthOf_16 : decode cX12_recordLengthOf 16 = .ok (.ishr, 1) := by decide +kernel
theorem dX12_recordLengthOf_17 : decode cX12_recordLengthOf 17 = .ok (.iconst 1, 1) := by decide +kernel
theorem dX12_recordLengthOf_18 : decode cX12_recordLengthOf 18 = .ok (.iand, 1) := by decide +kernel
theorem dX12_recordLengthOf_19 : decode cX12_recordLengthOf 19 = .ok (.iconst 1, 1) := by decide +kernel
theorem dX12_recordLengthOf_20 : decode cX12_recordLengthOf 20 = .ok (.if_icmp .ne 10, 3) := by decide +kernel
theorem dX12_recordLengthOf_23 : decode cX12_recordLengthOf 23 = .ok (.iload_n 2, 1) := by decide +kernel
theorem dX12_recordLengthOf_24 : decode cX12_recordLengthOf 24 = .ok (.iload_n 3, 1) := by decide +kernel
theorem dX12_recordLengthOf_25 : decode cX12_recordLengthOf 25 = .ok (.invokestatic 195, 3) := by decide +kernel
theorem dX12_recordLengthOf_28 : decode cX12_recordLengthOf 28 = .ok (.iadd, 1) := by decide +kernel
theorem dX12_recordLengthOf_29 : decode cX12_recordLengthOf 29 = .ok (.istore_n 2, 1) := by decide +kernel
theorem dX12_recordLengthOf_30 : decode cX12_recordLengthOf 30 = .ok (.iinc 3 1, 3) := by decide +kernel
theorem dX12_recordLengthOf_33 : decode cX12_recordLengthOf 33 = .ok (.goto (-29), 3) := by decide +kernel
theorem dX12_recordLengthOf_36 : decode cX12_recordLengthOf 36 = .ok (.iload_n 2, 1) := by decide +kernel
theorem dX12_recordLengthOf_37 : decode cX12_recordLengthOf 37 = .ok (.ireturn, 1) := by decide +kernel
set_option maxRecDepth 20000 in
theorem ggX12_recordLength_X12_recordLengthOf : GoodIn wsX12_recordLength wsX12_recordLengthOf := goodIn_ca (goodIn_r _ [18, 19, 20, 21, 5, 22, 7, 23, 24, 25, 26, 27, 28, 29, 30, 31, 32, 33, 34, 35, 36, 37, 38, 39, 40, 41, 42, 43, 44, 45, 46, 47, 48, 49, 50, 51, 52, 53, 54, 55, 56, 57, 58, 59, 60, 61, 62, 63, 64, 65, 66, 67, 68, 69, 70, 71, 72, 73, 74, 75, 76, 77, 78, 79, 80, 81, 82, 83, 84, 85, 86, 87, 88, 89, 90, 91] (by decide +kernel) (by decide +kernel)) (goodIn_sub (fun _ h => List.mem_cons_of_mem _ (List.mem_append_right _ h)) (by decide +kernel))
set_option maxRecDepth 20000 in
theorem gX12_recordLength_X12_recordLengthOf : GoodIn wsX12_recordLength (wsV RX12 198 RX12 yX12_recordLengthOf wsX12_recordLengthOf) := goodIn_app (goodIn_of _ (by decide +kernel)) ggX12_recordLength_X12_recordLengthOf
theorem dX12_recordLength_18 : decode cX12_recordLength 18 = .ok (.iconst 0, 1) := by decide +kernel
theorem dX12_recordLength_30 : decode cX12_recordLength 30 = .ok (.aload_n 0, 1) := by decide +kernel
theorem dX12_recordLength_31 : decode cX12_recordLength 31 = .ok (.iload_n 1, 1) := by decide +kernel
theorem dX12_recordLength_32 : decode cX12_recordLength 32 = .ok (.invokevirtual 198, 3) := by decide +kernel
set_option maxRecDepth 20000 in
theorem ggX12_due_X12_effective : GoodIn wsX12_due wsX12_effective := goodIn_ca (goodIn_r _ [10, 3, 11, 12, 13, 9, 14, 15, 16, 17, 18, 19, 20, 21, 22, 23, 24, 25, 26, 27, 28, 29, 30, 31, 32, 33, 34, 35, 36, 37, 38, 39, 40, 41, 42, 43, 44, 45, 46, 47, 48, 49, 50, 51, 52, 53, 54, 55, 56, 57, 58, 59, 60, 61, 62, 63, 64, 65, 66, 67, 68, 69, 70, 71, 72, 73, 74, 75, 76] (by decide +kernel) (by decide +kernel)) (goodIn_sub (fun _ h => List.mem_cons_of_mem _ (List.mem_append_right _ h)) (by decide +kernel))
set_option maxRecDepth 20000 in
theorem gX12_due_X12_effective : GoodIn wsX12_due (wsV RX12 192 RX12 yX12_effective wsX12_effective) := goodIn_app (goodIn_of _ (by decide +kernel)) ggX12_due_X12_effective
theorem dX12_due_0 : decode cX12_due 0 = .ok (.aload_n 0, 1) := by decide +kernel
theorem dX12_due_1 : decode cX12_due 1 = .ok (.iload_n 1, 1) := by decide +kernel
theorem dX12_due_2 : decode cX12_due 2 = .ok (.invokevirtual 192, 3) := by decide +kernel
theorem dX12_due_5 : decode cX12_due 5 = .ok (.ifCond .ne 5, 3) := by decide +kernel
theorem dX12_due_10 : decode cX12_due 10 = .ok (.aload_n 0, 1) := by decide +kernel
theorem dX12_due_11 : decode cX12_due 11 = .ok (.getfield 20, 3) := by decide +kernel
theorem dX12_due_14 : decode cX12_due 14 = .ok (.iload_n 1, 1) := by decide +kernel
theorem dX12_due_15 : decode cX12_due 15 = .ok (.iaload, 1) := by decide +kernel
theorem dX12_due_16 : decode cX12_due 16 = .ok (.iconst (-1), 1) := by decide +kernel
theorem dX12_due_17 : decode cX12_due 17 = .ok (.if_icmp .eq 45, 3) := by decide +kernel
theorem dX12_due_62 : decode cX12_due 62 = .ok (.iconst 1, 1) := by decide +kernel
theorem dX12_due_63 : decode cX12_due 63 = .ok (.goto 4, 3) := by decide +kernel
theorem dX12_due_67 : decode cX12_due 67 = .ok (.ireturn, 1) := by decide +kernel
set_option maxRecDepth 20000 in
theorem ggX12_isDue_X12_due : GoodIn wsX12_isDue wsX12_due := goodIn_ca (goodIn_r _ [18, 19, 20, 7, 21, 22, 23, 24, 25, 5, 26, 27, 28, 29, 30, 31, 32, 33, 34, 35, 36, 37, 38, 39, 40, 41, 42, 43, 44, 45, 46, 47, 48, 49, 50, 51, 52, 53, 54, 55, 56, 57, 58, 59, 60, 61, 62, 63, 64, 65, 66, 67, 68, 69, 70, 71, 72, 73, 74, 75, 76, 77, 78, 79, 80, 81, 82, 83, 84, 85, 86, 87, 88, 89, 90, 91, 92] (by decide +kernel) (by decide +kernel)) (goodIn_sub (fun _ h => List.mem_cons_of_mem _ (List.mem_append_right _ h)) (by decide +kernel))
set_option maxRecDepth 20000 in
theorem gX12_isDue_X12_due : GoodIn wsX12_isDue (wsV RX12 209 RX12 yX12_due wsX12_due) := goodIn_app (goodIn_of _ (by decide +kernel)) ggX12_isDue_X12_due
theorem dX12_isDue_18 : decode cX12_isDue 18 = .ok (.iconst 0, 1) := by decide +kernel
theorem dX12_isDue_26 : decode cX12_isDue 26 = .ok (.aload_n 0, 1) := by decide +kernel
theorem dX12_isDue_27 : decode cX12_isDue 27 = .ok (.iload_n 1, 1) := by decide +kernel
theorem dX12_isDue_28 : decode cX12_isDue 28 = .ok (.invokevirtual 209, 3) := by decide +kernel
theorem dX12_isDue_31 : decode cX12_isDue 31 = .ok (.ifCond .eq 7, 3) := by decide +kernel
theorem dX12_isDue_34 : decode cX12_isDue 34 = .ok (.iconst 1, 1) := by decide +kernel
theorem dX12_isDue_35 : decode cX12_isDue 35 = .ok (.goto 4, 3) := by decide +kernel
theorem dX12_exportAll_0 : decode cX12_exportAll 0 = .ok (.aload_n 0, 1) := by decide +kernel
theorem dX12_exportAll_1 : decode cX12_exportAll 1 = .ok (.getfield 133, 3) := by decide +kernel
theorem dX12_exportAll_4 : decode cX12_exportAll 4 = .ok (.istore_n 1, 1) := by decide +kernel
theorem dX12_exportAll_5 : decode cX12_exportAll 5 = .ok (.aload_n 0, 1) := by decide +kernel
theorem dX12_exportAll_6 : decode cX12_exportAll 6 = .ok (.getfield 133, 3) := by decide +kernel
theorem dX12_exportAll_9 : decode cX12_exportAll 9 = .ok (.ifCond .le 11, 3) := by decide +kernel
theorem dX12_exportAll_20 : decode cX12_exportAll 20 = .ok (.iload_n 1, 1) := by decide +kernel
theorem dX12_exportAll_21 : decode cX12_exportAll 21 = .ok (.ireturn, 1) := by decide +kernel
set_option maxRecDepth 20000 in
theorem ggX12_changeRate_X12_exportAll : GoodIn wsX12_changeRate wsX12_exportAll := goodIn_ca (goodIn_r _ [6, 7, 8, 9, 10, 5, 11, 12, 13, 14, 15, 16, 17, 18, 19, 20, 21, 22, 23, 24, 25, 26, 27, 28, 29, 30, 31, 32, 33, 34, 35, 36, 37, 38, 39, 40, 41, 42, 43, 44, 45, 46, 47, 48, 49, 50, 1, 51, 52, 53, 54, 55, 56, 57, 58, 59, 60, 61, 62, 63, 64, 65, 66, 67, 68, 69, 70, 71, 72, 73, 74, 75, 76, 77, 78, 79, 80, 81, 82, 83, 84, 85, 86, 87, 88, 89, 90, 91, 92, 93, 94, 95, 96, 97, 98, 99, 100, 101, 102, 103, 104, 105, 106, 107, 108, 109, 110, 111, 112, 113, 114, 115, 116] (by decide +kernel) (by decide +kernel)) (goodIn_sub (fun _ h => List.mem_cons_of_mem _ (List.mem_append_right _ h)) (by decide +kernel))
set_option maxRecDepth 20000 in
theorem gX12_changeRate_X12_exportAll : GoodIn wsX12_changeRate (wsV RX12 259 RX12 yX12_exportAll wsX12_exportAll) := goodIn_app (goodIn_of _ (by decide +kernel)) ggX12_changeRate_X12_exportAll
theorem dX12_changeRate_0 : decode cX12_changeRate 0 = .ok (.iload_n 1, 1) := by decide +kernel
theorem dX12_changeRate_1 : decode cX12_changeRate 1 = .ok (.aload_n 0, 1) := by decide +kernel
theorem dX12_changeRate_2 : decode cX12_changeRate 2 = .ok (.getfield 107, 3) := by decide +kernel
theorem dX12_changeRate_5 : decode cX12_changeRate 5 = .ok (.if_icmp .ne 5, 3) := by decide +kernel
theorem dX12_changeRate_10 : decode cX12_changeRate 10 = .ok (.aload_n 0, 1) := by decide +kernel
theorem dX12_changeRate_11 : decode cX12_changeRate 11 = .ok (.invokevirtual 259, 3) := by decide +kernel
theorem dX12_changeRate_14 : decode cX12_changeRate 14 = .ok (.istore_n 2, 1) := by decide +kernel
theorem dX12_changeRate_15 : decode cX12_changeRate 15 = .ok (.aload_n 0, 1) := by decide +kernel
theorem dX12_changeRate_16 : decode cX12_changeRate 16 = .ok (.iload_n 1, 1) := by decide +kernel
theorem dX12_changeRate_17 : decode cX12_changeRate 17 = .ok (.putfield 107, 3) := by decide +kernel
theorem dX12_changeRate_20 : decode cX12_changeRate 20 = .ok (.iload_n 2, 1) := by decide +kernel
theorem dX12_changeRate_21 : decode cX12_changeRate 21 = .ok (.ireturn, 1) := by decide +kernel
set_option maxRecDepth 20000 in
theorem ggX12_setRate_X12_inRange : GoodIn wsX12_setRate wsX12_inRange := goodIn_r _ [6] (by decide +kernel) (by decide +kernel)
set_option maxRecDepth 20000 in
theorem gX12_setRate_X12_inRange : GoodIn wsX12_setRate (va_wsS RX12 169 yX12_inRange wsX12_inRange) := goodIn_app (goodIn_of _ (by decide +kernel)) ggX12_setRate_X12_inRange
theorem dX12_setRate_0 : decode cX12_setRate 0 = .ok (.aload_n 0, 1) := by decide +kernel
theorem dX12_setRate_1 : decode cX12_setRate 1 = .ok (.iconst 0, 1) := by decide +kernel
theorem dX12_setRate_2 : decode cX12_setRate 2 = .ok (.putfield 1, 3) := by decide +kernel
theorem dX12_setRate_5 : decode cX12_setRate 5 = .ok (.iload_n 1, 1) := by decide +kernel
theorem dX12_setRate_6 : decode cX12_setRate 6 = .ok (.i2l, 1) := by decide +kernel
theorem dX12_setRate_7 : decode cX12_setRate 7 = .ok (.lconst 1, 1) := by decide +kernel
theorem dX12_setRate_8 : decode cX12_setRate 8 = .ok (.ldc2_w 263, 3) := by decide +kernel
theorem dX12_setRate_11 : decode cX12_setRate 11 = .ok (.invokestatic 169, 3) := by decide +kernel
theorem dX12_setRate_14 : decode cX12_setRate 14 = .ok (.ifCond .ne 5, 3) := by decide +kernel
theorem dX12_setRate_17 : decode cX12_setRate 17 = .ok (.iconst (-1), 1) := by decide +kernel
theorem dX12_setRate_18 : decode cX12_setRate 18 = .ok (.ireturn, 1) := by decide +kernel
set_option maxRecDepth 20000 in
theorem ggX12_flush_X12_exportAll : GoodIn wsX12_flush wsX12_exportAll := goodIn_ca (goodIn_r _ [6, 7, 8, 9, 10, 5, 11, 12, 13, 14, 15, 16, 17, 18, 19, 20, 21, 22, 23, 24, 25, 26, 27, 28, 29, 30, 31, 32, 33, 34, 35, 36, 37, 38, 39, 40, 41, 42, 43, 44, 45, 46, 47, 48, 49, 50, 51, 52, 53, 54, 55, 56, 57, 58, 59, 60, 61, 62, 63, 118, 119, 120, 121, 122, 123, 124, 125, 126, 127, 128, 129, 130, 131, 132, 133, 134, 135, 136, 137, 138, 139, 140, 141, 142, 143, 144, 145, 146, 147, 148, 149, 150, 151, 152, 153, 154, 155, 156, 157, 158, 159, 160, 161, 162, 163, 164, 165, 166, 167, 168, 169, 170, 171] (by decide +kernel) (by decide +kernel)) (goodIn_sub (fun _ h => List.mem_cons_of_mem _ (List.mem_append_right _ h)) (by decide +kernel))
set_option maxRecDepth 20000 in
theorem gX12_flush_X12_exportAll : GoodIn wsX12_flush (wsV RX12 259 RX12 yX12_exportAll wsX12_exportAll) := goodIn_app (goodIn_of _ (by decide +kernel)) ggX12_flush_X12_exportAll
set_option maxRecDepth 20000 in
theorem ggX12_flush_X12_sendPending : GoodIn wsX12_flush wsX12_sendPending := goodIn_ca (goodIn_r _ [67, 36, 68, 69, 70, 71, 72, 73, 74, 75, 76, 77, 5, 78, 79, 38, 80, 81, 82, 83, 12, 84, 85, 86, 87, 88, 89, 90, 16, 17, 18, 19, 20, 21, 22, 23, 24, 25, 26, 27, 28, 29, 30, 31, 91, 92, 93, 94, 95, 96, 97, 40, 41, 42, 43, 44, 45, 46, 98, 99, 100, 101, 102, 103, 104, 105, 39, 37, 106, 107, 108, 109, 110, 111, 112, 113, 114, 115, 116, 117, 118, 119, 120, 121, 122, 123, 124, 125, 126, 127, 128, 129, 130, 131, 132, 133, 134, 135, 136, 137, 138, 139, 140, 141, 142, 143, 144, 145, 146, 147, 148, 149, 150, 151, 152, 153, 154, 155, 156, 157, 158, 159, 160, 161, 162, 163, 164, 165, 166, 167, 168, 169, 170, 171] (by decide +kernel) (by decide +kernel)) (goodIn_sub (fun _ h => List.mem_cons_of_mem _ (List.mem_append_right _ h)) (by decide +kernel))
set_option maxRecDepth 20000 in
theorem gX12_flush_X12_sendPending : GoodIn wsX12_flush (wsV RX12 254 RX12 yX12_sendPending wsX12_sendPending) := goodIn_app (goodIn_of _ (by decide +kernel)) ggX12_flush_X12_sendPending
theorem dX12_flush_0 : decode cX12_flush 0 = .ok (.aload_n 0, 1) := by decide +kernel
theorem dX12_flush_1 : decode cX12_flush 1 = .ok (.iconst 0, 1) := by decide +kernel
theorem dX12_flush_2 : decode cX12_flush 2 = .ok (.putfield 1, 3) := by decide +kernel
theorem dX12_flush_5 : decode cX12_flush 5 = .ok (.aload_n 0, 1) := by decide +kernel
theorem dX12_flush_6 : decode cX12_flush 6 = .ok (.invokevirtual 259, 3) := by decide +kernel
theorem dX12_flush_9 : decode cX12_flush 9 = .ok (.istore_n 1, 1) := by decide +kernel
theorem dX12_flush_10 : decode cX12_flush 10 = .ok (.aload_n 0, 1) := by decide +kernel
theorem dX12_flush_11 : decode cX12_flush 11 = .ok (.invokevirtual 254, 3) := by decide +kernel
theorem dX12_flush_14 : decode cX12_flush 14 = .ok (.iload_n 1, 1) := by decide +kernel
theorem dX12_flush_15 : decode cX12_flush 15 = .ok (.ireturn, 1) := by decide +kernel
theorem dX12_sendPending_0 : decode cX12_sendPending 0 = .ok (.iconst 0, 1) := by decide +kernel
theorem dX12_sendPending_1 : decode cX12_sendPending 1 = .ok (.istore_n 1, 1) := by decide +kernel
theorem dX12_sendPending_2 : decode cX12_sendPending 2 = .ok (.iload_n 1, 1) := by decide +kernel
theorem dX12_sendPending_3 : decode cX12_sendPending 3 = .ok (.aload_n 0, 1) := by decide +kernel
theorem dX12_sendPending_4 : decode cX12_sendPending 4 = .ok (.getfield 136, 3) := by decide +kernel
theorem dX12_sendPending_7 : decode cX12_sendPending 7 = .ok (.if_icmp .ge 125, 3) := by decide +kernel
theorem dX12_sendPending_132 : decode cX12_sendPending 132 = .ok (.aload_n 0, 1) := by decide +kernel
theorem dX12_sendPending_133 : decode cX12_sendPending 133 = .ok (.iconst 0, 1) := by decide +kernel
theorem dX12_sendPending_134 : decode cX12_sendPending 134 = .ok (.putfield 136, 3) := by decide +kernel
theorem dX12_sendPending_137 : decode cX12_sendPending 137 = .ok (.return_, 1) := by decide +kernel
theorem dX12_keyOf_0 : decode cX12_keyOf 0 = .ok (.iconst 0, 1) := by decide +kernel
theorem dX12_keyOf_1 : decode cX12_keyOf 1 = .ok (.istore 9, 2) := by decide +kernel
theorem dX12_keyOf_3 : decode cX12_keyOf 3 = .ok (.iload 9, 2) := by decide +kernel
theorem dX12_keyOf_5 : decode cX12_keyOf 5 = .ok (.aload_n 0, 1) := by decide +kernel
theorem dX12_keyOf_6 : decode cX12_keyOf 6 = .ok (.getfield 148, 3) := by decide +kernel
theorem dX12_keyOf_9 : decode cX12_keyOf 9 = .ok (.if_icmp .ge 30, 3) := by decide +kernel
theorem dX12_keyOf_39 : decode cX12_keyOf 39 = .ok (.iconst (-1), 1) := by decide +kernel
theorem dX12_keyOf_40 : decode cX12_keyOf 40 = .ok (.ireturn, 1) := by decide +kernel
set_option maxRecDepth 20000 in
theorem ggX12_find_X12_keyOf : GoodIn wsX12_find wsX12_keyOf := goodIn_ca (goodIn_r _ [6, 7, 8, 9, 10, 5, 11, 12, 13, 14, 15, 16, 17, 18, 19, 20, 21, 22, 23, 24, 25, 26, 27, 28, 29, 30, 31, 32, 33, 34, 35, 36, 37, 38, 39, 40, 41, 42, 43, 44, 45, 46, 47, 48, 49, 50, 51, 52, 53, 54, 55, 56, 57, 58, 59, 60, 61, 62, 63, 64, 65] (by decide +kernel) (by decide +kernel)) (goodIn_sub (fun _ h => List.mem_cons_of_mem _ (List.mem_append_right _ h)) (by decide +kernel))
set_option maxRecDepth 20000 in
theorem gX12_find_X12_keyOf : GoodIn wsX12_find (wsV RX12 390 RX12 yX12_keyOf wsX12_keyOf) := goodIn_app (goodIn_of _ (by decide +kernel)) ggX12_find_X12_keyOf
theorem dX12_find_0 : decode cX12_find 0 = .ok (.aload_n 0, 1) := by decide +kernel
theorem dX12_find_1 : decode cX12_find 1 = .ok (.iconst 0, 1) := by decide +kernel
theorem dX12_find_2 : decode cX12_find 2 = .ok (.putfield 1, 3) := by decide +kernel
theorem dX12_find_5 : decode cX12_find 5 = .ok (.aload_n 0, 1) := by decide +kernel
theorem dX12_find_6 : decode cX12_find 6 = .ok (.iload_n 1, 1) := by decide +kernel
theorem dX12_find_7 : decode cX12_find 7 = .ok (.i2l, 1) := by decide +kernel
theorem dX12_find_8 : decode cX12_find 8 = .ok (.iload_n 2, 1) := by decide +kernel
theorem dX12_find_9 : decode cX12_find 9 = .ok (.i2l, 1) := by decide +kernel
theorem dX12_find_10 : decode cX12_find 10 = .ok (.iload_n 3, 1) := by decide +kernel
theorem dX12_find_11 : decode cX12_find 11 = .ok (.i2l, 1) := by decide +kernel
theorem dX12_find_12 : decode cX12_find 12 = .ok (.iload 4, 2) := by decide +kernel
theorem dX12_find_14 : decode cX12_find 14 = .ok (.i2l, 1) := by decide +kernel
theorem dX12_find_15 : decode cX12_find 15 = .ok (.invokevirtual 390, 3) := by decide +kernel
theorem dX12_find_18 : decode cX12_find 18 = .ok (.ireturn, 1) := by decide +kernel
theorem dX12_root_0 : decode cX12_root 0 = .ok (.dload_n 0, 1) := by decide +kernel
theorem dX12_root_1 : decode cX12_root 1 = .ok (.dconst 0, 1) := by decide +kernel
theorem dX12_root_2 : decode cX12_root 2 = .ok (.dcmp .l, 1) := by decide +kernel
theorem dX12_root_3 : decode cX12_root 3 = .ok (.ifCond .ne 5, 3) := by decide +kernel
theorem dX12_root_6 : decode cX12_root 6 = .ok (.dconst 0, 1) := by decide +kernel
theorem dX12_root_7 : decode cX12_root 7 = .ok (.dreturn, 1) := by decide +kernel
set_option maxRecDepth 20000 in
theorem ggX12_marginOf_X12_root : GoodIn wsX12_marginOf wsX12_root := goodIn_r _ [5, 6, 7, 8, 9, 10, 11, 12, 13, 14, 15, 16, 17, 18, 19, 20, 21, 22, 23, 24, 25] (by decide +kernel) (by decide +kernel)
set_option maxRecDepth 20000 in
theorem gX12_marginOf_X12_root : GoodIn wsX12_marginOf (va_wsS RX12 420 yX12_root wsX12_root) := goodIn_app (goodIn_of _ (by decide +kernel)) ggX12_marginOf_X12_root
theorem dX12_marginOf_0 : decode cX12_marginOf 0 = .ok (.ldc2_w 418, 3) := by decide +kernel
theorem dX12_marginOf_3 : decode cX12_marginOf 3 = .ok (.dload_n 0, 1) := by decide +kernel
theorem dX12_marginOf_4 : decode cX12_marginOf 4 = .ok (.invokestatic 420, 3) := by decide +kernel
theorem dX12_marginOf_7 : decode cX12_marginOf 7 = .ok (.dmul, 1) := by decide +kernel
theorem dX12_marginOf_8 : decode cX12_marginOf 8 = .ok (.dreturn, 1) := by decide +kernel
theorem dX12_trueKeyOf_0 : decode cX12_trueKeyOf 0 = .ok (.iconst 0, 1) := by decide +kernel
theorem dX12_trueKeyOf_1 : decode cX12_trueKeyOf 1 = .ok (.istore 5, 2) := by decide +kernel
theorem dX12_trueKeyOf_3 : decode cX12_trueKeyOf 3 = .ok (.iload 5, 2) := by decide +kernel
theorem dX12_trueKeyOf_5 : decode cX12_trueKeyOf 5 = .ok (.aload_n 0, 1) := by decide +kernel
theorem dX12_trueKeyOf_6 : decode cX12_trueKeyOf 6 = .ok (.getfield 145, 3) := by decide +kernel
theorem dX12_trueKeyOf_9 : decode cX12_trueKeyOf 9 = .ok (.if_icmp .ge 33, 3) := by decide +kernel
theorem dX12_trueKeyOf_42 : decode cX12_trueKeyOf 42 = .ok (.iconst (-1), 1) := by decide +kernel
theorem dX12_trueKeyOf_43 : decode cX12_trueKeyOf 43 = .ok (.ireturn, 1) := by decide +kernel
set_option maxRecDepth 20000 in
theorem ggX12_truthOf_X12_trueKeyOf : GoodIn wsX12_truthOf wsX12_trueKeyOf := goodIn_ca (goodIn_r _ [6, 7, 8, 9, 10, 5, 11, 12, 13, 14, 15, 16, 17, 18, 19, 20, 21, 22, 23, 24, 25, 26, 27, 28, 29, 30, 31, 32, 33, 34, 35, 36, 37, 38, 39, 40, 41, 42, 43, 44, 45, 46, 47, 48, 49, 50, 51, 52, 53, 54, 55, 56, 57, 58, 59, 60, 61, 62, 63, 64, 65] (by decide +kernel) (by decide +kernel)) (goodIn_sub (fun _ h => List.mem_cons_of_mem _ (List.mem_append_right _ h)) (by decide +kernel))
set_option maxRecDepth 20000 in
theorem gX12_truthOf_X12_trueKeyOf : GoodIn wsX12_truthOf (wsV RX12 434 RX12 yX12_trueKeyOf wsX12_trueKeyOf) := goodIn_app (goodIn_of _ (by decide +kernel)) ggX12_truthOf_X12_trueKeyOf
theorem dX12_truthOf_0 : decode cX12_truthOf 0 = .ok (.aload_n 0, 1) := by decide +kernel
theorem dX12_truthOf_1 : decode cX12_truthOf 1 = .ok (.iload_n 1, 1) := by decide +kernel
theorem dX12_truthOf_2 : decode cX12_truthOf 2 = .ok (.iload_n 2, 1) := by decide +kernel
theorem dX12_truthOf_3 : decode cX12_truthOf 3 = .ok (.iload_n 3, 1) := by decide +kernel
theorem dX12_truthOf_4 : decode cX12_truthOf 4 = .ok (.iload 4, 2) := by decide +kernel
theorem dX12_truthOf_6 : decode cX12_truthOf 6 = .ok (.invokevirtual 434, 3) := by decide +kernel
theorem dX12_truthOf_9 : decode cX12_truthOf 9 = .ok (.istore 6, 2) := by decide +kernel
theorem dX12_truthOf_11 : decode cX12_truthOf 11 = .ok (.iload 6, 2) := by decide +kernel
theorem dX12_truthOf_13 : decode cX12_truthOf 13 = .ok (.iconst (-1), 1) := by decide +kernel
theorem dX12_truthOf_14 : decode cX12_truthOf 14 = .ok (.if_icmp .ne 7, 3) := by decide +kernel
theorem dX12_truthOf_17 : decode cX12_truthOf 17 = .ok (.lconst 0, 1) := by decide +kernel
theorem dX12_truthOf_18 : decode cX12_truthOf 18 = .ok (.goto 15, 3) := by decide +kernel
theorem dX12_truthOf_33 : decode cX12_truthOf 33 = .ok (.lreturn, 1) := by decide +kernel
set_option maxRecDepth 20000 in
theorem ggX12_truth_X12_truthOf : GoodIn wsX12_truth wsX12_truthOf := goodIn_ca (goodIn_r _ [16, 17, 18, 19, 20, 4, 21, 22, 23, 24, 25, 26, 27, 28, 29, 30, 31, 32, 33, 34, 35, 36, 37, 38, 39, 40, 41, 42, 43, 44, 45, 46, 47, 48, 49, 50, 51, 52, 53, 54, 55, 56, 57, 58, 59, 60, 61, 62, 63, 64, 65, 66, 67, 68, 69, 70, 71, 72, 73, 74, 75, 76, 77, 78, 79, 80] (by decide +kernel) (by decide +kernel)) (goodIn_sub (fun _ h => List.mem_cons_of_mem _ (List.mem_append_right _ h)) (by decide +kernel))
set_option maxRecDepth 20000 in
theorem gX12_truth_X12_truthOf : GoodIn wsX12_truth (wsV RX12 437 RX12 yX12_truthOf wsX12_truthOf) := goodIn_app (goodIn_of _ (by decide +kernel)) ggX12_truth_X12_truthOf
theorem dX12_truth_18 : decode cX12_truth 18 = .ok (.iconst 0, 1) := by decide +kernel
theorem dX12_truth_30 : decode cX12_truth 30 = .ok (.aload_n 0, 1) := by decide +kernel
theorem dX12_truth_31 : decode cX12_truth 31 = .ok (.iload_n 1, 1) := by decide +kernel
theorem dX12_truth_32 : decode cX12_truth 32 = .ok (.iload_n 2, 1) := by decide +kernel
theorem dX12_truth_33 : decode cX12_truth 33 = .ok (.iload_n 3, 1) := by decide +kernel
theorem dX12_truth_34 : decode cX12_truth 34 = .ok (.iload 4, 2) := by decide +kernel
theorem dX12_truth_36 : decode cX12_truth 36 = .ok (.iload 5, 2) := by decide +kernel
theorem dX12_truth_38 : decode cX12_truth 38 = .ok (.invokevirtual 437, 3) := by decide +kernel
theorem dX12_covered_17 : decode cX12_covered 17 = .ok (.iconst 0, 1) := by decide +kernel
theorem dX12_covered_27 : decode cX12_covered 27 = .ok (.iconst 0, 1) := by decide +kernel
theorem dX12_covered_28 : decode cX12_covered 28 = .ok (.istore_n 2, 1) := by decide +kernel
theorem dX12_covered_29 : decode cX12_covered 29 = .ok (.iconst 0, 1) := by decide +kernel
theorem dX12_covered_30 : decode cX12_covered 30 = .ok (.istore_n 3, 1) := by decide +kernel
theorem dX12_covered_31 : decode cX12_covered 31 = .ok (.iload_n 3, 1) := by decide +kernel
theorem dX12_covered_32 : decode cX12_covered 32 = .ok (.aload_n 0, 1) := by decide +kernel
theorem dX12_covered_33 : decode cX12_covered 33 = .ok (.getfield 148, 3) := by decide +kernel
theorem dX12_covered_36 : decode cX12_covered 36 = .ok (.if_icmp .ge 87, 3) := by decide +kernel
theorem dX12_covered_123 : decode cX12_covered 123 = .ok (.iload_n 2, 1) := by decide +kernel
theorem dX12_covered_124 : decode cX12_covered 124 = .ok (.ireturn, 1) := by decide +kernel
theorem dX12_totalEstimate_17 : decode cX12_totalEstimate 17 = .ok (.iconst 0, 1) := by decide +kernel
theorem dX12_totalEstimate_27 : decode cX12_totalEstimate 27 = .ok (.lconst 0, 1) := by decide +kernel
theorem dX12_totalEstimate_28 : decode cX12_totalEstimate 28 = .ok (.lstore_n 2, 1) := by decide +kernel
theorem dX12_totalEstimate_29 : decode cX12_totalEstimate 29 = .ok (.iconst 0, 1) := by decide +kernel
theorem dX12_totalEstimate_30 : decode cX12_totalEstimate 30 = .ok (.istore 4, 2) := by decide +kernel
theorem dX12_totalEstimate_32 : decode cX12_totalEstimate 32 = .ok (.iload 4, 2) := by decide +kernel
theorem dX12_totalEstimate_34 : decode cX12_totalEstimate 34 = .ok (.aload_n 0, 1) := by decide +kernel
theorem dX12_totalEstimate_35 : decode cX12_totalEstimate 35 = .ok (.getfield 148, 3) := by decide +kernel
theorem dX12_totalEstimate_38 : decode cX12_totalEstimate 38 = .ok (.if_icmp .ge 23, 3) := by decide +kernel
theorem dX12_totalEstimate_61 : decode cX12_totalEstimate 61 = .ok (.lload_n 2, 1) := by decide +kernel
theorem dX12_totalEstimate_62 : decode cX12_totalEstimate 62 = .ok (.lreturn, 1) := by decide +kernel
set_option maxRecDepth 20000 in
theorem ggX12_totalMargin_X12_marginOf : GoodIn wsX12_totalMargin wsX12_marginOf := goodIn_r _ [17, 18, 19, 20, 6, 21, 22, 23, 24, 25, 26, 27, 28, 29, 30, 31, 32, 33, 34, 35, 36, 37, 38, 39, 40, 41] (by decide +kernel) (by decide +kernel)
set_option maxRecDepth 20000 in
theorem gX12_totalMargin_X12_marginOf : GoodIn wsX12_totalMargin (va_wsS RX12 424 yX12_marginOf wsX12_marginOf) := goodIn_app (goodIn_of _ (by decide +kernel)) ggX12_totalMargin_X12_marginOf
theorem dX12_totalMargin_17 : decode cX12_totalMargin 17 = .ok (.iconst 0, 1) := by decide +kernel
theorem dX12_totalMargin_27 : decode cX12_totalMargin 27 = .ok (.dconst 0, 1) := by decide +kernel
theorem dX12_totalMargin_28 : decode cX12_totalMargin 28 = .ok (.dstore_n 2, 1) := by decide +kernel
theorem dX12_totalMargin_29 : decode cX12_totalMargin 29 = .ok (.iconst 0, 1) := by decide +kernel
theorem dX12_totalMargin_30 : decode cX12_totalMargin 30 = .ok (.istore 4, 2) := by decide +kernel
theorem dX12_totalMargin_32 : decode cX12_totalMargin 32 = .ok (.iload 4, 2) := by decide +kernel
theorem dX12_totalMargin_34 : decode cX12_totalMargin 34 = .ok (.aload_n 0, 1) := by decide +kernel
theorem dX12_totalMargin_35 : decode cX12_totalMargin 35 = .ok (.getfield 148, 3) := by decide +kernel
theorem dX12_totalMargin_38 : decode cX12_totalMargin 38 = .ok (.if_icmp .ge 23, 3) := by decide +kernel
theorem dX12_totalMargin_61 : decode cX12_totalMargin 61 = .ok (.dload_n 2, 1) := by decide +kernel
theorem dX12_totalMargin_62 : decode cX12_totalMargin 62 = .ok (.invokestatic 424, 3) := by decide +kernel
theorem dX12_totalMargin_65 : decode cX12_totalMargin 65 = .ok (.dreturn, 1) := by decide +kernel
theorem dX12_ranked_17 : decode cX12_ranked 17 = .ok (.iconst 0, 1) := by decide +kernel
theorem dX12_ranked_27 : decode cX12_ranked 27 = .ok (.iconst 0, 1) := by decide +kernel
theorem dX12_ranked_28 : decode cX12_ranked 28 = .ok (.istore_n 3, 1) := by decide +kernel
theorem dX12_ranked_29 : decode cX12_ranked 29 = .ok (.iload_n 3, 1) := by decide +kernel
theorem dX12_ranked_30 : decode cX12_ranked 30 = .ok (.aload_n 0, 1) := by decide +kernel
theorem dX12_ranked_31 : decode cX12_ranked 31 = .ok (.getfield 148, 3) := by decide +kernel
theorem dX12_ranked_34 : decode cX12_ranked 34 = .ok (.if_icmp .ge 95, 3) := by decide +kernel
theorem dX12_ranked_129 : decode cX12_ranked 129 = .ok (.iconst (-1), 1) := by decide +kernel
theorem dX12_ranked_130 : decode cX12_ranked 130 = .ok (.ireturn, 1) := by decide +kernel

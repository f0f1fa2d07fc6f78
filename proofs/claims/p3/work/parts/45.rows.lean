theorem dX12_lengthOf_0 : decode cX12_lengthOf 0 = .ok (.iload_n 0, 1) := by decide +kernel
theorem dX12_lengthOf_1 : decode cX12_lengthOf 1 = .ok (.tableswitch 46 0 5 #[39, 39, 41, 39, 46, 43], 39) := by decide +kernel
theorem dX12_lengthOf_40 : decode cX12_lengthOf 40 = .ok (.iconst 1, 1) := by decide +kernel
theorem dX12_lengthOf_41 : decode cX12_lengthOf 41 = .ok (.ireturn, 1) := by decide +kernel
theorem dX12_lengthOf_42 : decode cX12_lengthOf 42 = .ok (.iconst 2, 1) := by decide +kernel
theorem dX12_lengthOf_43 : decode cX12_lengthOf 43 = .ok (.ireturn, 1) := by decide +kernel
theorem dX12_lengthOf_44 : decode cX12_lengthOf 44 = .ok (.bipush 8, 2) := by decide +kernel
theorem dX12_lengthOf_46 : decode cX12_lengthOf 46 = .ok (.ireturn, 1) := by decide +kernel
theorem dX12_lengthOf_47 : decode cX12_lengthOf 47 = .ok (.iconst 4, 1) := by decide +kernel
theorem dX12_lengthOf_48 : decode cX12_lengthOf 48 = .ok (.ireturn, 1) := by decide +kernel
theorem dX12_sizeOf_0 : decode cX12_sizeOf 0 = .ok (.aload_n 0, 1) := by decide +kernel
theorem dX12_sizeOf_1 : decode cX12_sizeOf 1 = .ok (.getfield 17, 3) := by decide +kernel
theorem dX12_sizeOf_4 : decode cX12_sizeOf 4 = .ok (.bipush 11, 2) := by decide +kernel
theorem dX12_sizeOf_6 : decode cX12_sizeOf 6 = .ok (.iload_n 1, 1) := by decide +kernel
theorem dX12_sizeOf_7 : decode cX12_sizeOf 7 = .ok (.iadd, 1) := by decide +kernel
theorem dX12_sizeOf_8 : decode cX12_sizeOf 8 = .ok (.iaload, 1) := by decide +kernel
theorem dX12_sizeOf_9 : decode cX12_sizeOf 9 = .ok (.ireturn, 1) := by decide +kernel
theorem dX12_fieldOf_0 : decode cX12_fieldOf 0 = .ok (.aload_n 0, 1) := by decide +kernel
theorem dX12_fieldOf_1 : decode cX12_fieldOf 1 = .ok (.getfield 17, 3) := by decide +kernel
theorem dX12_fieldOf_4 : decode cX12_fieldOf 4 = .ok (.bipush 15, 2) := by decide +kernel
theorem dX12_fieldOf_6 : decode cX12_fieldOf 6 = .ok (.bipush 9, 2) := by decide +kernel
theorem dX12_fieldOf_8 : decode cX12_fieldOf 8 = .ok (.iload_n 1, 1) := by decide +kernel
theorem dX12_fieldOf_9 : decode cX12_fieldOf 9 = .ok (.imul, 1) := by decide +kernel
theorem dX12_fieldOf_10 : decode cX12_fieldOf 10 = .ok (.iadd, 1) := by decide +kernel
theorem dX12_fieldOf_11 : decode cX12_fieldOf 11 = .ok (.iload_n 2, 1) := by decide +kernel
theorem dX12_fieldOf_12 : decode cX12_fieldOf 12 = .ok (.iadd, 1) := by decide +kernel
theorem dX12_fieldOf_13 : decode cX12_fieldOf 13 = .ok (.iaload, 1) := by decide +kernel
theorem dX12_fieldOf_14 : decode cX12_fieldOf 14 = .ok (.ireturn, 1) := by decide +kernel
theorem dX12_isSupported_0 : decode cX12_isSupported 0 = .ok (.aload_n 0, 1) := by decide +kernel
theorem dX12_isSupported_1 : decode cX12_isSupported 1 = .ok (.getfield 17, 3) := by decide +kernel
theorem dX12_isSupported_4 : decode cX12_isSupported 4 = .ok (.bipush 9, 2) := by decide +kernel
theorem dX12_isSupported_6 : decode cX12_isSupported 6 = .ok (.iaload, 1) := by decide +kernel
theorem dX12_isSupported_7 : decode cX12_isSupported 7 = .ok (.iload_n 1, 1) := by decide +kernel
theorem dX12_isSupported_8 : decode cX12_isSupported 8 = .ok (.ishr, 1) := by decide +kernel
theorem dX12_isSupported_9 : decode cX12_isSupported 9 = .ok (.iconst 1, 1) := by decide +kernel
theorem dX12_isSupported_10 : decode cX12_isSupported 10 = .ok (.iand, 1) := by decide +kernel
theorem dX12_isSupported_11 : decode cX12_isSupported 11 = .ok (.iconst 1, 1) := by decide +kernel
theorem dX12_isSupported_12 : decode cX12_isSupported 12 = .ok (.if_icmp .ne 7, 3) := by decide +kernel
theorem dX12_isSupported_15 : decode cX12_isSupported 15 = .ok (.iconst 1, 1) := by decide +kernel
theorem dX12_isSupported_16 : decode cX12_isSupported 16 = .ok (.goto 4, 3) := by decide +kernel
theorem dX12_isSupported_19 : decode cX12_isSupported 19 = .ok (.iconst 0, 1) := by decide +kernel
theorem dX12_isSupported_20 : decode cX12_isSupported 20 = .ok (.ireturn, 1) := by decide +kernel
set_option maxRecDepth 20000 in
theorem ggX12_fieldsOf_X12_sizeOf : GoodIn wsX12_fieldsOf wsX12_sizeOf := goodIn_ca (goodIn_r _ [5, 6, 11, 12, 13, 14, 15, 16, 17, 18, 19, 20, 21, 22, 23, 24, 25, 26, 27, 28, 29, 30, 31, 32, 33, 34, 35, 36, 37, 38, 39, 40, 41, 42, 43, 44, 45, 46, 47, 48, 49, 50, 51, 52, 53, 54, 55, 56, 57, 58, 59, 60, 61, 62, 63, 64] rfl (by decide +kernel)) (goodIn_sub (fun _ h => List.mem_cons_of_mem _ (List.mem_append_right _ h)) (by decide +kernel))
set_option maxRecDepth 20000 in
theorem gX12_fieldsOf_X12_sizeOf : GoodIn wsX12_fieldsOf (wsV RX12 173 RX12 yX12_sizeOf wsX12_sizeOf) := goodIn_app (goodIn_of _ (by decide +kernel)) ggX12_fieldsOf_X12_sizeOf
set_option maxRecDepth 20000 in
theorem ggX12_fieldsOf_X12_fieldOf : GoodIn wsX12_fieldsOf wsX12_fieldOf := goodIn_ca (goodIn_r _ [10, 6, 11, 12, 13, 14, 15, 16, 17, 18, 19, 20, 21, 22, 23, 24, 25, 26, 27, 28, 29, 30, 31, 32, 33, 34, 35, 36, 37, 38, 39, 40, 41, 42, 43, 44, 45, 46, 47, 48, 49, 50, 51, 52, 53, 54, 55, 56, 57, 58, 59, 60, 61, 62, 63, 64] rfl (by decide +kernel)) (goodIn_sub (fun _ h => List.mem_cons_of_mem _ (List.mem_append_right _ h)) (by decide +kernel))
set_option maxRecDepth 20000 in
theorem gX12_fieldsOf_X12_fieldOf : GoodIn wsX12_fieldsOf (wsV RX12 177 RX12 yX12_fieldOf wsX12_fieldOf) := goodIn_app (goodIn_of _ (by decide +kernel)) ggX12_fieldsOf_X12_fieldOf
theorem dX12_fieldsOf_0 : decode cX12_fieldsOf 0 = .ok (.iconst 0, 1) := by decide +kernel
theorem dX12_fieldsOf_1 : decode cX12_fieldsOf 1 = .ok (.istore_n 2, 1) := by decide +kernel
theorem dX12_fieldsOf_2 : decode cX12_fieldsOf 2 = .ok (.iconst 0, 1) := by decide +kernel
theorem dX12_fieldsOf_3 : decode cX12_fieldsOf 3 = .ok (.istore_n 3, 1) := by decide +kernel
theorem dX12_fieldsOf_4 : decode cX12_fieldsOf 4 = .ok (.iload_n 3, 1) := by decide +kernel
theorem dX12_fieldsOf_5 : decode cX12_fieldsOf 5 = .ok (.aload_n 0, 1) := by decide +kernel
theorem dX12_fieldsOf_6 : decode cX12_fieldsOf 6 = .ok (.iload_n 1, 1) := by decide +kernel
theorem dX12_fieldsOf_7 : decode cX12_fieldsOf 7 = .ok (.invokevirtual 173, 3) := by decide +kernel
theorem dX12_fieldsOf_10 : decode cX12_fieldsOf 10 = .ok (.if_icmp .ge 20, 3) := by decide +kernel
theorem dX12_fieldsOf_13 : decode cX12_fieldsOf 13 = .ok (.iload_n 2, 1) := by decide +kernel
theorem dX12_fieldsOf_14 : decode cX12_fieldsOf 14 = .ok (.iconst 1, 1) := by decide +kernel
theorem dX12_fieldsOf_15 : decode cX12_fieldsOf 15 = .ok (.aload_n 0, 1) := by decide +kernel
theorem dX12_fieldsOf_16 : decode cX12_fieldsOf 16 = .ok (.iload_n 1, 1) := by decide +kernel
theorem dX12_fieldsOf_17 : decode cX12_fieldsOf 17 = .ok (.iload_n 3, 1) := by decide +kernel
theorem dX12_fieldsOf_18 : decode cX12_fieldsOf 18 = .ok (.invokevirtual 177, 3) := by decide +kernel
theorem dX12_fieldsOf_21 : decode cX12_fieldsOf 21 = .ok (.ishl, 1) := by decide +kernel
theorem dX12_fieldsOf_22 : decode cX12_fieldsOf 22 = .ok (.ior, 1) := by decide +kernel
theorem dX12_fieldsOf_23 : decode cX12_fieldsOf 23 = .ok (.istore_n 2, 1) := by decide +kernel
theorem dX12_fieldsOf_24 : decode cX12_fieldsOf 24 = .ok (.iinc 3 1, 3) := by decide +kernel
theorem dX12_fieldsOf_27 : decode cX12_fieldsOf 27 = .ok (.goto (-23), 3) := by decide +kernel
theorem dX12_fieldsOf_30 : decode cX12_fieldsOf 30 = .ok (.iload_n 2, 1) := by decide +kernel
theorem dX12_fieldsOf_31 : decode cX12_fieldsOf 31 = .ok (.ireturn, 1) := by decide +kernel
set_option maxRecDepth 20000 in
theorem ggX12_templateFields_X12_isTemplate : GoodIn wsX12_templateFields wsX12_isTemplate := goodIn_ca (goodIn_r _ [6, 7, 8, 9, 5, 10, 27, 28, 29, 30, 31, 32, 33, 34, 35, 36, 37, 38, 39, 40, 41, 42, 43, 44, 45, 46, 47, 48, 49, 50, 51, 52, 53, 54, 55, 56, 57, 58, 59, 60, 61, 62, 63, 64, 65, 66, 67, 68, 69, 70, 71, 72, 73, 74, 75, 76, 77, 78, 79, 80] rfl (by decide +kernel)) (goodIn_sub (fun _ h => List.mem_cons_of_mem _ (List.mem_append_right _ h)) (by decide +kernel))
set_option maxRecDepth 20000 in
theorem gX12_templateFields_X12_isTemplate : GoodIn wsX12_templateFields (wsV RX12 181 RX12 yX12_isTemplate wsX12_isTemplate) := goodIn_app (goodIn_of _ (by decide +kernel)) ggX12_templateFields_X12_isTemplate
set_option maxRecDepth 20000 in
theorem ggX12_templateFields_X12_throwsIf : GoodIn wsX12_templateFields wsX12_throwsIf := goodIn_r _ [14, 1, 27, 28, 29, 30, 31, 32, 33, 34, 35, 36, 37, 38, 39, 40, 41, 42, 43, 44, 45, 46, 47, 48, 49, 50, 51, 52, 53, 54, 55, 56, 57, 58, 59, 60, 61, 62, 63, 64, 65, 66, 67, 68, 69, 70, 71, 72, 73, 74, 75, 76, 77, 78, 79, 80] rfl (by decide +kernel)
set_option maxRecDepth 20000 in
theorem gX12_templateFields_X12_throwsIf : GoodIn wsX12_templateFields (wsV RX12 185 RX12 yX12_throwsIf wsX12_throwsIf) := goodIn_app (goodIn_of _ (by decide +kernel)) ggX12_templateFields_X12_throwsIf
set_option maxRecDepth 20000 in
theorem ggX12_templateFields_X12_fieldsOf : GoodIn wsX12_templateFields wsX12_fieldsOf := goodIn_ca (goodIn_r _ [18, 19, 20, 21, 5, 22, 7, 23, 24, 25, 26, 27, 28, 29, 30, 31, 32, 33, 34, 35, 36, 37, 38, 39, 40, 41, 42, 43, 44, 45, 46, 47, 48, 49, 50, 51, 52, 53, 54, 55, 56, 57, 58, 59, 60, 61, 62, 63, 64, 65, 66, 67, 68, 69, 70, 71, 72, 73, 74, 75, 76, 77, 78, 79, 80] rfl (by decide +kernel)) (goodIn_sub (fun _ h => List.mem_cons_of_mem _ (List.mem_append_right _ h)) (by decide +kernel))
set_option maxRecDepth 20000 in
theorem gX12_templateFields_X12_fieldsOf : GoodIn wsX12_templateFields (wsV RX12 189 RX12 yX12_fieldsOf wsX12_fieldsOf) := goodIn_app (goodIn_of _ (by decide +kernel)) ggX12_templateFields_X12_fieldsOf
theorem dX12_templateFields_0 : decode cX12_templateFields 0 = .ok (.aload_n 0, 1) := by decide +kernel
theorem dX12_templateFields_1 : decode cX12_templateFields 1 = .ok (.iconst 0, 1) := by decide +kernel
theorem dX12_templateFields_2 : decode cX12_templateFields 2 = .ok (.putfield 1, 3) := by decide +kernel
theorem dX12_templateFields_5 : decode cX12_templateFields 5 = .ok (.aload_n 0, 1) := by decide +kernel
theorem dX12_templateFields_6 : decode cX12_templateFields 6 = .ok (.aload_n 0, 1) := by decide +kernel
theorem dX12_templateFields_7 : decode cX12_templateFields 7 = .ok (.iload_n 1, 1) := by decide +kernel
theorem dX12_templateFields_8 : decode cX12_templateFields 8 = .ok (.invokevirtual 181, 3) := by decide +kernel
theorem dX12_templateFields_11 : decode cX12_templateFields 11 = .ok (.ifCond .ne 7, 3) := by decide +kernel
theorem dX12_templateFields_14 : decode cX12_templateFields 14 = .ok (.iconst 1, 1) := by decide +kernel
theorem dX12_templateFields_15 : decode cX12_templateFields 15 = .ok (.goto 4, 3) := by decide +kernel
theorem dX12_templateFields_18 : decode cX12_templateFields 18 = .ok (.iconst 0, 1) := by decide +kernel
theorem dX12_templateFields_19 : decode cX12_templateFields 19 = .ok (.iconst 1, 1) := by decide +kernel
theorem dX12_templateFields_20 : decode cX12_templateFields 20 = .ok (.invokevirtual 185, 3) := by decide +kernel
theorem dX12_templateFields_23 : decode cX12_templateFields 23 = .ok (.ifCond .eq 7, 3) := by decide +kernel
theorem dX12_templateFields_26 : decode cX12_templateFields 26 = .ok (.iconst 0, 1) := by decide +kernel
theorem dX12_templateFields_27 : decode cX12_templateFields 27 = .ok (.goto 8, 3) := by decide +kernel
theorem dX12_templateFields_30 : decode cX12_templateFields 30 = .ok (.aload_n 0, 1) := by decide +kernel
theorem dX12_templateFields_31 : decode cX12_templateFields 31 = .ok (.iload_n 1, 1) := by decide +kernel
theorem dX12_templateFields_32 : decode cX12_templateFields 32 = .ok (.invokevirtual 189, 3) := by decide +kernel
theorem dX12_templateFields_35 : decode cX12_templateFields 35 = .ok (.ireturn, 1) := by decide +kernel
set_option maxRecDepth 20000 in
theorem ggX12_effective_X12_fieldsOf : GoodIn wsX12_effective wsX12_fieldsOf := goodIn_ca (goodIn_r _ [6, 7, 8, 9, 5, 10, 1, 11, 12, 13, 14, 15, 16, 17, 18, 19, 20, 21, 22, 23, 24, 25, 26, 27, 28, 29, 30, 31, 32, 33, 34, 35, 36, 37, 38, 39, 40, 41, 42, 43, 44, 45, 46, 47, 48, 49, 50, 51, 52, 53, 54, 55, 56, 57, 58, 59, 60, 61, 62, 63, 64, 65, 66, 67, 68] rfl (by decide +kernel)) (goodIn_sub (fun _ h => List.mem_cons_of_mem _ (List.mem_append_right _ h)) (by decide +kernel))
set_option maxRecDepth 20000 in
theorem gX12_effective_X12_fieldsOf : GoodIn wsX12_effective (wsV RX12 189 RX12 yX12_fieldsOf wsX12_fieldsOf) := goodIn_app (goodIn_of _ (by decide +kernel)) ggX12_effective_X12_fieldsOf
theorem dX12_effective_0 : decode cX12_effective 0 = .ok (.aload_n 0, 1) := by decide +kernel
theorem dX12_effective_1 : decode cX12_effective 1 = .ok (.iload_n 1, 1) := by decide +kernel
theorem dX12_effective_2 : decode cX12_effective 2 = .ok (.invokevirtual 189, 3) := by decide +kernel
theorem dX12_effective_5 : decode cX12_effective 5 = .ok (.aload_n 0, 1) := by decide +kernel
theorem dX12_effective_6 : decode cX12_effective 6 = .ok (.getfield 17, 3) := by decide +kernel
theorem dX12_effective_9 : decode cX12_effective 9 = .ok (.bipush 9, 2) := by decide +kernel
theorem dX12_effective_11 : decode cX12_effective 11 = .ok (.iaload, 1) := by decide +kernel
theorem dX12_effective_12 : decode cX12_effective 12 = .ok (.iand, 1) := by decide +kernel
theorem dX12_effective_13 : decode cX12_effective 13 = .ok (.ireturn, 1) := by decide +kernel
set_option maxRecDepth 20000 in
theorem ggX12_effectiveFields_X12_isTemplate : GoodIn wsX12_effectiveFields wsX12_isTemplate := goodIn_ca (goodIn_r _ [6, 7, 8, 9, 5, 10, 31, 32, 33, 34, 35, 36, 37, 38, 39, 40, 41, 42, 43, 44, 45, 46, 47, 48, 49, 50, 51, 52, 53, 54, 55, 56, 57, 58, 59, 60, 61, 62, 63, 64, 65, 66, 67, 68, 69, 70, 71, 72, 73, 74, 75, 76, 77, 78, 79, 80, 81, 82, 83, 84] rfl (by decide +kernel)) (goodIn_sub (fun _ h => List.mem_cons_of_mem _ (List.mem_append_right _ h)) (by decide +kernel))
set_option maxRecDepth 20000 in
theorem gX12_effectiveFields_X12_isTemplate : GoodIn wsX12_effectiveFields (wsV RX12 181 RX12 yX12_isTemplate wsX12_isTemplate) := goodIn_app (goodIn_of _ (by decide +kernel)) ggX12_effectiveFields_X12_isTemplate
set_option maxRecDepth 20000 in
theorem ggX12_effectiveFields_X12_throwsIf : GoodIn wsX12_effectiveFields wsX12_throwsIf := goodIn_r _ [14, 1, 31, 32, 33, 34, 35, 36, 37, 38, 39, 40, 41, 42, 43, 44, 45, 46, 47, 48, 49, 50, 51, 52, 53, 54, 55, 56, 57, 58, 59, 60, 61, 62, 63, 64, 65, 66, 67, 68, 69, 70, 71, 72, 73, 74, 75, 76, 77, 78, 79, 80, 81, 82, 83, 84] rfl (by decide +kernel)
set_option maxRecDepth 20000 in
theorem gX12_effectiveFields_X12_throwsIf : GoodIn wsX12_effectiveFields (wsV RX12 185 RX12 yX12_throwsIf wsX12_throwsIf) := goodIn_app (goodIn_of _ (by decide +kernel)) ggX12_effectiveFields_X12_throwsIf
set_option maxRecDepth 20000 in
theorem ggX12_effectiveFields_X12_effective : GoodIn wsX12_effectiveFields wsX12_effective := goodIn_ca (goodIn_r _ [18, 7, 19, 20, 21, 5, 22, 23, 24, 25, 26, 27, 28, 29, 30, 31, 32, 33, 34, 35, 36, 37, 38, 39, 40, 41, 42, 43, 44, 45, 46, 47, 48, 49, 50, 51, 52, 53, 54, 55, 56, 57, 58, 59, 60, 61, 62, 63, 64, 65, 66, 67, 68, 69, 70, 71, 72, 73, 74, 75, 76, 77, 78, 79, 80, 81, 82, 83, 84] rfl (by decide +kernel)) (goodIn_sub (fun _ h => List.mem_cons_of_mem _ (List.mem_append_right _ h)) (by decide +kernel))
set_option maxRecDepth 20000 in
theorem gX12_effectiveFields_X12_effective : GoodIn wsX12_effectiveFields (wsV RX12 192 RX12 yX12_effective wsX12_effective) := goodIn_app (goodIn_of _ (by decide +kernel)) ggX12_effectiveFields_X12_effective
theorem dX12_effectiveFields_0 : decode cX12_effectiveFields 0 = .ok (.aload_n 0, 1) := by decide +kernel
theorem dX12_effectiveFields_1 : decode cX12_effectiveFields 1 = .ok (.iconst 0, 1) := by decide +kernel
theorem dX12_effectiveFields_2 : decode cX12_effectiveFields 2 = .ok (.putfield 1, 3) := by decide +kernel
theorem dX12_effectiveFields_5 : decode cX12_effectiveFields 5 = .ok (.aload_n 0, 1) := by decide +kernel
theorem dX12_effectiveFields_6 : decode cX12_effectiveFields 6 = .ok (.aload_n 0, 1) := by decide +kernel
theorem dX12_effectiveFields_7 : decode cX12_effectiveFields 7 = .ok (.iload_n 1, 1) := by decide +kernel
theorem dX12_effectiveFields_8 : decode cX12_effectiveFields 8 = .ok (.invokevirtual 181, 3) := by decide +kernel
theorem dX12_effectiveFields_11 : decode cX12_effectiveFields 11 = .ok (.ifCond .ne 7, 3) := by decide +kernel
theorem dX12_effectiveFields_14 : decode cX12_effectiveFields 14 = .ok (.iconst 1, 1) := by decide +kernel
theorem dX12_effectiveFields_15 : decode cX12_effectiveFields 15 = .ok (.goto 4, 3) := by decide +kernel
theorem dX12_effectiveFields_18 : decode cX12_effectiveFields 18 = .ok (.iconst 0, 1) := by decide +kernel
theorem dX12_effectiveFields_19 : decode cX12_effectiveFields 19 = .ok (.iconst 1, 1) := by decide +kernel
theorem dX12_effectiveFields_20 : decode cX12_effectiveFields 20 = .ok (.invokevirtual 185, 3) := by decide +kernel
theorem dX12_effectiveFields_23 : decode cX12_effectiveFields 23 = .ok (.ifCond .eq 7, 3) := by decide +kernel
theorem dX12_effectiveFields_26 : decode cX12_effectiveFields 26 = .ok (.iconst 0, 1) := by decide +kernel
theorem dX12_effectiveFields_27 : decode cX12_effectiveFields 27 = .ok (.goto 8, 3) := by decide +kernel
theorem dX12_effectiveFields_30 : decode cX12_effectiveFields 30 = .ok (.aload_n 0, 1) := by decide +kernel
theorem dX12_effectiveFields_31 : decode cX12_effectiveFields 31 = .ok (.iload_n 1, 1) := by decide +kernel
theorem dX12_effectiveFields_32 : decode cX12_effectiveFields 32 = .ok (.invokevirtual 192, 3) := by decide +kernel
theorem dX12_effectiveFields_35 : decode cX12_effectiveFields 35 = .ok (.ireturn, 1) := by decide +kernel
set_option maxRecDepth 20000 in
theorem ggX12_fieldAt_X12_isTemplate : GoodIn wsX12_fieldAt wsX12_isTemplate := goodIn_ca (goodIn_r _ [6, 7, 8, 9, 5, 10, 23, 24, 25, 26, 27, 28, 29, 30, 31, 32, 33, 34, 35, 36, 37, 38, 39, 40, 41, 42, 43, 44, 45, 46, 47, 48, 49, 50, 51, 52, 53, 54, 55, 56, 57, 58, 59, 60, 61, 62, 63, 64, 65, 66, 67, 68, 69, 70, 71, 72, 73, 74, 75, 76] rfl (by decide +kernel)) (goodIn_sub (fun _ h => List.mem_cons_of_mem _ (List.mem_append_right _ h)) (by decide +kernel))
set_option maxRecDepth 20000 in
theorem gX12_fieldAt_X12_isTemplate : GoodIn wsX12_fieldAt (wsV RX12 181 RX12 yX12_isTemplate wsX12_isTemplate) := goodIn_app (goodIn_of _ (by decide +kernel)) ggX12_fieldAt_X12_isTemplate
set_option maxRecDepth 20000 in
theorem ggX12_fieldAt_X12_throwsIf : GoodIn wsX12_fieldAt wsX12_throwsIf := goodIn_r _ [14, 1, 23, 24, 25, 26, 27, 28, 29, 30, 31, 32, 33, 34, 35, 36, 37, 38, 39, 40, 41, 42, 43, 44, 45, 46, 47, 48, 49, 50, 51, 52, 53, 54, 55, 56, 57, 58, 59, 60, 61, 62, 63, 64, 65, 66, 67, 68, 69, 70, 71, 72, 73, 74, 75, 76] rfl (by decide +kernel)
set_option maxRecDepth 20000 in
theorem gX12_fieldAt_X12_throwsIf : GoodIn wsX12_fieldAt (wsV RX12 185 RX12 yX12_throwsIf wsX12_throwsIf) := goodIn_app (goodIn_of _ (by decide +kernel)) ggX12_fieldAt_X12_throwsIf
set_option maxRecDepth 20000 in
theorem ggX12_fieldAt_X12_sizeOf : GoodIn wsX12_fieldAt wsX12_sizeOf := goodIn_ca (goodIn_r _ [18, 7, 23, 24, 25, 26, 27, 28, 29, 30, 31, 32, 33, 34, 35, 36, 37, 38, 39, 40, 41, 42, 43, 44, 45, 46, 47, 48, 49, 50, 51, 52, 53, 54, 55, 56, 57, 58, 59, 60, 61, 62, 63, 64, 65, 66, 67, 68, 69, 70, 71, 72, 73, 74, 75, 76] rfl (by decide +kernel)) (goodIn_sub (fun _ h => List.mem_cons_of_mem _ (List.mem_append_right _ h)) (by decide +kernel))
set_option maxRecDepth 20000 in
theorem gX12_fieldAt_X12_sizeOf : GoodIn wsX12_fieldAt (wsV RX12 173 RX12 yX12_sizeOf wsX12_sizeOf) := goodIn_app (goodIn_of _ (by decide +kernel)) ggX12_fieldAt_X12_sizeOf
set_option maxRecDepth 20000 in
theorem ggX12_fieldAt_X12_inRange : GoodIn wsX12_fieldAt wsX12_inRange := goodIn_r _ [10] rfl (by decide +kernel)
set_option maxRecDepth 20000 in
theorem gX12_fieldAt_X12_inRange : GoodIn wsX12_fieldAt (va_wsS RX12 169 yX12_inRange wsX12_inRange) := goodIn_app (goodIn_of _ (by decide +kernel)) ggX12_fieldAt_X12_inRange
set_option maxRecDepth 20000 in
theorem ggX12_fieldAt_X12_fieldOf : GoodIn wsX12_fieldAt wsX12_fieldOf := goodIn_ca (goodIn_r _ [22, 7, 23, 24, 25, 26, 27, 28, 29, 30, 31, 32, 33, 34, 35, 36, 37, 38, 39, 40, 41, 42, 43, 44, 45, 46, 47, 48, 49, 50, 51, 52, 53, 54, 55, 56, 57, 58, 59, 60, 61, 62, 63, 64, 65, 66, 67, 68, 69, 70, 71, 72, 73, 74, 75, 76] rfl (by decide +kernel)) (goodIn_sub (fun _ h => List.mem_cons_of_mem _ (List.mem_append_right _ h)) (by decide +kernel))
set_option maxRecDepth 20000 in
theorem gX12_fieldAt_X12_fieldOf : GoodIn wsX12_fieldAt (wsV RX12 177 RX12 yX12_fieldOf wsX12_fieldOf) := goodIn_app (goodIn_of _ (by decide +kernel)) ggX12_fieldAt_X12_fieldOf
theorem dX12_fieldAt_0 : decode cX12_fieldAt 0 = .ok (.aload_n 0, 1) := by decide +kernel
theorem dX12_fieldAt_1 : decode cX12_fieldAt 1 = .ok (.iconst 0, 1) := by decide +kernel
theorem dX12_fieldAt_2 : decode cX12_fieldAt 2 = .ok (.putfield 1, 3) := by decide +kernel
theorem dX12_fieldAt_5 : decode cX12_fieldAt 5 = .ok (.aload_n 0, 1) := by decide +kernel
theorem dX12_fieldAt_6 : decode cX12_fieldAt 6 = .ok (.aload_n 0, 1) := by decide +kernel
theorem dX12_fieldAt_7 : decode cX12_fieldAt 7 = .ok (.iload_n 1, 1) := by decide +kernel
theorem dX12_fieldAt_8 : decode cX12_fieldAt 8 = .ok (.invokevirtual 181, 3) := by decide +kernel
theorem dX12_fieldAt_11 : decode cX12_fieldAt 11 = .ok (.ifCond .ne 7, 3) := by decide +kernel
theorem dX12_fieldAt_14 : decode cX12_fieldAt 14 = .ok (.iconst 1, 1) := by decide +kernel
theorem dX12_fieldAt_15 : decode cX12_fieldAt 15 = .ok (.goto 4, 3) := by decide +kernel
theorem dX12_fieldAt_18 : decode cX12_fieldAt 18 = .ok (.iconst 0, 1) := by decide +kernel
theorem dX12_fieldAt_19 : decode cX12_fieldAt 19 = .ok (.iconst 1, 1) := by decide +kernel
theorem dX12_fieldAt_20 : decode cX12_fieldAt 20 = .ok (.invokevirtual 185, 3) := by decide +kernel
theorem dX12_fieldAt_23 : decode cX12_fieldAt 23 = .ok (.ifCond .eq 7, 3) := by decide +kernel
theorem dX12_fieldAt_26 : decode cX12_fieldAt 26 = .ok (.iconst 0, 1) := by decide +kernel
theorem dX12_fieldAt_27 : decode cX12_fieldAt 27 = .ok (.goto 30, 3) := by decide +kernel
theorem dX12_fieldAt_30 : decode cX12_fieldAt 30 = .ok (.iload_n 2, 1) := by decide +kernel
theorem dX12_fieldAt_31 : decode cX12_fieldAt 31 = .ok (.i2l, 1) := by decide +kernel
theorem dX12_fieldAt_32 : decode cX12_fieldAt 32 = .ok (.lconst 0, 1) := by decide +kernel
theorem dX12_fieldAt_33 : decode cX12_fieldAt 33 = .ok (.aload_n 0, 1) := by decide +kernel
theorem dX12_fieldAt_34 : decode cX12_fieldAt 34 = .ok (.iload_n 1, 1) := by decide +kernel
theorem dX12_fieldAt_35 : decode cX12_fieldAt 35 = .ok (.invokevirtual 173, 3) := by decide +kernel
theorem dX12_fieldAt_38 : decode cX12_fieldAt 38 = .ok (.iconst 1, 1) := by decide +kernel
theorem dX12_fieldAt_39 : decode cX12_fieldAt 39 = .ok (.isub, 1) := by decide +kernel
theorem dX12_fieldAt_40 : decode cX12_fieldAt 40 = .ok (.i2l, 1) := by decide +kernel
theorem dX12_fieldAt_41 : decode cX12_fieldAt 41 = .ok (.invokestatic 169, 3) := by decide +kernel
theorem dX12_fieldAt_44 : decode cX12_fieldAt 44 = .ok (.ifCond .eq 12, 3) := by decide +kernel
theorem dX12_fieldAt_47 : decode cX12_fieldAt 47 = .ok (.aload_n 0, 1) := by decide +kernel
theorem dX12_fieldAt_48 : decode cX12_fieldAt 48 = .ok (.iload_n 1, 1) := by decide +kernel
theorem dX12_fieldAt_49 : decode cX12_fieldAt 49 = .ok (.iload_n 2, 1) := by decide +kernel
theorem dX12_fieldAt_50 : decode cX12_fieldAt 50 = .ok (.invokevirtual 177, 3) := by decide +kernel
theorem dX12_fieldAt_53 : decode cX12_fieldAt 53 = .ok (.goto 4, 3) := by decide +kernel
theorem dX12_fieldAt_56 : decode cX12_fieldAt 56 = .ok (.iconst (-1), 1) := by decide +kernel
theorem dX12_fieldAt_57 : decode cX12_fieldAt 57 = .ok (.ireturn, 1) := by decide +kernel
set_option maxRecDepth 20000 in
theorem ggX12_recordLengthOf_X12_effective : GoodIn wsX12_recordLengthOf wsX12_effective := goodIn_ca (goodIn_r _ [5, 6, 7, 8, 9, 4, 10, 11, 12, 13, 14, 15, 16, 17, 18, 22, 23, 24, 25, 26, 27, 28, 29, 30, 31, 32, 33, 34, 35, 36, 37, 38, 39, 40, 41, 42, 43, 44, 45, 46, 47, 48, 49, 50, 51, 52, 53, 54, 55, 56, 57, 58, 59, 60, 61, 62, 63, 64, 65, 66, 67, 68, 69, 70, 71, 72, 73, 74, 75] rfl (by decide +kernel)) (goodIn_sub (fun _ h => List.mem_cons_of_mem _ (List.mem_append_right _ h)) (by decide +kernel))
set_option maxRecDepth 20000 in
theorem gX12_recordLengthOf_X12_effective : GoodIn wsX12_recordLengthOf (wsV RX12 192 RX12 yX12_effective wsX12_effective) := goodIn_app (goodIn_of _ (by decide +kernel)) ggX12_recordLengthOf_X12_effective
set_option maxRecDepth 20000 in
theorem ggX12_recordLengthOf_X12_lengthOf : GoodIn wsX12_recordLengthOf wsX12_lengthOf := goodIn_r _ [21] rfl (by decide +kernel)
set_option maxRecDepth 20000 in
theorem gX12_recordLengthOf_X12_lengthOf : GoodIn wsX12_recordLengthOf (va_wsS RX12 195 yX12_lengthOf wsX12_lengthOf) := goodIn_app (goodIn_of _ (by decide +kernel)) ggX12_recordLengthOf_X12_lengthOf
theorem dX12_recordLengthOf_0 : decode cX12_recordLengthOf 0 = .ok (.iconst 0, 1) := by decide +kernel
theorem dX12_recordLengthOf_1 : decode cX12_recordLengthOf 1 = .ok (.istore_n 2, 1) := by decide +kernel
theorem dX12_recordLengthOf_2 : decode cX12_recordLengthOf 2 = .ok (.iconst 0, 1) := by decide +kernel
theorem dX12_recordLengthOf_3 : decode cX12_recordLengthOf 3 = .ok (.istore_n 3, 1) := by decide +kernel
theorem dX12_recordLengthOf_4 : decode cX12_recordLengthOf 4 = .ok (.iload_n 3, 1) := by decide +kernel
theorem dX12_recordLengthOf_5 : decode cX12_recordLengthOf 5 = .ok (.bipush 9, 2) := by decide +kernel
theorem dX12_recordLengthOf_7 : decode cX12_recordLengthOf 7 = .ok (.if_icmp .ge 29, 3) := by decide +kernel
theorem dX12_recordLengthOf_10 : decode cX12_recordLengthOf 10 = .ok (.aload_n 0, 1) := by decide +kernel
theorem dX12_recordLengthOf_11 : decode cX12_recordLengthOf 11 = .ok (.iload_n 1, 1) := by decide +kernel
theorem dX12_recordLengthOf_12 : decode cX12_recordLengthOf 12 = .ok (.invokevirtual 192, 3) := by decide +kernel
theorem dX12_recordLengthOf_15 : decode cX12_recordLengthOf 15 = .ok (.iload_n 3, 1) := by decide +kernel
theorem dX12_recordLengthOf_16 : decode cX12_recordLengthOf 16 = .ok (.ishr, 1) := by decide +kernel
theorem dX12_recordLengthOf_17 : decode cX12_recordLengthOf 17 = .ok (.iconst 1, 1) := by decide +kernel
theorem dX12_recordLengthOf_18 : decode cX12_recordLengthOf 18 = .ok (.iand, 1) := by decide +kernel
theorem dX12_recordLengthOf_19 : decode cX12_recordLengthOf 19 = .ok (.iconst 1, 1) := by decide +kernel
theorem dX12_recordLengthOf_20 : decode cX12_recordLengthOf 20 = .ok (.if_icmp .ne 10, 3) := by decide +kernel
theorem dX12_recordLengthOf_23 : decode cX12_recordLengthOf 23 = .ok (.iload_n 2, 1) := by decide +kernel
theorem dX12_recordLengthOf_24 : decode cX12_recordLengthOf 24 = .ok (.iload_n 3, 1) := by decide +kernel
theorem dX12_recordLengthOf_25 : decode cX12_recordLengthOf 25 = .ok (.invokestatic 195, 3) := by decide +kernel
theorem dX12_recordLengthOf_28 : decode cX12_recordLengthOf 28 = .ok (.iadd, 1) := by decide +kernel
theorem dX12_recordLengthOf_29 : decode cX12_recordLengthOf 29 = .ok (.istore_n 2, 1) := by decide +kernel
theorem dX12_recordLengthOf_30 : decode cX12_recordLengthOf 30 = .ok (.iinc 3 1, 3) := by decide +kernel
theorem dX12_recordLengthOf_33 : decode cX12_recordLengthOf 33 = .ok (.goto (-29), 3) := by decide +kernel
theorem dX12_recordLengthOf_36 : decode cX12_recordLengthOf 36 = .ok (.iload_n 2, 1) := by decide +kernel
theorem dX12_recordLengthOf_37 : decode cX12_recordLengthOf 37 = .ok (.ireturn, 1) := by decide +kernel
set_option maxRecDepth 20000 in
theorem ggX12_recordLength_X12_isTemplate : GoodIn wsX12_recordLength wsX12_isTemplate := goodIn_ca (goodIn_r _ [6, 7, 8, 9, 5, 10, 38, 39, 40, 41, 42, 43, 44, 45, 46, 47, 48, 49, 50, 51, 52, 53, 54, 55, 56, 57, 58, 59, 60, 61, 62, 63, 64, 65, 66, 67, 68, 69, 70, 71, 72, 73, 74, 75, 76, 77, 78, 79, 80, 81, 82, 83, 84, 85, 86, 87, 88, 89, 90, 91] rfl (by decide +kernel)) (goodIn_sub (fun _ h => List.mem_cons_of_mem _ (List.mem_append_right _ h)) (by decide +kernel))
set_option maxRecDepth 20000 in
theorem gX12_recordLength_X12_isTemplate : GoodIn wsX12_recordLength (wsV RX12 181 RX12 yX12_isTemplate wsX12_isTemplate) := goodIn_app (goodIn_of _ (by decide +kernel)) ggX12_recordLength_X12_isTemplate
set_option maxRecDepth 20000 in
theorem ggX12_recordLength_X12_throwsIf : GoodIn wsX12_recordLength wsX12_throwsIf := goodIn_r _ [14, 1, 38, 39, 40, 41, 42, 43, 44, 45, 46, 47, 48, 49, 50, 51, 52, 53, 54, 55, 56, 57, 58, 59, 60, 61, 62, 63, 64, 65, 66, 67, 68, 69, 70, 71, 72, 73, 74, 75, 76, 77, 78, 79, 80, 81, 82, 83, 84, 85, 86, 87, 88, 89, 90, 91] rfl (by decide +kernel)
set_option maxRecDepth 20000 in
theorem gX12_recordLength_X12_throwsIf : GoodIn wsX12_recordLength (wsV RX12 185 RX12 yX12_throwsIf wsX12_throwsIf) := goodIn_app (goodIn_of _ (by decide +kernel)) ggX12_recordLength_X12_throwsIf
set_option maxRecDepth 20000 in
theorem ggX12_recordLength_X12_recordLengthOf : GoodIn wsX12_recordLength wsX12_recordLengthOf := goodIn_ca (goodIn_r _ [18, 19, 20, 21, 5, 22, 7, 23, 24, 25, 26, 27, 28, 29, 30, 31, 32, 33, 34, 35, 36, 37, 38, 39, 40, 41, 42, 43, 44, 45, 46, 47, 48, 49, 50, 51, 52, 53, 54, 55, 56, 57, 58, 59, 60, 61, 62, 63, 64, 65, 66, 67, 68, 69, 70, 71, 72, 73, 74, 75, 76, 77, 78, 79, 80, 81, 82, 83, 84, 85, 86, 87, 88, 89, 90, 91] rfl (by decide +kernel)) (goodIn_sub (fun _ h => List.mem_cons_of_mem _ (List.mem_append_right _ h)) (by decide +kernel))
set_option maxRecDepth 20000 in
theorem gX12_recordLength_X12_recordLengthOf : GoodIn wsX12_recordLength (wsV RX12 198 RX12 yX12_recordLengthOf wsX12_recordLengthOf) := goodIn_app (goodIn_of _ (by decide +kernel)) ggX12_recordLength_X12_recordLengthOf
theorem dX12_recordLength_0 : decode cX12_recordLength 0 = .ok (.aload_n 0, 1) := by decide +kernel
theorem dX12_recordLength_1 : decode cX12_recordLength 1 = .ok (.iconst 0, 1) := by decide +kernel
theorem dX12_recordLength_2 : decode cX12_recordLength 2 = .ok (.putfield 1, 3) := by decide +kernel
theorem dX12_recordLength_5 : decode cX12_recordLength 5 = .ok (.aload_n 0, 1) := by decide +kernel
theorem dX12_recordLength_6 : decode cX12_recordLength 6 = .ok (.aload_n 0, 1) := by decide +kernel
theorem dX12_recordLength_7 : decode cX12_recordLength 7 = .ok (.iload_n 1, 1) := by decide +kernel
theorem dX12_recordLength_8 : decode cX12_recordLength 8 = .ok (.invokevirtual 181, 3) := by decide +kernel
theorem dX12_recordLength_11 : decode cX12_recordLength 11 = .ok (.ifCond .ne 7, 3) := by decide +kernel
theorem dX12_recordLength_14 : decode cX12_recordLength 14 = .ok (.iconst 1, 1) := by decide +kernel
theorem dX12_recordLength_15 : decode cX12_recordLength 15 = .ok (.goto 4, 3) := by decide +kernel
theorem dX12_recordLength_18 : decode cX12_recordLength 18 = .ok (.iconst 0, 1) := by decide +kernel
theorem dX12_recordLength_19 : decode cX12_recordLength 19 = .ok (.iconst 1, 1) := by decide +kernel
theorem dX12_recordLength_20 : decode cX12_recordLength 20 = .ok (.invokevirtual 185, 3) := by decide +kernel
theorem dX12_recordLength_23 : decode cX12_recordLength 23 = .ok (.ifCond .eq 7, 3) := by decide +kernel
theorem dX12_recordLength_26 : decode cX12_recordLength 26 = .ok (.iconst 0, 1) := by decide +kernel
theorem dX12_recordLength_27 : decode cX12_recordLength 27 = .ok (.goto 8, 3) := by decide +kernel
theorem dX12_recordLength_30 : decode cX12_recordLength 30 = .ok (.aload_n 0, 1) := by decide +kernel
theorem dX12_recordLength_31 : decode cX12_recordLength 31 = .ok (.iload_n 1, 1) := by decide +kernel
theorem dX12_recordLength_32 : decode cX12_recordLength 32 = .ok (.invokevirtual 198, 3) := by decide +kernel
theorem dX12_recordLength_35 : decode cX12_recordLength 35 = .ok (.ireturn, 1) := by decide +kernel
set_option maxRecDepth 20000 in
theorem ggX12_due_X12_effective : GoodIn wsX12_due wsX12_effective := goodIn_ca (goodIn_r _ [10, 3, 11, 12, 13, 9, 14, 15, 16, 17, 18, 19, 20, 21, 22, 23, 24, 25, 26, 27, 28, 29, 30, 31, 32, 33, 34, 35, 36, 37, 38, 39, 40, 41, 42, 43, 44, 45, 46, 47, 48, 49, 50, 51, 52, 53, 54, 55, 56, 57, 58, 59, 60, 61, 62, 63, 64, 65, 66, 67, 68, 69, 70, 71, 72, 73, 74, 75, 76] rfl (by decide +kernel)) (goodIn_sub (fun _ h => List.mem_cons_of_mem _ (List.mem_append_right _ h)) (by decide +kernel))
set_option maxRecDepth 20000 in
theorem gX12_due_X12_effective : GoodIn wsX12_due (wsV RX12 192 RX12 yX12_effective wsX12_effective) := goodIn_app (goodIn_of _ (by decide +kernel)) ggX12_due_X12_effective
theorem dX12_due_0 : decode cX12_due 0 = .ok (.aload_n 0, 1) := by decide +kernel
theorem dX12_due_1 : decode cX12_due 1 = .ok (.iload_n 1, 1) := by decide +kernel
theorem dX12_due_2 : decode cX12_due 2 = .ok (.invokevirtual 192, 3) := by decide +kernel
theorem dX12_due_5 : decode cX12_due 5 = .ok (.ifCond .ne 5, 3) := by decide +kernel
theorem dX12_due_8 : decode cX12_due 8 = .ok (.iconst 0, 1) := by decide +kernel
theorem dX12_due_9 : decode cX12_due 9 = .ok (.ireturn, 1) := by decide +kernel
theorem dX12_due_10 : decode cX12_due 10 = .ok (.aload_n 0, 1) := by decide +kernel
theorem dX12_due_11 : decode cX12_due 11 = .ok (.getfield 20, 3) := by decide +kernel
theorem dX12_due_14 : decode cX12_due 14 = .ok (.iload_n 1, 1) := by decide +kernel
theorem dX12_due_15 : decode cX12_due 15 = .ok (.iaload, 1) := by decide +kernel
theorem dX12_due_16 : decode cX12_due 16 = .ok (.iconst (-1), 1) := by decide +kernel
theorem dX12_due_17 : decode cX12_due 17 = .ok (.if_icmp .eq 45, 3) := by decide +kernel
theorem dX12_due_20 : decode cX12_due 20 = .ok (.aload_n 0, 1) := by decide +kernel
theorem dX12_due_21 : decode cX12_due 21 = .ok (.getfield 142, 3) := by decide +kernel
theorem dX12_due_24 : decode cX12_due 24 = .ok (.aload_n 0, 1) := by decide +kernel
theorem dX12_due_25 : decode cX12_due 25 = .ok (.getfield 20, 3) := by decide +kernel
theorem dX12_due_28 : decode cX12_due 28 = .ok (.iload_n 1, 1) := by decide +kernel
theorem dX12_due_29 : decode cX12_due 29 = .ok (.iaload, 1) := by decide +kernel
theorem dX12_due_30 : decode cX12_due 30 = .ok (.isub, 1) := by decide +kernel
theorem dX12_due_31 : decode cX12_due 31 = .ok (.iconst 1, 1) := by decide +kernel
theorem dX12_due_32 : decode cX12_due 32 = .ok (.isub, 1) := by decide +kernel
theorem dX12_due_33 : decode cX12_due 33 = .ok (.aload_n 0, 1) := by decide +kernel
theorem dX12_due_34 : decode cX12_due 34 = .ok (.getfield 17, 3) := by decide +kernel
theorem dX12_due_37 : decode cX12_due 37 = .ok (.iconst 4, 1) := by decide +kernel
theorem dX12_due_38 : decode cX12_due 38 = .ok (.iaload, 1) := by decide +kernel
theorem dX12_due_39 : decode cX12_due 39 = .ok (.if_icmp .ge 23, 3) := by decide +kernel
theorem dX12_due_42 : decode cX12_due 42 = .ok (.aload_n 0, 1) := by decide +kernel
theorem dX12_due_43 : decode cX12_due 43 = .ok (.getfield 101, 3) := by decide +kernel
theorem dX12_due_46 : decode cX12_due 46 = .ok (.aload_n 0, 1) := by decide +kernel
theorem dX12_due_47 : decode cX12_due 47 = .ok (.getfield 23, 3) := by decide +kernel
theorem dX12_due_50 : decode cX12_due 50 = .ok (.iload_n 1, 1) := by decide +kernel
theorem dX12_due_51 : decode cX12_due 51 = .ok (.iaload, 1) := by decide +kernel
theorem dX12_due_52 : decode cX12_due 52 = .ok (.isub, 1) := by decide +kernel
theorem dX12_due_53 : decode cX12_due 53 = .ok (.aload_n 0, 1) := by decide +kernel
theorem dX12_due_54 : decode cX12_due 54 = .ok (.getfield 17, 3) := by decide +kernel
theorem dX12_due_57 : decode cX12_due 57 = .ok (.iconst 5, 1) := by decide +kernel
theorem dX12_due_58 : decode cX12_due 58 = .ok (.iaload, 1) := by decide +kernel
theorem dX12_due_59 : decode cX12_due 59 = .ok (.if_icmp .lt 7, 3) := by decide +kernel
theorem dX12_due_62 : decode cX12_due 62 = .ok (.iconst 1, 1) := by decide +kernel
theorem dX12_due_63 : decode cX12_due 63 = .ok (.goto 4, 3) := by decide +kernel
theorem dX12_due_66 : decode cX12_due 66 = .ok (.iconst 0, 1) := by decide +kernel
theorem dX12_due_67 : decode cX12_due 67 = .ok (.ireturn, 1) := by decide +kernel
set_option maxRecDepth 20000 in
theorem ggX12_isByte_X12_inRange : GoodIn wsX12_isByte wsX12_inRange := goodIn_r _ [5] rfl (by decide +kernel)
set_option maxRecDepth 20000 in
theorem gX12_isByte_X12_inRange : GoodIn wsX12_isByte (va_wsS RX12 169 yX12_inRange wsX12_inRange) := goodIn_app (goodIn_of _ (by decide +kernel)) ggX12_isByte_X12_inRange
theorem dX12_isByte_0 : decode cX12_isByte 0 = .ok (.iload_n 0, 1) := by decide +kernel
theorem dX12_isByte_1 : decode cX12_isByte 1 = .ok (.i2l, 1) := by decide +kernel
theorem dX12_isByte_2 : decode cX12_isByte 2 = .ok (.lconst 0, 1) := by decide +kernel
theorem dX12_isByte_3 : decode cX12_isByte 3 = .ok (.ldc2_w 218, 3) := by decide +kernel
theorem dX12_isByte_6 : decode cX12_isByte 6 = .ok (.invokestatic 169, 3) := by decide +kernel
theorem dX12_isByte_9 : decode cX12_isByte 9 = .ok (.ireturn, 1) := by decide +kernel
set_option maxRecDepth 20000 in
theorem ggX12_isWhat_X12_inRange : GoodIn wsX12_isWhat wsX12_inRange := goodIn_r _ [4] rfl (by decide +kernel)
set_option maxRecDepth 20000 in
theorem gX12_isWhat_X12_inRange : GoodIn wsX12_isWhat (va_wsS RX12 169 yX12_inRange wsX12_inRange) := goodIn_app (goodIn_of _ (by decide +kernel)) ggX12_isWhat_X12_inRange
theorem dX12_isWhat_0 : decode cX12_isWhat 0 = .ok (.iload_n 0, 1) := by decide +kernel
theorem dX12_isWhat_1 : decode cX12_isWhat 1 = .ok (.i2l, 1) := by decide +kernel
theorem dX12_isWhat_2 : decode cX12_isWhat 2 = .ok (.lconst 0, 1) := by decide +kernel
theorem dX12_isWhat_3 : decode cX12_isWhat 3 = .ok (.lconst 1, 1) := by decide +kernel
theorem dX12_isWhat_4 : decode cX12_isWhat 4 = .ok (.invokestatic 169, 3) := by decide +kernel
theorem dX12_isWhat_7 : decode cX12_isWhat 7 = .ok (.ireturn, 1) := by decide +kernel

set_option maxRecDepth 20000 in
theorem ggX12_totalMargin_X12_isWhat : GoodIn wsX12_totalMargin wsX12_isWhat := goodIn_r _ [7, 8, 9, 6, 10] rfl (by decide +kernel)
set_option maxRecDepth 20000 in
theorem gX12_totalMargin_X12_isWhat : GoodIn wsX12_totalMargin (va_wsS RX12 397 yX12_isWhat wsX12_isWhat) := goodIn_app (goodIn_of _ (by decide +kernel)) ggX12_totalMargin_X12_isWhat
set_option maxRecDepth 20000 in
theorem ggX12_totalMargin_X12_throwsIf : GoodIn wsX12_totalMargin wsX12_throwsIf := goodIn_r _ [14, 1, 42, 43, 44, 45, 46, 47, 48, 49, 50, 51, 52, 53, 54, 55, 56, 57, 58, 59, 60, 61, 62, 63, 64, 65, 66, 67, 68, 69, 70, 71, 72, 73, 74, 75, 76, 77, 78, 79, 80, 81, 82, 83, 84, 85, 86, 87, 88, 89, 90, 91, 92, 93, 94, 95] rfl (by decide +kernel)
set_option maxRecDepth 20000 in
theorem gX12_totalMargin_X12_throwsIf : GoodIn wsX12_totalMargin (wsV RX12 185 RX12 yX12_throwsIf wsX12_throwsIf) := goodIn_app (goodIn_of _ (by decide +kernel)) ggX12_totalMargin_X12_throwsIf
set_option maxRecDepth 20000 in
theorem ggX12_totalMargin_X12_marginOf : GoodIn wsX12_totalMargin wsX12_marginOf := goodIn_r _ [17, 18, 19, 20, 6, 21, 22, 23, 24, 25, 26, 27, 28, 29, 30, 31, 32, 33, 34, 35, 36, 37, 38, 39, 40, 41] rfl (by decide +kernel)
set_option maxRecDepth 20000 in
theorem gX12_totalMargin_X12_marginOf : GoodIn wsX12_totalMargin (va_wsS RX12 424 yX12_marginOf wsX12_marginOf) := goodIn_app (goodIn_of _ (by decide +kernel)) ggX12_totalMargin_X12_marginOf
theorem dX12_totalMargin_0 : decode cX12_totalMargin 0 = .ok (.aload_n 0, 1) := by decide +kernel
theorem dX12_totalMargin_1 : decode cX12_totalMargin 1 = .ok (.iconst 0, 1) := by decide +kernel
theorem dX12_totalMargin_2 : decode cX12_totalMargin 2 = .ok (.putfield 1, 3) := by decide +kernel
theorem dX12_totalMargin_5 : decode cX12_totalMargin 5 = .ok (.aload_n 0, 1) := by decide +kernel
theorem dX12_totalMargin_6 : decode cX12_totalMargin 6 = .ok (.iload_n 1, 1) := by decide +kernel
theorem dX12_totalMargin_7 : decode cX12_totalMargin 7 = .ok (.invokestatic 397, 3) := by decide +kernel
theorem dX12_totalMargin_10 : decode cX12_totalMargin 10 = .ok (.ifCond .ne 7, 3) := by decide +kernel
theorem dX12_totalMargin_13 : decode cX12_totalMargin 13 = .ok (.iconst 1, 1) := by decide +kernel
theorem dX12_totalMargin_14 : decode cX12_totalMargin 14 = .ok (.goto 4, 3) := by decide +kernel
theorem dX12_totalMargin_17 : decode cX12_totalMargin 17 = .ok (.iconst 0, 1) := by decide +kernel
theorem dX12_totalMargin_18 : decode cX12_totalMargin 18 = .ok (.iconst 1, 1) := by decide +kernel
theorem dX12_totalMargin_19 : decode cX12_totalMargin 19 = .ok (.invokevirtual 185, 3) := by decide +kernel
theorem dX12_totalMargin_22 : decode cX12_totalMargin 22 = .ok (.ifCond .eq 5, 3) := by decide +kernel
theorem dX12_totalMargin_25 : decode cX12_totalMargin 25 = .ok (.dconst 0, 1) := by decide +kernel
theorem dX12_totalMargin_26 : decode cX12_totalMargin 26 = .ok (.dreturn, 1) := by decide +kernel
theorem dX12_totalMargin_27 : decode cX12_totalMargin 27 = .ok (.dconst 0, 1) := by decide +kernel
theorem dX12_totalMargin_28 : decode cX12_totalMargin 28 = .ok (.dstore_n 2, 1) := by decide +kernel
theorem dX12_totalMargin_29 : decode cX12_totalMargin 29 = .ok (.iconst 0, 1) := by decide +kernel
theorem dX12_totalMargin_30 : decode cX12_totalMargin 30 = .ok (.istore 4, 2) := by decide +kernel
theorem dX12_totalMargin_32 : decode cX12_totalMargin 32 = .ok (.iload 4, 2) := by decide +kernel
theorem dX12_totalMargin_34 : decode cX12_totalMargin 34 = .ok (.aload_n 0, 1) := by decide +kernel
theorem dX12_totalMargin_35 : decode cX12_totalMargin 35 = .ok (.getfield 148, 3) := by decide +kernel
theorem dX12_totalMargin_38 : decode cX12_totalMargin 38 = .ok (.if_icmp .ge 23, 3) := by decide +kernel
theorem dX12_totalMargin_41 : decode cX12_totalMargin 41 = .ok (.dload_n 2, 1) := by decide +kernel
theorem dX12_totalMargin_42 : decode cX12_totalMargin 42 = .ok (.aload_n 0, 1) := by decide +kernel
theorem dX12_totalMargin_43 : decode cX12_totalMargin 43 = .ok (.getfield 78, 3) := by decide +kernel
theorem dX12_totalMargin_46 : decode cX12_totalMargin 46 = .ok (.iconst 2, 1) := by decide +kernel
theorem dX12_totalMargin_47 : decode cX12_totalMargin 47 = .ok (.iload 4, 2) := by decide +kernel
theorem dX12_totalMargin_49 : decode cX12_totalMargin 49 = .ok (.imul, 1) := by decide +kernel
theorem dX12_totalMargin_50 : decode cX12_totalMargin 50 = .ok (.iload_n 1, 1) := by decide +kernel
theorem dX12_totalMargin_51 : decode cX12_totalMargin 51 = .ok (.iadd, 1) := by decide +kernel
theorem dX12_totalMargin_52 : decode cX12_totalMargin 52 = .ok (.daload, 1) := by decide +kernel
theorem dX12_totalMargin_53 : decode cX12_totalMargin 53 = .ok (.dadd, 1) := by decide +kernel
theorem dX12_totalMargin_54 : decode cX12_totalMargin 54 = .ok (.dstore_n 2, 1) := by decide +kernel
theorem dX12_totalMargin_55 : decode cX12_totalMargin 55 = .ok (.iinc 4 1, 3) := by decide +kernel
theorem dX12_totalMargin_58 : decode cX12_totalMargin 58 = .ok (.goto (-26), 3) := by decide +kernel
theorem dX12_totalMargin_61 : decode cX12_totalMargin 61 = .ok (.dload_n 2, 1) := by decide +kernel
theorem dX12_totalMargin_62 : decode cX12_totalMargin 62 = .ok (.invokestatic 424, 3) := by decide +kernel
theorem dX12_totalMargin_65 : decode cX12_totalMargin 65 = .ok (.dreturn, 1) := by decide +kernel
set_option maxRecDepth 20000 in
theorem ggX12_ranked_X12_isWhat : GoodIn wsX12_ranked wsX12_isWhat := goodIn_r _ [7, 8, 9, 6, 10] rfl (by decide +kernel)
set_option maxRecDepth 20000 in
theorem gX12_ranked_X12_isWhat : GoodIn wsX12_ranked (va_wsS RX12 397 yX12_isWhat wsX12_isWhat) := goodIn_app (goodIn_of _ (by decide +kernel)) ggX12_ranked_X12_isWhat
set_option maxRecDepth 20000 in
theorem ggX12_ranked_X12_throwsIf : GoodIn wsX12_ranked wsX12_throwsIf := goodIn_r _ [14, 1, 15, 16, 17, 18, 19, 20, 21, 22, 23, 24, 25, 26, 27, 28, 29, 30, 31, 32, 33, 34, 35, 36, 37, 38, 39, 40, 41, 42, 43, 44, 45, 46, 47, 48, 49, 50, 51, 52, 53, 54, 55, 56, 57, 58, 59, 60, 61, 62, 63, 64, 65, 66, 67, 68] rfl (by decide +kernel)
set_option maxRecDepth 20000 in
theorem gX12_ranked_X12_throwsIf : GoodIn wsX12_ranked (wsV RX12 185 RX12 yX12_throwsIf wsX12_throwsIf) := goodIn_app (goodIn_of _ (by decide +kernel)) ggX12_ranked_X12_throwsIf
theorem dX12_ranked_0 : decode cX12_ranked 0 = .ok (.aload_n 0, 1) := by decide +kernel
theorem dX12_ranked_1 : decode cX12_ranked 1 = .ok (.iconst 0, 1) := by decide +kernel
theorem dX12_ranked_2 : decode cX12_ranked 2 = .ok (.putfield 1, 3) := by decide +kernel
theorem dX12_ranked_5 : decode cX12_ranked 5 = .ok (.aload_n 0, 1) := by decide +kernel
theorem dX12_ranked_6 : decode cX12_ranked 6 = .ok (.iload_n 2, 1) := by decide +kernel
theorem dX12_ranked_7 : decode cX12_ranked 7 = .ok (.invokestatic 397, 3) := by decide +kernel
theorem dX12_ranked_10 : decode cX12_ranked 10 = .ok (.ifCond .ne 7, 3) := by decide +kernel
theorem dX12_ranked_13 : decode cX12_ranked 13 = .ok (.iconst 1, 1) := by decide +kernel
theorem dX12_ranked_14 : decode cX12_ranked 14 = .ok (.goto 4, 3) := by decide +kernel
theorem dX12_ranked_17 : decode cX12_ranked 17 = .ok (.iconst 0, 1) := by decide +kernel
theorem dX12_ranked_18 : decode cX12_ranked 18 = .ok (.iconst 1, 1) := by decide +kernel
theorem dX12_ranked_19 : decode cX12_ranked 19 = .ok (.invokevirtual 185, 3) := by decide +kernel
theorem dX12_ranked_22 : decode cX12_ranked 22 = .ok (.ifCond .eq 5, 3) := by decide +kernel
theorem dX12_ranked_25 : decode cX12_ranked 25 = .ok (.iconst 0, 1) := by decide +kernel
theorem dX12_ranked_26 : decode cX12_ranked 26 = .ok (.ireturn, 1) := by decide +kernel
theorem dX12_ranked_27 : decode cX12_ranked 27 = .ok (.iconst 0, 1) := by decide +kernel
theorem dX12_ranked_28 : decode cX12_ranked 28 = .ok (.istore_n 3, 1) := by decide +kernel
theorem dX12_ranked_29 : decode cX12_ranked 29 = .ok (.iload_n 3, 1) := by decide +kernel
theorem dX12_ranked_30 : decode cX12_ranked 30 = .ok (.aload_n 0, 1) := by decide +kernel
theorem dX12_ranked_31 : decode cX12_ranked 31 = .ok (.getfield 148, 3) := by decide +kernel
theorem dX12_ranked_34 : decode cX12_ranked 34 = .ok (.if_icmp .ge 95, 3) := by decide +kernel
theorem dX12_ranked_37 : decode cX12_ranked 37 = .ok (.iconst 0, 1) := by decide +kernel
theorem dX12_ranked_38 : decode cX12_ranked 38 = .ok (.istore 4, 2) := by decide +kernel
theorem dX12_ranked_40 : decode cX12_ranked 40 = .ok (.iconst 0, 1) := by decide +kernel
theorem dX12_ranked_41 : decode cX12_ranked 41 = .ok (.istore 5, 2) := by decide +kernel
theorem dX12_ranked_43 : decode cX12_ranked 43 = .ok (.iload 5, 2) := by decide +kernel
theorem dX12_ranked_45 : decode cX12_ranked 45 = .ok (.aload_n 0, 1) := by decide +kernel
theorem dX12_ranked_46 : decode cX12_ranked 46 = .ok (.getfield 148, 3) := by decide +kernel
theorem dX12_ranked_49 : decode cX12_ranked 49 = .ok (.if_icmp .ge 66, 3) := by decide +kernel
theorem dX12_ranked_52 : decode cX12_ranked 52 = .ok (.aload_n 0, 1) := by decide +kernel
theorem dX12_ranked_53 : decode cX12_ranked 53 = .ok (.getfield 75, 3) := by decide +kernel
theorem dX12_ranked_56 : decode cX12_ranked 56 = .ok (.iconst 2, 1) := by decide +kernel
theorem dX12_ranked_57 : decode cX12_ranked 57 = .ok (.iload 5, 2) := by decide +kernel
theorem dX12_ranked_59 : decode cX12_ranked 59 = .ok (.imul, 1) := by decide +kernel
theorem dX12_ranked_60 : decode cX12_ranked 60 = .ok (.iload_n 2, 1) := by decide +kernel
theorem dX12_ranked_61 : decode cX12_ranked 61 = .ok (.iadd, 1) := by decide +kernel
theorem dX12_ranked_62 : decode cX12_ranked 62 = .ok (.laload, 1) := by decide +kernel
theorem dX12_ranked_63 : decode cX12_ranked 63 = .ok (.lstore 6, 2) := by decide +kernel
theorem dX12_ranked_65 : decode cX12_ranked 65 = .ok (.aload_n 0, 1) := by decide +kernel
theorem dX12_ranked_66 : decode cX12_ranked 66 = .ok (.getfield 75, 3) := by decide +kernel
theorem dX12_ranked_69 : decode cX12_ranked 69 = .ok (.iconst 2, 1) := by decide +kernel
theorem dX12_ranked_70 : decode cX12_ranked 70 = .ok (.iload_n 3, 1) := by decide +kernel
theorem dX12_ranked_71 : decode cX12_ranked 71 = .ok (.imul, 1) := by decide +kernel
theorem dX12_ranked_72 : decode cX12_ranked 72 = .ok (.iload_n 2, 1) := by decide +kernel
theorem dX12_ranked_73 : decode cX12_ranked 73 = .ok (.iadd, 1) := by decide +kernel
theorem dX12_ranked_74 : decode cX12_ranked 74 = .ok (.laload, 1) := by decide +kernel
theorem dX12_ranked_75 : decode cX12_ranked 75 = .ok (.lstore 8, 2) := by decide +kernel
theorem dX12_ranked_77 : decode cX12_ranked 77 = .ok (.iload 4, 2) := by decide +kernel
theorem dX12_ranked_79 : decode cX12_ranked 79 = .ok (.lload 6, 2) := by decide +kernel
theorem dX12_ranked_81 : decode cX12_ranked 81 = .ok (.lload 8, 2) := by decide +kernel
theorem dX12_ranked_83 : decode cX12_ranked 83 = .ok (.lcmp, 1) := by decide +kernel
theorem dX12_ranked_84 : decode cX12_ranked 84 = .ok (.ifCond .gt 17, 3) := by decide +kernel
theorem dX12_ranked_87 : decode cX12_ranked 87 = .ok (.lload 6, 2) := by decide +kernel
theorem dX12_ranked_89 : decode cX12_ranked 89 = .ok (.lload 8, 2) := by decide +kernel
theorem dX12_ranked_91 : decode cX12_ranked 91 = .ok (.lcmp, 1) := by decide +kernel
theorem dX12_ranked_92 : decode cX12_ranked 92 = .ok (.ifCond .ne 13, 3) := by decide +kernel
theorem dX12_ranked_95 : decode cX12_ranked 95 = .ok (.iload 5, 2) := by decide +kernel
theorem dX12_ranked_97 : decode cX12_ranked 97 = .ok (.iload_n 3, 1) := by decide +kernel
theorem dX12_ranked_98 : decode cX12_ranked 98 = .ok (.if_icmp .ge 7, 3) := by decide +kernel
theorem dX12_ranked_101 : decode cX12_ranked 101 = .ok (.iconst 1, 1) := by decide +kernel
theorem dX12_ranked_102 : decode cX12_ranked 102 = .ok (.goto 4, 3) := by decide +kernel
theorem dX12_ranked_105 : decode cX12_ranked 105 = .ok (.iconst 0, 1) := by decide +kernel
theorem dX12_ranked_106 : decode cX12_ranked 106 = .ok (.iadd, 1) := by decide +kernel
theorem dX12_ranked_107 : decode cX12_ranked 107 = .ok (.istore 4, 2) := by decide +kernel
theorem dX12_ranked_109 : decode cX12_ranked 109 = .ok (.iinc 5 1, 3) := by decide +kernel
theorem dX12_ranked_112 : decode cX12_ranked 112 = .ok (.goto (-69), 3) := by decide +kernel
theorem dX12_ranked_115 : decode cX12_ranked 115 = .ok (.iload 4, 2) := by decide +kernel
theorem dX12_ranked_117 : decode cX12_ranked 117 = .ok (.iload_n 1, 1) := by decide +kernel
theorem dX12_ranked_118 : decode cX12_ranked 118 = .ok (.if_icmp .ne 5, 3) := by decide +kernel
theorem dX12_ranked_121 : decode cX12_ranked 121 = .ok (.iload_n 3, 1) := by decide +kernel
theorem dX12_ranked_122 : decode cX12_ranked 122 = .ok (.ireturn, 1) := by decide +kernel
theorem dX12_ranked_123 : decode cX12_ranked 123 = .ok (.iinc 3 1, 3) := by decide +kernel
theorem dX12_ranked_126 : decode cX12_ranked 126 = .ok (.goto (-97), 3) := by decide +kernel
theorem dX12_ranked_129 : decode cX12_ranked 129 = .ok (.iconst (-1), 1) := by decide +kernel
theorem dX12_ranked_130 : decode cX12_ranked 130 = .ok (.ireturn, 1) := by decide +kernel
theorem dX12_appendBytes_0 : decode cX12_appendBytes 0 = .ok (.bipush 24, 2) := by decide +kernel
theorem dX12_appendBytes_2 : decode cX12_appendBytes 2 = .ok (.istore_n 2, 1) := by decide +kernel
theorem dX12_appendBytes_3 : decode cX12_appendBytes 3 = .ok (.iload_n 2, 1) := by decide +kernel
theorem dX12_appendBytes_4 : decode cX12_appendBytes 4 = .ok (.ifCond .lt 32, 3) := by decide +kernel
theorem dX12_appendBytes_7 : decode cX12_appendBytes 7 = .ok (.aload_n 0, 1) := by decide +kernel
theorem dX12_appendBytes_8 : decode cX12_appendBytes 8 = .ok (.getfield 88, 3) := by decide +kernel
theorem dX12_appendBytes_11 : decode cX12_appendBytes 11 = .ok (.aload_n 0, 1) := by decide +kernel
theorem dX12_appendBytes_12 : decode cX12_appendBytes 12 = .ok (.getfield 441, 3) := by decide +kernel
theorem dX12_appendBytes_15 : decode cX12_appendBytes 15 = .ok (.iload_n 1, 1) := by decide +kernel
theorem dX12_appendBytes_16 : decode cX12_appendBytes 16 = .ok (.iload_n 2, 1) := by decide +kernel
theorem dX12_appendBytes_17 : decode cX12_appendBytes 17 = .ok (.ishr, 1) := by decide +kernel
theorem dX12_appendBytes_18 : decode cX12_appendBytes 18 = .ok (.i2b, 1) := by decide +kernel
theorem dX12_appendBytes_19 : decode cX12_appendBytes 19 = .ok (.bastore, 1) := by decide +kernel
theorem dX12_appendBytes_20 : decode cX12_appendBytes 20 = .ok (.aload_n 0, 1) := by decide +kernel
theorem dX12_appendBytes_21 : decode cX12_appendBytes 21 = .ok (.dup, 1) := by decide +kernel
theorem dX12_appendBytes_22 : decode cX12_appendBytes 22 = .ok (.getfield 441, 3) := by decide +kernel
theorem dX12_appendBytes_25 : decode cX12_appendBytes 25 = .ok (.iconst 1, 1) := by decide +kernel
theorem dX12_appendBytes_26 : decode cX12_appendBytes 26 = .ok (.iadd, 1) := by decide +kernel
theorem dX12_appendBytes_27 : decode cX12_appendBytes 27 = .ok (.putfield 441, 3) := by decide +kernel
theorem dX12_appendBytes_30 : decode cX12_appendBytes 30 = .ok (.iinc 2 (-8), 3) := by decide +kernel
theorem dX12_appendBytes_33 : decode cX12_appendBytes 33 = .ok (.goto (-30), 3) := by decide +kernel
theorem dX12_appendBytes_36 : decode cX12_appendBytes 36 = .ok (.return_, 1) := by decide +kernel
set_option maxRecDepth 20000 in
theorem ggX12_appendInput_X12_appendBytes : GoodIn wsX12_appendInput wsX12_appendBytes := goodIn_ca (goodIn_r _ [7, 8, 2, 9, 10, 11, 12, 13, 14, 15, 16, 17, 18, 19, 20, 21, 22, 23, 24, 25, 26, 27, 28, 29, 30, 31, 32, 33, 34, 35, 36, 37, 38, 39, 40, 41, 42, 43, 44, 45, 46, 47, 48, 49, 50, 51, 52, 53, 54, 55, 56, 57, 58, 59, 60, 61, 62] rfl (by decide +kernel)) (goodIn_sub (fun _ h => List.mem_cons_of_mem _ (List.mem_append_right _ h)) (by decide +kernel))
set_option maxRecDepth 20000 in
theorem gX12_appendInput_X12_appendBytes : GoodIn wsX12_appendInput (wsV RX12 444 RX12 yX12_appendBytes wsX12_appendBytes) := goodIn_app (goodIn_of _ (by decide +kernel)) ggX12_appendInput_X12_appendBytes
theorem dX12_appendInput_0 : decode cX12_appendInput 0 = .ok (.aload_n 0, 1) := by decide +kernel
theorem dX12_appendInput_1 : decode cX12_appendInput 1 = .ok (.iconst 0, 1) := by decide +kernel
theorem dX12_appendInput_2 : decode cX12_appendInput 2 = .ok (.putfield 1, 3) := by decide +kernel
theorem dX12_appendInput_5 : decode cX12_appendInput 5 = .ok (.aload_n 0, 1) := by decide +kernel
theorem dX12_appendInput_6 : decode cX12_appendInput 6 = .ok (.getfield 441, 3) := by decide +kernel
theorem dX12_appendInput_9 : decode cX12_appendInput 9 = .ok (.bipush 20, 2) := by decide +kernel
theorem dX12_appendInput_11 : decode cX12_appendInput 11 = .ok (.iadd, 1) := by decide +kernel
theorem dX12_appendInput_12 : decode cX12_appendInput 12 = .ok (.sipush 700, 3) := by decide +kernel
theorem dX12_appendInput_15 : decode cX12_appendInput 15 = .ok (.if_icmp .le 5, 3) := by decide +kernel
theorem dX12_appendInput_18 : decode cX12_appendInput 18 = .ok (.iconst (-1), 1) := by decide +kernel
theorem dX12_appendInput_19 : decode cX12_appendInput 19 = .ok (.ireturn, 1) := by decide +kernel
theorem dX12_appendInput_20 : decode cX12_appendInput 20 = .ok (.aload_n 0, 1) := by decide +kernel
theorem dX12_appendInput_21 : decode cX12_appendInput 21 = .ok (.iload_n 1, 1) := by decide +kernel
theorem dX12_appendInput_22 : decode cX12_appendInput 22 = .ok (.invokevirtual 444, 3) := by decide +kernel
theorem dX12_appendInput_25 : decode cX12_appendInput 25 = .ok (.aload_n 0, 1) := by decide +kernel
theorem dX12_appendInput_26 : decode cX12_appendInput 26 = .ok (.iload_n 2, 1) := by decide +kernel
theorem dX12_appendInput_27 : decode cX12_appendInput 27 = .ok (.invokevirtual 444, 3) := by decide +kernel
theorem dX12_appendInput_30 : decode cX12_appendInput 30 = .ok (.aload_n 0, 1) := by decide +kernel
theorem dX12_appendInput_31 : decode cX12_appendInput 31 = .ok (.iload_n 3, 1) := by decide +kernel
theorem dX12_appendInput_32 : decode cX12_appendInput 32 = .ok (.invokevirtual 444, 3) := by decide +kernel
theorem dX12_appendInput_35 : decode cX12_appendInput 35 = .ok (.aload_n 0, 1) := by decide +kernel
theorem dX12_appendInput_36 : decode cX12_appendInput 36 = .ok (.iload 4, 2) := by decide +kernel
theorem dX12_appendInput_38 : decode cX12_appendInput 38 = .ok (.invokevirtual 444, 3) := by decide +kernel
theorem dX12_appendInput_41 : decode cX12_appendInput 41 = .ok (.aload_n 0, 1) := by decide +kernel
theorem dX12_appendInput_42 : decode cX12_appendInput 42 = .ok (.iload 5, 2) := by decide +kernel
theorem dX12_appendInput_44 : decode cX12_appendInput 44 = .ok (.invokevirtual 444, 3) := by decide +kernel
theorem dX12_appendInput_47 : decode cX12_appendInput 47 = .ok (.aload_n 0, 1) := by decide +kernel
theorem dX12_appendInput_48 : decode cX12_appendInput 48 = .ok (.getfield 441, 3) := by decide +kernel
theorem dX12_appendInput_51 : decode cX12_appendInput 51 = .ok (.ireturn, 1) := by decide +kernel
set_option maxRecDepth 20000 in
theorem ggX12_truncateInput_X12_inRange : GoodIn wsX12_truncateInput wsX12_inRange := goodIn_r _ [6] rfl (by decide +kernel)
set_option maxRecDepth 20000 in
theorem gX12_truncateInput_X12_inRange : GoodIn wsX12_truncateInput (va_wsS RX12 169 yX12_inRange wsX12_inRange) := goodIn_app (goodIn_of _ (by decide +kernel)) ggX12_truncateInput_X12_inRange
theorem dX12_truncateInput_0 : decode cX12_truncateInput 0 = .ok (.aload_n 0, 1) := by decide +kernel
theorem dX12_truncateInput_1 : decode cX12_truncateInput 1 = .ok (.iconst 0, 1) := by decide +kernel
theorem dX12_truncateInput_2 : decode cX12_truncateInput 2 = .ok (.putfield 1, 3) := by decide +kernel
theorem dX12_truncateInput_5 : decode cX12_truncateInput 5 = .ok (.iload_n 1, 1) := by decide +kernel
theorem dX12_truncateInput_6 : decode cX12_truncateInput 6 = .ok (.i2l, 1) := by decide +kernel
theorem dX12_truncateInput_7 : decode cX12_truncateInput 7 = .ok (.lconst 0, 1) := by decide +kernel
theorem dX12_truncateInput_8 : decode cX12_truncateInput 8 = .ok (.aload_n 0, 1) := by decide +kernel
theorem dX12_truncateInput_9 : decode cX12_truncateInput 9 = .ok (.getfield 441, 3) := by decide +kernel
theorem dX12_truncateInput_12 : decode cX12_truncateInput 12 = .ok (.i2l, 1) := by decide +kernel
theorem dX12_truncateInput_13 : decode cX12_truncateInput 13 = .ok (.invokestatic 169, 3) := by decide +kernel
theorem dX12_truncateInput_16 : decode cX12_truncateInput 16 = .ok (.ifCond .ne 5, 3) := by decide +kernel
theorem dX12_truncateInput_19 : decode cX12_truncateInput 19 = .ok (.iconst (-1), 1) := by decide +kernel
theorem dX12_truncateInput_20 : decode cX12_truncateInput 20 = .ok (.ireturn, 1) := by decide +kernel
theorem dX12_truncateInput_21 : decode cX12_truncateInput 21 = .ok (.aload_n 0, 1) := by decide +kernel
theorem dX12_truncateInput_22 : decode cX12_truncateInput 22 = .ok (.iload_n 1, 1) := by decide +kernel
theorem dX12_truncateInput_23 : decode cX12_truncateInput 23 = .ok (.putfield 441, 3) := by decide +kernel
theorem dX12_truncateInput_26 : decode cX12_truncateInput 26 = .ok (.iload_n 1, 1) := by decide +kernel
theorem dX12_truncateInput_27 : decode cX12_truncateInput 27 = .ok (.ireturn, 1) := by decide +kernel
theorem dX12_byteAt_0 : decode cX12_byteAt 0 = .ok (.iload_n 1, 1) := by decide +kernel
theorem dX12_byteAt_1 : decode cX12_byteAt 1 = .ok (.aload_n 0, 1) := by decide +kernel
theorem dX12_byteAt_2 : decode cX12_byteAt 2 = .ok (.getfield 441, 3) := by decide +kernel
theorem dX12_byteAt_5 : decode cX12_byteAt 5 = .ok (.if_icmp .ge 16, 3) := by decide +kernel
theorem dX12_byteAt_8 : decode cX12_byteAt 8 = .ok (.aload_n 0, 1) := by decide +kernel
theorem dX12_byteAt_9 : decode cX12_byteAt 9 = .ok (.getfield 88, 3) := by decide +kernel
theorem dX12_byteAt_12 : decode cX12_byteAt 12 = .ok (.iload_n 1, 1) := by decide +kernel
theorem dX12_byteAt_13 : decode cX12_byteAt 13 = .ok (.baload, 1) := by decide +kernel
theorem dX12_byteAt_14 : decode cX12_byteAt 14 = .ok (.sipush 255, 3) := by decide +kernel
theorem dX12_byteAt_17 : decode cX12_byteAt 17 = .ok (.iand, 1) := by decide +kernel
theorem dX12_byteAt_18 : decode cX12_byteAt 18 = .ok (.goto 4, 3) := by decide +kernel
theorem dX12_byteAt_21 : decode cX12_byteAt 21 = .ok (.iconst (-1), 1) := by decide +kernel
theorem dX12_byteAt_22 : decode cX12_byteAt 22 = .ok (.ireturn, 1) := by decide +kernel
set_option maxRecDepth 20000 in
theorem ggX12_isLetter_X12_inRange : GoodIn wsX12_isLetter wsX12_inRange := goodIn_r _ [6] rfl (by decide +kernel)
set_option maxRecDepth 20000 in
theorem gX12_isLetter_X12_inRange : GoodIn wsX12_isLetter (va_wsS RX12 169 yX12_inRange wsX12_inRange) := goodIn_app (goodIn_of _ (by decide +kernel)) ggX12_isLetter_X12_inRange
theorem dX12_isLetter_0 : decode cX12_isLetter 0 = .ok (.iload_n 0, 1) := by decide +kernel
theorem dX12_isLetter_1 : decode cX12_isLetter 1 = .ok (.i2l, 1) := by decide +kernel
theorem dX12_isLetter_2 : decode cX12_isLetter 2 = .ok (.ldc2_w 450, 3) := by decide +kernel
theorem dX12_isLetter_5 : decode cX12_isLetter 5 = .ok (.ldc2_w 452, 3) := by decide +kernel
theorem dX12_isLetter_8 : decode cX12_isLetter 8 = .ok (.invokestatic 169, 3) := by decide +kernel
theorem dX12_isLetter_11 : decode cX12_isLetter 11 = .ok (.ireturn, 1) := by decide +kernel
set_option maxRecDepth 20000 in
theorem ggX12_isDigit_X12_inRange : GoodIn wsX12_isDigit wsX12_inRange := goodIn_r _ [6] rfl (by decide +kernel)
set_option maxRecDepth 20000 in
theorem gX12_isDigit_X12_inRange : GoodIn wsX12_isDigit (va_wsS RX12 169 yX12_inRange wsX12_inRange) := goodIn_app (goodIn_of _ (by decide +kernel)) ggX12_isDigit_X12_inRange
theorem dX12_isDigit_0 : decode cX12_isDigit 0 = .ok (.iload_n 0, 1) := by decide +kernel
theorem dX12_isDigit_1 : decode cX12_isDigit 1 = .ok (.i2l, 1) := by decide +kernel
theorem dX12_isDigit_2 : decode cX12_isDigit 2 = .ok (.ldc2_w 454, 3) := by decide +kernel
theorem dX12_isDigit_5 : decode cX12_isDigit 5 = .ok (.ldc2_w 456, 3) := by decide +kernel
theorem dX12_isDigit_8 : decode cX12_isDigit 8 = .ok (.invokestatic 169, 3) := by decide +kernel
theorem dX12_isDigit_11 : decode cX12_isDigit 11 = .ok (.ireturn, 1) := by decide +kernel
set_option maxRecDepth 20000 in
theorem ggX12_advanceToken_X12_byteAt : GoodIn wsX12_advanceToken wsX12_byteAt := goodIn_ca (goodIn_r _ [13, 14, 15, 28, 29, 30, 31, 32, 33, 34, 35, 36, 37, 38, 39, 40, 41, 42, 43, 44, 45, 46, 47, 48, 49, 50, 51, 52, 53, 54, 55, 56, 57, 58, 59, 60, 61, 62, 63, 64, 65, 66, 67, 68, 69, 70, 71, 72, 73, 74, 75, 76, 77, 78, 79, 80, 81] rfl (by decide +kernel)) (goodIn_sub (fun _ h => List.mem_cons_of_mem _ (List.mem_append_right _ h)) (by decide +kernel))
set_option maxRecDepth 20000 in
theorem gX12_advanceToken_X12_byteAt : GoodIn wsX12_advanceToken (wsV RX12 461 RX12 yX12_byteAt wsX12_byteAt) := goodIn_app (goodIn_of _ (by decide +kernel)) ggX12_advanceToken_X12_byteAt
set_option maxRecDepth 20000 in
theorem ggX12_advanceToken_X12_isLetter : GoodIn wsX12_advanceToken wsX12_isLetter := goodIn_r _ [18, 19, 20, 21, 22, 12, 23] rfl (by decide +kernel)
set_option maxRecDepth 20000 in
theorem gX12_advanceToken_X12_isLetter : GoodIn wsX12_advanceToken (va_wsS RX12 470 yX12_isLetter wsX12_isLetter) := goodIn_app (goodIn_of _ (by decide +kernel)) ggX12_advanceToken_X12_isLetter
set_option maxRecDepth 20000 in
theorem ggX12_advanceToken_X12_isDigit : GoodIn wsX12_advanceToken wsX12_isDigit := goodIn_r _ [26, 8, 27, 21, 22, 12, 23] rfl (by decide +kernel)
set_option maxRecDepth 20000 in
theorem gX12_advanceToken_X12_isDigit : GoodIn wsX12_advanceToken (va_wsS RX12 473 yX12_isDigit wsX12_isDigit) := goodIn_app (goodIn_of _ (by decide +kernel)) ggX12_advanceToken_X12_isDigit
theorem dX12_advanceToken_0 : decode cX12_advanceToken 0 = .ok (.aload_n 0, 1) := by decide +kernel
theorem dX12_advanceToken_1 : decode cX12_advanceToken 1 = .ok (.aload_n 0, 1) := by decide +kernel
theorem dX12_advanceToken_2 : decode cX12_advanceToken 2 = .ok (.getfield 458, 3) := by decide +kernel
theorem dX12_advanceToken_5 : decode cX12_advanceToken 5 = .ok (.invokevirtual 461, 3) := by decide +kernel
theorem dX12_advanceToken_8 : decode cX12_advanceToken 8 = .ok (.bipush 32, 2) := by decide +kernel
theorem dX12_advanceToken_10 : decode cX12_advanceToken 10 = .ok (.if_icmp .eq 16, 3) := by decide +kernel
theorem dX12_advanceToken_13 : decode cX12_advanceToken 13 = .ok (.aload_n 0, 1) := by decide +kernel
theorem dX12_advanceToken_14 : decode cX12_advanceToken 14 = .ok (.aload_n 0, 1) := by decide +kernel
theorem dX12_advanceToken_15 : decode cX12_advanceToken 15 = .ok (.getfield 458, 3) := by decide +kernel
theorem dX12_advanceToken_18 : decode cX12_advanceToken 18 = .ok (.invokevirtual 461, 3) := by decide +kernel
theorem dX12_advanceToken_21 : decode cX12_advanceToken 21 = .ok (.bipush 10, 2) := by decide +kernel
theorem dX12_advanceToken_23 : decode cX12_advanceToken 23 = .ok (.if_icmp .ne 16, 3) := by decide +kernel
theorem dX12_advanceToken_26 : decode cX12_advanceToken 26 = .ok (.aload_n 0, 1) := by decide +kernel
theorem dX12_advanceToken_27 : decode cX12_advanceToken 27 = .ok (.dup, 1) := by decide +kernel
theorem dX12_advanceToken_28 : decode cX12_advanceToken 28 = .ok (.getfield 458, 3) := by decide +kernel
theorem dX12_advanceToken_31 : decode cX12_advanceToken 31 = .ok (.iconst 1, 1) := by decide +kernel
theorem dX12_advanceToken_32 : decode cX12_advanceToken 32 = .ok (.iadd, 1) := by decide +kernel
theorem dX12_advanceToken_33 : decode cX12_advanceToken 33 = .ok (.putfield 458, 3) := by decide +kernel
theorem dX12_advanceToken_36 : decode cX12_advanceToken 36 = .ok (.goto (-36), 3) := by decide +kernel
theorem dX12_advanceToken_39 : decode cX12_advanceToken 39 = .ok (.aload_n 0, 1) := by decide +kernel
theorem dX12_advanceToken_40 : decode cX12_advanceToken 40 = .ok (.aload_n 0, 1) := by decide +kernel
theorem dX12_advanceToken_41 : decode cX12_advanceToken 41 = .ok (.getfield 458, 3) := by decide +kernel
theorem dX12_advanceToken_44 : decode cX12_advanceToken 44 = .ok (.putfield 464, 3) := by decide +kernel
theorem dX12_advanceToken_47 : decode cX12_advanceToken 47 = .ok (.aload_n 0, 1) := by decide +kernel
theorem dX12_advanceToken_48 : decode cX12_advanceToken 48 = .ok (.lconst 0, 1) := by decide +kernel
theorem dX12_advanceToken_49 : decode cX12_advanceToken 49 = .ok (.putfield 467, 3) := by decide +kernel
theorem dX12_advanceToken_52 : decode cX12_advanceToken 52 = .ok (.aload_n 0, 1) := by decide +kernel
theorem dX12_advanceToken_53 : decode cX12_advanceToken 53 = .ok (.aload_n 0, 1) := by decide +kernel
theorem dX12_advanceToken_54 : decode cX12_advanceToken 54 = .ok (.getfield 464, 3) := by decide +kernel
theorem dX12_advanceToken_57 : decode cX12_advanceToken 57 = .ok (.invokevirtual 461, 3) := by decide +kernel
theorem dX12_advanceToken_60 : decode cX12_advanceToken 60 = .ok (.istore_n 1, 1) := by decide +kernel
theorem dX12_advanceToken_61 : decode cX12_advanceToken 61 = .ok (.aload_n 0, 1) := by decide +kernel
theorem dX12_advanceToken_62 : decode cX12_advanceToken 62 = .ok (.iload_n 1, 1) := by decide +kernel
theorem dX12_advanceToken_63 : decode cX12_advanceToken 63 = .ok (.iconst (-1), 1) := by decide +kernel
theorem dX12_advanceToken_64 : decode cX12_advanceToken 64 = .ok (.if_icmp .ne 7, 3) := by decide +kernel
theorem dX12_advanceToken_67 : decode cX12_advanceToken 67 = .ok (.iconst 0, 1) := by decide +kernel
theorem dX12_advanceToken_68 : decode cX12_advanceToken 68 = .ok (.goto 36, 3) := by decide +kernel
theorem dX12_advanceToken_71 : decode cX12_advanceToken 71 = .ok (.iload_n 1, 1) := by decide +kernel
theorem dX12_advanceToken_72 : decode cX12_advanceToken 72 = .ok (.invokestatic 470, 3) := by decide +kernel
theorem dX12_advanceToken_75 : decode cX12_advanceToken 75 = .ok (.ifCond .eq 7, 3) := by decide +kernel
theorem dX12_advanceToken_78 : decode cX12_advanceToken 78 = .ok (.iconst 1, 1) := by decide +kernel
theorem dX12_advanceToken_79 : decode cX12_advanceToken 79 = .ok (.goto 25, 3) := by decide +kernel
theorem dX12_advanceToken_82 : decode cX12_advanceToken 82 = .ok (.iload_n 1, 1) := by decide +kernel
theorem dX12_advanceToken_83 : decode cX12_advanceToken 83 = .ok (.invokestatic 473, 3) := by decide +kernel
theorem dX12_advanceToken_86 : decode cX12_advanceToken 86 = .ok (.ifCond .eq 7, 3) := by decide +kernel
theorem dX12_advanceToken_89 : decode cX12_advanceToken 89 = .ok (.iconst 2, 1) := by decide +kernel
theorem dX12_advanceToken_90 : decode cX12_advanceToken 90 = .ok (.goto 14, 3) := by decide +kernel
theorem dX12_advanceToken_93 : decode cX12_advanceToken 93 = .ok (.iload_n 1, 1) := by decide +kernel
theorem dX12_advanceToken_94 : decode cX12_advanceToken 94 = .ok (.bipush 59, 2) := by decide +kernel
theorem dX12_advanceToken_96 : decode cX12_advanceToken 96 = .ok (.if_icmp .ne 7, 3) := by decide +kernel
theorem dX12_advanceToken_99 : decode cX12_advanceToken 99 = .ok (.iconst 3, 1) := by decide +kernel
theorem dX12_advanceToken_100 : decode cX12_advanceToken 100 = .ok (.goto 4, 3) := by decide +kernel
theorem dX12_advanceToken_103 : decode cX12_advanceToken 103 = .ok (.iconst 4, 1) := by decide +kernel
theorem dX12_advanceToken_104 : decode cX12_advanceToken 104 = .ok (.putfield 476, 3) := by decide +kernel
theorem dX12_advanceToken_107 : decode cX12_advanceToken 107 = .ok (.aload_n 0, 1) := by decide +kernel
theorem dX12_advanceToken_108 : decode cX12_advanceToken 108 = .ok (.getfield 476, 3) := by decide +kernel
theorem dX12_advanceToken_111 : decode cX12_advanceToken 111 = .ok (.iconst 3, 1) := by decide +kernel
theorem dX12_advanceToken_112 : decode cX12_advanceToken 112 = .ok (.if_icmp .eq 11, 3) := by decide +kernel
theorem dX12_advanceToken_115 : decode cX12_advanceToken 115 = .ok (.aload_n 0, 1) := by decide +kernel
theorem dX12_advanceToken_116 : decode cX12_advanceToken 116 = .ok (.getfield 476, 3) := by decide +kernel
theorem dX12_advanceToken_119 : decode cX12_advanceToken 119 = .ok (.iconst 4, 1) := by decide +kernel
theorem dX12_advanceToken_120 : decode cX12_advanceToken 120 = .ok (.if_icmp .ne 13, 3) := by decide +kernel
theorem dX12_advanceToken_123 : decode cX12_advanceToken 123 = .ok (.aload_n 0, 1) := by decide +kernel
theorem dX12_advanceToken_124 : decode cX12_advanceToken 124 = .ok (.dup, 1) := by decide +kernel
theorem dX12_advanceToken_125 : decode cX12_advanceToken 125 = .ok (.getfield 458, 3) := by decide +kernel
theorem dX12_advanceToken_128 : decode cX12_advanceToken 128 = .ok (.iconst 1, 1) := by decide +kernel
theorem dX12_advanceToken_129 : decode cX12_advanceToken 129 = .ok (.iadd, 1) := by decide +kernel
theorem dX12_advanceToken_130 : decode cX12_advanceToken 130 = .ok (.putfield 458, 3) := by decide +kernel
theorem dX12_advanceToken_133 : decode cX12_advanceToken 133 = .ok (.aload_n 0, 1) := by decide +kernel
theorem dX12_advanceToken_134 : decode cX12_advanceToken 134 = .ok (.getfield 476, 3) := by decide +kernel
theorem dX12_advanceToken_137 : decode cX12_advanceToken 137 = .ok (.iconst 1, 1) := by decide +kernel
theorem dX12_advanceToken_138 : decode cX12_advanceToken 138 = .ok (.if_icmp .ne 70, 3) := by decide +kernel
theorem dX12_advanceToken_141 : decode cX12_advanceToken 141 = .ok (.aload_n 0, 1) := by decide +kernel
theorem dX12_advanceToken_142 : decode cX12_advanceToken 142 = .ok (.aload_n 0, 1) := by decide +kernel
theorem dX12_advanceToken_143 : decode cX12_advanceToken 143 = .ok (.getfield 458, 3) := by decide +kernel
theorem dX12_advanceToken_146 : decode cX12_advanceToken 146 = .ok (.invokevirtual 461, 3) := by decide +kernel
theorem dX12_advanceToken_149 : decode cX12_advanceToken 149 = .ok (.invokestatic 470, 3) := by decide +kernel
theorem dX12_advanceToken_152 : decode cX12_advanceToken 152 = .ok (.ifCond .eq 56, 3) := by decide +kernel
theorem dX12_advanceToken_155 : decode cX12_advanceToken 155 = .ok (.aload_n 0, 1) := by decide +kernel
theorem dX12_advanceToken_156 : decode cX12_advanceToken 156 = .ok (.getfield 458, 3) := by decide +kernel
theorem dX12_advanceToken_159 : decode cX12_advanceToken 159 = .ok (.aload_n 0, 1) := by decide +kernel
theorem dX12_advanceToken_160 : decode cX12_advanceToken 160 = .ok (.getfield 464, 3) := by decide +kernel
theorem dX12_advanceToken_163 : decode cX12_advanceToken 163 = .ok (.isub, 1) := by decide +kernel
theorem dX12_advanceToken_164 : decode cX12_advanceToken 164 = .ok (.bipush 12, 2) := by decide +kernel
theorem dX12_advanceToken_166 : decode cX12_advanceToken 166 = .ok (.if_icmp .ge 29, 3) := by decide +kernel
theorem dX12_advanceToken_169 : decode cX12_advanceToken 169 = .ok (.aload_n 0, 1) := by decide +kernel
theorem dX12_advanceToken_170 : decode cX12_advanceToken 170 = .ok (.aload_n 0, 1) := by decide +kernel
theorem dX12_advanceToken_171 : decode cX12_advanceToken 171 = .ok (.getfield 467, 3) := by decide +kernel
theorem dX12_advanceToken_174 : decode cX12_advanceToken 174 = .ok (.ldc2_w 479, 3) := by decide +kernel
theorem dX12_advanceToken_177 : decode cX12_advanceToken 177 = .ok (.lmul, 1) := by decide +kernel
theorem dX12_advanceToken_178 : decode cX12_advanceToken 178 = .ok (.aload_n 0, 1) := by decide +kernel
theorem dX12_advanceToken_179 : decode cX12_advanceToken 179 = .ok (.aload_n 0, 1) := by decide +kernel
theorem dX12_advanceToken_180 : decode cX12_advanceToken 180 = .ok (.getfield 458, 3) := by decide +kernel
theorem dX12_advanceToken_183 : decode cX12_advanceToken 183 = .ok (.invokevirtual 461, 3) := by decide +kernel
theorem dX12_advanceToken_186 : decode cX12_advanceToken 186 = .ok (.i2l, 1) := by decide +kernel
theorem dX12_advanceToken_187 : decode cX12_advanceToken 187 = .ok (.ladd, 1) := by decide +kernel
theorem dX12_advanceToken_188 : decode cX12_advanceToken 188 = .ok (.ldc2_w 481, 3) := by decide +kernel
theorem dX12_advanceToken_191 : decode cX12_advanceToken 191 = .ok (.lsub, 1) := by decide +kernel
theorem dX12_advanceToken_192 : decode cX12_advanceToken 192 = .ok (.putfield 467, 3) := by decide +kernel
theorem dX12_advanceToken_195 : decode cX12_advanceToken 195 = .ok (.aload_n 0, 1) := by decide +kernel
theorem dX12_advanceToken_196 : decode cX12_advanceToken 196 = .ok (.dup, 1) := by decide +kernel
theorem dX12_advanceToken_197 : decode cX12_advanceToken 197 = .ok (.getfield 458, 3) := by decide +kernel
theorem dX12_advanceToken_200 : decode cX12_advanceToken 200 = .ok (.iconst 1, 1) := by decide +kernel
theorem dX12_advanceToken_201 : decode cX12_advanceToken 201 = .ok (.iadd, 1) := by decide +kernel
theorem dX12_advanceToken_202 : decode cX12_advanceToken 202 = .ok (.putfield 458, 3) := by decide +kernel
theorem dX12_advanceToken_205 : decode cX12_advanceToken 205 = .ok (.goto (-72), 3) := by decide +kernel
theorem dX12_advanceToken_208 : decode cX12_advanceToken 208 = .ok (.aload_n 0, 1) := by decide +kernel
theorem dX12_advanceToken_209 : decode cX12_advanceToken 209 = .ok (.getfield 476, 3) := by decide +kernel
theorem dX12_advanceToken_212 : decode cX12_advanceToken 212 = .ok (.iconst 2, 1) := by decide +kernel
theorem dX12_advanceToken_213 : decode cX12_advanceToken 213 = .ok (.if_icmp .ne 70, 3) := by decide +kernel
theorem dX12_advanceToken_216 : decode cX12_advanceToken 216 = .ok (.aload_n 0, 1) := by decide +kernel
theorem dX12_advanceToken_217 : decode cX12_advanceToken 217 = .ok (.aload_n 0, 1) := by decide +kernel
theorem dX12_advanceToken_218 : decode cX12_advanceToken 218 = .ok (.getfield 458, 3) := by decide +kernel
theorem dX12_advanceToken_221 : decode cX12_advanceToken 221 = .ok (.invokevirtual 461, 3) := by decide +kernel
theorem dX12_advanceToken_224 : decode cX12_advanceToken 224 = .ok (.invokestatic 473, 3) := by decide +kernel
theorem dX12_advanceToken_227 : decode cX12_advanceToken 227 = .ok (.ifCond .eq 56, 3) := by decide +kernel
theorem dX12_advanceToken_230 : decode cX12_advanceToken 230 = .ok (.aload_n 0, 1) := by decide +kernel
theorem dX12_advanceToken_231 : decode cX12_advanceToken 231 = .ok (.getfield 458, 3) := by decide +kernel
theorem dX12_advanceToken_234 : decode cX12_advanceToken 234 = .ok (.aload_n 0, 1) := by decide +kernel
theorem dX12_advanceToken_235 : decode cX12_advanceToken 235 = .ok (.getfield 464, 3) := by decide +kernel
theorem dX12_advanceToken_238 : decode cX12_advanceToken 238 = .ok (.isub, 1) := by decide +kernel
theorem dX12_advanceToken_239 : decode cX12_advanceToken 239 = .ok (.bipush 6, 2) := by decide +kernel
theorem dX12_advanceToken_241 : decode cX12_advanceToken 241 = .ok (.if_icmp .ge 29, 3) := by decide +kernel
theorem dX12_advanceToken_244 : decode cX12_advanceToken 244 = .ok (.aload_n 0, 1) := by decide +kernel
theorem dX12_advanceToken_245 : decode cX12_advanceToken 245 = .ok (.aload_n 0, 1) := by decide +kernel
theorem dX12_advanceToken_246 : decode cX12_advanceToken 246 = .ok (.getfield 467, 3) := by decide +kernel
theorem dX12_advanceToken_249 : decode cX12_advanceToken 249 = .ok (.ldc2_w 298, 3) := by decide +kernel
theorem dX12_advanceToken_252 : decode cX12_advanceToken 252 = .ok (.lmul, 1) := by decide +kernel
theorem dX12_advanceToken_253 : decode cX12_advanceToken 253 = .ok (.aload_n 0, 1) := by decide +kernel
theorem dX12_advanceToken_254 : decode cX12_advanceToken 254 = .ok (.aload_n 0, 1) := by decide +kernel
theorem dX12_advanceToken_255 : decode cX12_advanceToken 255 = .ok (.getfield 458, 3) := by decide +kernel
theorem dX12_advanceToken_258 : decode cX12_advanceToken 258 = .ok (.invokevirtual 461, 3) := by decide +kernel
theorem dX12_advanceToken_261 : decode cX12_advanceToken 261 = .ok (.i2l, 1) := by decide +kernel
theorem dX12_advanceToken_262 : decode cX12_advanceToken 262 = .ok (.ladd, 1) := by decide +kernel
theorem dX12_advanceToken_263 : decode cX12_advanceToken 263 = .ok (.ldc2_w 454, 3) := by decide +kernel
theorem dX12_advanceToken_266 : decode cX12_advanceToken 266 = .ok (.lsub, 1) := by decide +kernel
theorem dX12_advanceToken_267 : decode cX12_advanceToken 267 = .ok (.putfield 467, 3) := by decide +kernel
theorem dX12_advanceToken_270 : decode cX12_advanceToken 270 = .ok (.aload_n 0, 1) := by decide +kernel
theorem dX12_advanceToken_271 : decode cX12_advanceToken 271 = .ok (.dup, 1) := by decide +kernel
theorem dX12_advanceToken_272 : decode cX12_advanceToken 272 = .ok (.getfield 458, 3) := by decide +kernel
theorem dX12_advanceToken_275 : decode cX12_advanceToken 275 = .ok (.iconst 1, 1) := by decide +kernel
theorem dX12_advanceToken_276 : decode cX12_advanceToken 276 = .ok (.iadd, 1) := by decide +kernel
theorem dX12_advanceToken_277 : decode cX12_advanceToken 277 = .ok (.putfield 458, 3) := by decide +kernel
theorem dX12_advanceToken_280 : decode cX12_advanceToken 280 = .ok (.goto (-72), 3) := by decide +kernel
theorem dX12_advanceToken_283 : decode cX12_advanceToken 283 = .ok (.aload_n 0, 1) := by decide +kernel
theorem dX12_advanceToken_284 : decode cX12_advanceToken 284 = .ok (.getfield 476, 3) := by decide +kernel
theorem dX12_advanceToken_287 : decode cX12_advanceToken 287 = .ok (.iconst 1, 1) := by decide +kernel
theorem dX12_advanceToken_288 : decode cX12_advanceToken 288 = .ok (.if_icmp .ne 17, 3) := by decide +kernel
theorem dX12_advanceToken_291 : decode cX12_advanceToken 291 = .ok (.aload_n 0, 1) := by decide +kernel
theorem dX12_advanceToken_292 : decode cX12_advanceToken 292 = .ok (.getfield 458, 3) := by decide +kernel
theorem dX12_advanceToken_295 : decode cX12_advanceToken 295 = .ok (.aload_n 0, 1) := by decide +kernel
theorem dX12_advanceToken_296 : decode cX12_advanceToken 296 = .ok (.getfield 464, 3) := by decide +kernel
theorem dX12_advanceToken_299 : decode cX12_advanceToken 299 = .ok (.isub, 1) := by decide +kernel
theorem dX12_advanceToken_300 : decode cX12_advanceToken 300 = .ok (.bipush 12, 2) := by decide +kernel
theorem dX12_advanceToken_302 : decode cX12_advanceToken 302 = .ok (.if_icmp .gt 25, 3) := by decide +kernel
theorem dX12_advanceToken_305 : decode cX12_advanceToken 305 = .ok (.aload_n 0, 1) := by decide +kernel
theorem dX12_advanceToken_306 : decode cX12_advanceToken 306 = .ok (.getfield 476, 3) := by decide +kernel
theorem dX12_advanceToken_309 : decode cX12_advanceToken 309 = .ok (.iconst 2, 1) := by decide +kernel
theorem dX12_advanceToken_310 : decode cX12_advanceToken 310 = .ok (.if_icmp .ne 22, 3) := by decide +kernel
theorem dX12_advanceToken_313 : decode cX12_advanceToken 313 = .ok (.aload_n 0, 1) := by decide +kernel
theorem dX12_advanceToken_314 : decode cX12_advanceToken 314 = .ok (.getfield 458, 3) := by decide +kernel
theorem dX12_advanceToken_317 : decode cX12_advanceToken 317 = .ok (.aload_n 0, 1) := by decide +kernel
theorem dX12_advanceToken_318 : decode cX12_advanceToken 318 = .ok (.getfield 464, 3) := by decide +kernel
theorem dX12_advanceToken_321 : decode cX12_advanceToken 321 = .ok (.isub, 1) := by decide +kernel
theorem dX12_advanceToken_322 : decode cX12_advanceToken 322 = .ok (.bipush 6, 2) := by decide +kernel
theorem dX12_advanceToken_324 : decode cX12_advanceToken 324 = .ok (.if_icmp .le 8, 3) := by decide +kernel
theorem dX12_advanceToken_327 : decode cX12_advanceToken 327 = .ok (.aload_n 0, 1) := by decide +kernel
theorem dX12_advanceToken_328 : decode cX12_advanceToken 328 = .ok (.iconst 4, 1) := by decide +kernel
theorem dX12_advanceToken_329 : decode cX12_advanceToken 329 = .ok (.putfield 476, 3) := by decide +kernel
theorem dX12_advanceToken_332 : decode cX12_advanceToken 332 = .ok (.return_, 1) := by decide +kernel

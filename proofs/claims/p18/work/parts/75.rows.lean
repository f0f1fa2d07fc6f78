set_option maxRecDepth 20000 in
theorem ggX12_readNumber_X12_fail : GoodIn wsX12_readNumber wsX12_fail := goodIn_r _ [8, 9, 10, 11, 39, 40, 41, 42, 43, 44, 45, 46, 47, 48, 49, 50, 51, 52, 53, 54, 55, 56, 57, 58, 59, 60, 61, 62, 63, 64, 65, 66, 67, 68, 69, 70, 71, 72, 73, 74, 75, 76, 77, 78, 79, 80, 81, 82, 83, 84, 85, 86, 87, 88, 89, 90, 91, 92] (by decide +kernel) (by decide +kernel)
set_option maxRecDepth 20000 in
theorem gX12_readNumber_X12_fail : GoodIn wsX12_readNumber (wsV RX12 483 RX12 yX12_fail wsX12_fail) := goodIn_app (goodIn_of _ (by decide +kernel)) ggX12_readNumber_X12_fail
set_option maxRecDepth 20000 in
theorem ggX12_readNumber_X12_inRange : GoodIn wsX12_readNumber wsX12_inRange := goodIn_r _ [14] (by decide +kernel) (by decide +kernel)
set_option maxRecDepth 20000 in
theorem gX12_readNumber_X12_inRange : GoodIn wsX12_readNumber (va_wsS RX12 169 yX12_inRange wsX12_inRange) := goodIn_app (goodIn_of _ (by decide +kernel)) ggX12_readNumber_X12_inRange
set_option maxRecDepth 20000 in
theorem ggX12_readNumber_X12_advanceToken : GoodIn wsX12_readNumber wsX12_advanceToken := goodIn_ca (goodIn_r _ [18, 19, 10, 2, 1, 20, 21, 22, 23, 24, 25, 26, 7, 27, 28, 29, 30, 31, 32, 33, 34, 12, 13, 14, 35, 36, 37, 38, 39, 40, 41, 42, 43, 44, 45, 46, 47, 48, 49, 50, 51, 52, 53, 54, 55, 56, 57, 58, 59, 60, 61, 62, 63, 64, 65, 66, 67, 68, 69, 70, 71, 72, 73, 74, 75, 76, 77, 78, 79, 80, 81, 82, 83, 84, 85, 86, 87, 88, 89, 90, 91, 92] (by decide +kernel) (by decide +kernel)) (goodIn_sub (fun _ h => List.mem_cons_of_mem _ (List.mem_append_right _ h)) (by decide +kernel))
set_option maxRecDepth 20000 in
theorem gX12_readNumber_X12_advanceToken : GoodIn wsX12_readNumber (wsV RX12 489 RX12 yX12_advanceToken wsX12_advanceToken) := goodIn_app (goodIn_of _ (by decide +kernel)) ggX12_readNumber_X12_advanceToken
theorem dX12_readNumber_0 : decode cX12_readNumber 0 = .ok (.aload_n 0, 1) := by decide +kernel
theorem dX12_readNumber_1 : decode cX12_readNumber 1 = .ok (.getfield 476, 3) := by decide +kernel
theorem dX12_readNumber_4 : decode cX12_readNumber 4 = .ok (.iconst 2, 1) := by decide +kernel
theorem dX12_readNumber_5 : decode cX12_readNumber 5 = .ok (.if_icmp .eq 9, 3) := by decide +kernel
theorem dX12_readNumber_8 : decode cX12_readNumber 8 = .ok (.aload_n 0, 1) := by decide +kernel
theorem dX12_readNumber_9 : decode cX12_readNumber 9 = .ok (.iconst 1, 1) := by decide +kernel
theorem dX12_readNumber_10 : decode cX12_readNumber 10 = .ok (.invokevirtual 483, 3) := by decide +kernel
theorem dX12_readNumber_13 : decode cX12_readNumber 13 = .ok (.ireturn, 1) := by decide +kernel
theorem dX12_readNumber_14 : decode cX12_readNumber 14 = .ok (.aload_n 0, 1) := by decide +kernel
theorem dX12_readNumber_15 : decode cX12_readNumber 15 = .ok (.getfield 467, 3) := by decide +kernel
theorem dX12_readNumber_18 : decode cX12_readNumber 18 = .ok (.iload_n 1, 1) := by decide +kernel
theorem dX12_readNumber_19 : decode cX12_readNumber 19 = .ok (.i2l, 1) := by decide +kernel
theorem dX12_readNumber_20 : decode cX12_readNumber 20 = .ok (.iload_n 2, 1) := by decide +kernel
theorem dX12_readNumber_21 : decode cX12_readNumber 21 = .ok (.i2l, 1) := by decide +kernel
theorem dX12_readNumber_22 : decode cX12_readNumber 22 = .ok (.invokestatic 169, 3) := by decide +kernel
theorem dX12_readNumber_25 : decode cX12_readNumber 25 = .ok (.ifCond .ne 9, 3) := by decide +kernel
theorem dX12_readNumber_28 : decode cX12_readNumber 28 = .ok (.aload_n 0, 1) := by decide +kernel
theorem dX12_readNumber_29 : decode cX12_readNumber 29 = .ok (.iconst 2, 1) := by decide +kernel
theorem dX12_readNumber_30 : decode cX12_readNumber 30 = .ok (.invokevirtual 483, 3) := by decide +kernel
theorem dX12_readNumber_33 : decode cX12_readNumber 33 = .ok (.ireturn, 1) := by decide +kernel
theorem dX12_readNumber_34 : decode cX12_readNumber 34 = .ok (.aload_n 0, 1) := by decide +kernel
theorem dX12_readNumber_35 : decode cX12_readNumber 35 = .ok (.aload_n 0, 1) := by decide +kernel
theorem dX12_readNumber_36 : decode cX12_readNumber 36 = .ok (.getfield 467, 3) := by decide +kernel
theorem dX12_readNumber_39 : decode cX12_readNumber 39 = .ok (.l2i, 1) := by decide +kernel
theorem dX12_readNumber_40 : decode cX12_readNumber 40 = .ok (.putfield 486, 3) := by decide +kernel
theorem dX12_readNumber_43 : decode cX12_readNumber 43 = .ok (.aload_n 0, 1) := by decide +kernel
theorem dX12_readNumber_44 : decode cX12_readNumber 44 = .ok (.invokevirtual 489, 3) := by decide +kernel
theorem dX12_readNumber_47 : decode cX12_readNumber 47 = .ok (.iconst 1, 1) := by decide +kernel
theorem dX12_readNumber_48 : decode cX12_readNumber 48 = .ok (.ireturn, 1) := by decide +kernel
set_option maxRecDepth 20000 in
theorem ggX12_readInto_X12_readNumber : GoodIn wsX12_readInto wsX12_readNumber := goodIn_ca (goodIn_r _ [7, 8, 9, 2, 10, 11, 12, 6, 13, 14, 15, 16, 17, 18, 19, 20, 21, 22, 23, 24, 25, 26, 27, 28, 29, 30, 31, 32, 33, 34, 35, 36, 37, 38, 39, 40, 41, 42, 43, 44, 45, 46, 47, 48, 49, 50, 51, 52, 53, 54, 55, 56, 57, 58, 59, 60, 61, 62, 63, 64, 65, 66, 67, 68, 69, 70, 71, 72, 73, 74, 75, 76, 77, 78, 79, 80, 81, 82, 83, 84, 85, 86, 87, 88, 89, 90, 91, 92, 93, 94, 95, 96, 97] (by decide +kernel) (by decide +kernel)) (goodIn_sub (fun _ h => List.mem_cons_of_mem _ (List.mem_append_right _ h)) (by decide +kernel))
set_option maxRecDepth 20000 in
theorem gX12_readInto_X12_readNumber : GoodIn wsX12_readInto (wsV RX12 492 RX12 yX12_readNumber wsX12_readNumber) := goodIn_app (goodIn_of _ (by decide +kernel)) ggX12_readInto_X12_readNumber
theorem dX12_readInto_0 : decode cX12_readInto 0 = .ok (.aload_n 0, 1) := by decide +kernel
theorem dX12_readInto_1 : decode cX12_readInto 1 = .ok (.iload_n 2, 1) := by decide +kernel
theorem dX12_readInto_2 : decode cX12_readInto 2 = .ok (.iload_n 3, 1) := by decide +kernel
theorem dX12_readInto_3 : decode cX12_readInto 3 = .ok (.invokevirtual 492, 3) := by decide +kernel
theorem dX12_readInto_6 : decode cX12_readInto 6 = .ok (.ifCond .ne 5, 3) := by decide +kernel
theorem dX12_readInto_9 : decode cX12_readInto 9 = .ok (.iconst 0, 1) := by decide +kernel
theorem dX12_readInto_10 : decode cX12_readInto 10 = .ok (.ireturn, 1) := by decide +kernel
theorem dX12_readInto_11 : decode cX12_readInto 11 = .ok (.aload_n 0, 1) := by decide +kernel
theorem dX12_readInto_12 : decode cX12_readInto 12 = .ok (.getfield 13, 3) := by decide +kernel
theorem dX12_readInto_15 : decode cX12_readInto 15 = .ok (.iload_n 1, 1) := by decide +kernel
theorem dX12_readInto_16 : decode cX12_readInto 16 = .ok (.aload_n 0, 1) := by decide +kernel
theorem dX12_readInto_17 : decode cX12_readInto 17 = .ok (.getfield 486, 3) := by decide +kernel
theorem dX12_readInto_20 : decode cX12_readInto 20 = .ok (.iastore, 1) := by decide +kernel
theorem dX12_readInto_21 : decode cX12_readInto 21 = .ok (.iconst 1, 1) := by decide +kernel
theorem dX12_readInto_22 : decode cX12_readInto 22 = .ok (.ireturn, 1) := by decide +kernel
set_option maxRecDepth 20000 in
theorem ggX12_readEnd_X12_fail : GoodIn wsX12_readEnd wsX12_fail := goodIn_r _ [6, 7, 8, 9, 38, 39, 40, 41, 42, 43, 44, 45, 46, 47, 48, 49, 50, 51, 52, 53, 54, 55, 56, 57, 58, 59, 60, 61, 62, 63, 64, 65, 66, 67, 68, 69, 70, 71, 72, 73, 74, 75, 76, 77, 78, 79, 80, 81, 82, 83, 84, 85, 86, 87, 88, 89, 90, 91] (by decide +kernel) (by decide +kernel)
set_option maxRecDepth 20000 in
theorem gX12_readEnd_X12_fail : GoodIn wsX12_readEnd (wsV RX12 483 RX12 yX12_fail wsX12_fail) := goodIn_app (goodIn_of _ (by decide +kernel)) ggX12_readEnd_X12_fail
set_option maxRecDepth 20000 in
theorem ggX12_readEnd_X12_advanceToken : GoodIn wsX12_readEnd wsX12_advanceToken := goodIn_ca (goodIn_r _ [13, 14, 8, 15, 1, 16, 17, 18, 19, 20, 21, 22, 5, 23, 24, 25, 26, 27, 28, 29, 30, 31, 32, 33, 34, 35, 36, 37, 38, 39, 40, 41, 42, 43, 44, 45, 46, 47, 48, 49, 50, 51, 52, 53, 54, 55, 56, 57, 58, 59, 60, 61, 62, 63, 64, 65, 66, 67, 68, 69, 70, 71, 72, 73, 74, 75, 76, 77, 78, 79, 80, 81, 82, 83, 84, 85, 86, 87, 88, 89, 90, 91] (by decide +kernel) (by decide +kernel)) (goodIn_sub (fun _ h => List.mem_cons_of_mem _ (List.mem_append_right _ h)) (by decide +kernel))
set_option maxRecDepth 20000 in
theorem gX12_readEnd_X12_advanceToken : GoodIn wsX12_readEnd (wsV RX12 489 RX12 yX12_advanceToken wsX12_advanceToken) := goodIn_app (goodIn_of _ (by decide +kernel)) ggX12_readEnd_X12_advanceToken
theorem dX12_readEnd_0 : decode cX12_readEnd 0 = .ok (.aload_n 0, 1) := by decide +kernel
theorem dX12_readEnd_1 : decode cX12_readEnd 1 = .ok (.getfield 476, 3) := by decide +kernel
theorem dX12_readEnd_4 : decode cX12_readEnd 4 = .ok (.iconst 3, 1) := by decide +kernel
theorem dX12_readEnd_5 : decode cX12_readEnd 5 = .ok (.if_icmp .eq 9, 3) := by decide +kernel
theorem dX12_readEnd_8 : decode cX12_readEnd 8 = .ok (.aload_n 0, 1) := by decide +kernel
theorem dX12_readEnd_9 : decode cX12_readEnd 9 = .ok (.iconst 1, 1) := by decide +kernel
theorem dX12_readEnd_10 : decode cX12_readEnd 10 = .ok (.invokevirtual 483, 3) := by decide +kernel
theorem dX12_readEnd_13 : decode cX12_readEnd 13 = .ok (.ireturn, 1) := by decide +kernel
theorem dX12_readEnd_14 : decode cX12_readEnd 14 = .ok (.aload_n 0, 1) := by decide +kernel
theorem dX12_readEnd_15 : decode cX12_readEnd 15 = .ok (.invokevirtual 489, 3) := by decide +kernel
theorem dX12_readEnd_18 : decode cX12_readEnd 18 = .ok (.iconst 1, 1) := by decide +kernel
theorem dX12_readEnd_19 : decode cX12_readEnd 19 = .ok (.ireturn, 1) := by decide +kernel
set_option maxRecDepth 20000 in
theorem ggX12_readTemplate_X12_fail : GoodIn wsX12_readTemplate wsX12_fail := goodIn_r _ [6, 7, 8, 9, 52, 53, 54, 55, 56, 57, 58, 59, 60, 61, 62, 63, 64, 65, 66, 67, 68, 69, 70, 71, 72, 73, 74, 75, 76, 77, 78, 79, 80, 81, 82, 83, 84, 85, 86, 87, 88, 89, 90, 91, 92, 93, 94, 95, 96, 97, 98, 99, 100, 101, 102, 103, 104, 105] (by decide +kernel) (by decide +kernel)
set_option maxRecDepth 20000 in
theorem gX12_readTemplate_X12_fail : GoodIn wsX12_readTemplate (wsV RX12 483 RX12 yX12_fail wsX12_fail) := goodIn_app (goodIn_of _ (by decide +kernel)) ggX12_readTemplate_X12_fail
set_option maxRecDepth 20000 in
theorem ggX12_readTemplate_X12_advanceToken : GoodIn wsX12_readTemplate wsX12_advanceToken := goodIn_ca (goodIn_r _ [13, 14, 8, 15, 16, 17, 18, 19, 20, 21, 22, 23, 5, 24, 25, 26, 27, 28, 29, 30, 31, 32, 33, 34, 35, 36, 37, 38, 52, 53, 54, 55, 56, 57, 58, 59, 60, 61, 62, 63, 64, 65, 66, 67, 68, 69, 70, 71, 72, 73, 74, 75, 76, 77, 78, 79, 80, 81, 82, 83, 84, 85, 86, 87, 88, 89, 90, 91, 92, 93, 94, 95, 96, 97, 98, 99, 100, 101, 102, 103, 104, 105] (by decide +kernel) (by decide +kernel)) (goodIn_sub (fun _ h => List.mem_cons_of_mem _ (List.mem_append_right _ h)) (by decide +kernel))
set_option maxRecDepth 20000 in
theorem gX12_readTemplate_X12_advanceToken : GoodIn wsX12_readTemplate (wsV RX12 489 RX12 yX12_advanceToken wsX12_advanceToken) := goodIn_app (goodIn_of _ (by decide +kernel)) ggX12_readTemplate_X12_advanceToken
set_option maxRecDepth 20000 in
theorem ggX12_readTemplate_X12_fieldHere : GoodIn wsX12_readTemplate wsX12_fieldHere := goodIn_r _ [42, 16, 15, 43, 44, 45, 46, 5, 47, 18, 17, 52, 53, 54, 55, 56, 57, 58, 59, 60, 61, 62, 63, 64, 65, 66, 67, 68, 69, 70, 71, 72, 73, 74, 75, 76, 77, 78, 79, 80, 81, 82, 83, 84, 85, 86, 87, 88, 89, 90, 91, 92, 93, 94, 95, 96, 97, 98, 99, 100, 101, 102, 103, 104, 105] (by decide +kernel) (by decide +kernel)
set_option maxRecDepth 20000 in
theorem gX12_readTemplate_X12_fieldHere : GoodIn wsX12_readTemplate (wsV RX12 503 RX12 yX12_fieldHere wsX12_fieldHere) := goodIn_app (goodIn_of _ (by decide +kernel)) ggX12_readTemplate_X12_fieldHere
set_option maxRecDepth 20000 in
theorem ggX12_readTemplate_X12_readEnd : GoodIn wsX12_readTemplate wsX12_readEnd := goodIn_ca (goodIn_r _ [51, 16, 2, 3, 4, 5, 6, 7, 8, 9, 10, 11, 12, 13, 14, 15, 17, 18, 19, 20, 21, 22, 23, 24, 25, 26, 27, 28, 29, 30, 31, 32, 33, 34, 35, 36, 37, 38, 52, 53, 54, 55, 56, 57, 58, 59, 60, 61, 62, 63, 64, 65, 66, 67, 68, 69, 70, 71, 72, 73, 74, 75, 76, 77, 78, 79, 80, 81, 82, 83, 84, 85, 86, 87, 88, 89, 90, 91, 92, 93, 94, 95, 96, 97, 98, 99, 100, 101, 102, 103, 104, 105] (by decide +kernel) (by decide +kernel)) (goodIn_sub (fun _ h => List.mem_cons_of_mem _ (List.mem_append_right _ h)) (by decide +kernel))
set_option maxRecDepth 20000 in
theorem gX12_readTemplate_X12_readEnd : GoodIn wsX12_readTemplate (wsV RX12 506 RX12 yX12_readEnd wsX12_readEnd) := goodIn_app (goodIn_of _ (by decide +kernel)) ggX12_readTemplate_X12_readEnd
theorem dX12_readTemplate_0 : decode cX12_readTemplate 0 = .ok (.aload_n 0, 1) := by decide +kernel
theorem dX12_readTemplate_1 : decode cX12_readTemplate 1 = .ok (.getfield 13, 3) := by decide +kernel
theorem dX12_readTemplate_4 : decode cX12_readTemplate 4 = .ok (.bipush 10, 2) := by decide +kernel
theorem dX12_readTemplate_6 : decode cX12_readTemplate 6 = .ok (.iaload, 1) := by decide +kernel
theorem dX12_readTemplate_7 : decode cX12_readTemplate 7 = .ok (.istore_n 1, 1) := by decide +kernel
theorem dX12_readTemplate_8 : decode cX12_readTemplate 8 = .ok (.iload_n 1, 1) := by decide +kernel
theorem dX12_readTemplate_9 : decode cX12_readTemplate 9 = .ok (.iconst 4, 1) := by decide +kernel
theorem dX12_readTemplate_10 : decode cX12_readTemplate 10 = .ok (.if_icmp .ne 9, 3) := by decide +kernel
theorem dX12_readTemplate_13 : decode cX12_readTemplate 13 = .ok (.aload_n 0, 1) := by decide +kernel
theorem dX12_readTemplate_14 : decode cX12_readTemplate 14 = .ok (.iconst 4, 1) := by decide +kernel
theorem dX12_readTemplate_15 : decode cX12_readTemplate 15 = .ok (.invokevirtual 483, 3) := by decide +kernel
theorem dX12_readTemplate_18 : decode cX12_readTemplate 18 = .ok (.ireturn, 1) := by decide +kernel
theorem dX12_readTemplate_19 : decode cX12_readTemplate 19 = .ok (.aload_n 0, 1) := by decide +kernel
theorem dX12_readTemplate_20 : decode cX12_readTemplate 20 = .ok (.invokevirtual 489, 3) := by decide +kernel
theorem dX12_readTemplate_23 : decode cX12_readTemplate 23 = .ok (.iconst 0, 1) := by decide +kernel
theorem dX12_readTemplate_24 : decode cX12_readTemplate 24 = .ok (.istore_n 2, 1) := by decide +kernel
theorem dX12_readTemplate_25 : decode cX12_readTemplate 25 = .ok (.iconst 0, 1) := by decide +kernel
theorem dX12_readTemplate_26 : decode cX12_readTemplate 26 = .ok (.istore_n 3, 1) := by decide +kernel
theorem dX12_readTemplate_27 : decode cX12_readTemplate 27 = .ok (.aload_n 0, 1) := by decide +kernel
theorem dX12_readTemplate_28 : decode cX12_readTemplate 28 = .ok (.invokevirtual 503, 3) := by decide +kernel
theorem dX12_readTemplate_31 : decode cX12_readTemplate 31 = .ok (.iconst (-1), 1) := by decide +kernel
theorem dX12_readTemplate_32 : decode cX12_readTemplate 32 = .ok (.if_icmp .ne 9, 3) := by decide +kernel
theorem dX12_readTemplate_35 : decode cX12_readTemplate 35 = .ok (.aload_n 0, 1) := by decide +kernel
theorem dX12_readTemplate_36 : decode cX12_readTemplate 36 = .ok (.iconst 1, 1) := by decide +kernel
theorem dX12_readTemplate_37 : decode cX12_readTemplate 37 = .ok (.invokevirtual 483, 3) := by decide +kernel
theorem dX12_readTemplate_40 : decode cX12_readTemplate 40 = .ok (.ireturn, 1) := by decide +kernel
theorem dX12_readTemplate_41 : decode cX12_readTemplate 41 = .ok (.aload_n 0, 1) := by decide +kernel
theorem dX12_readTemplate_42 : decode cX12_readTemplate 42 = .ok (.invokevirtual 503, 3) := by decide +kernel
theorem dX12_readTemplate_45 : decode cX12_readTemplate 45 = .ok (.iconst (-1), 1) := by decide +kernel
theorem dX12_readTemplate_46 : decode cX12_readTemplate 46 = .ok (.if_icmp .eq 58, 3) := by decide +kernel
theorem dX12_readTemplate_49 : decode cX12_readTemplate 49 = .ok (.iload_n 2, 1) := by decide +kernel
theorem dX12_readTemplate_50 : decode cX12_readTemplate 50 = .ok (.aload_n 0, 1) := by decide +kernel
theorem dX12_readTemplate_51 : decode cX12_readTemplate 51 = .ok (.invokevirtual 503, 3) := by decide +kernel
theorem dX12_readTemplate_54 : decode cX12_readTemplate 54 = .ok (.ishr, 1) := by decide +kernel
theorem dX12_readTemplate_55 : decode cX12_readTemplate 55 = .ok (.iconst 1, 1) := by decide +kernel
theorem dX12_readTemplate_56 : decode cX12_readTemplate 56 = .ok (.iand, 1) := by decide +kernel
theorem dX12_readTemplate_57 : decode cX12_readTemplate 57 = .ok (.iconst 1, 1) := by decide +kernel
theorem dX12_readTemplate_58 : decode cX12_readTemplate 58 = .ok (.if_icmp .ne 9, 3) := by decide +kernel
theorem dX12_readTemplate_61 : decode cX12_readTemplate 61 = .ok (.aload_n 0, 1) := by decide +kernel
theorem dX12_readTemplate_62 : decode cX12_readTemplate 62 = .ok (.iconst 3, 1) := by decide +kernel
theorem dX12_readTemplate_63 : decode cX12_readTemplate 63 = .ok (.invokevirtual 483, 3) := by decide +kernel
theorem dX12_readTemplate_66 : decode cX12_readTemplate 66 = .ok (.ireturn, 1) := by decide +kernel
theorem dX12_readTemplate_67 : decode cX12_readTemplate 67 = .ok (.iload_n 2, 1) := by decide +kernel
theorem dX12_readTemplate_68 : decode cX12_readTemplate 68 = .ok (.iconst 1, 1) := by decide +kernel
theorem dX12_readTemplate_69 : decode cX12_readTemplate 69 = .ok (.aload_n 0, 1) := by decide +kernel
theorem dX12_readTemplate_70 : decode cX12_readTemplate 70 = .ok (.invokevirtual 503, 3) := by decide +kernel
theorem dX12_readTemplate_73 : decode cX12_readTemplate 73 = .ok (.ishl, 1) := by decide +kernel
theorem dX12_readTemplate_74 : decode cX12_readTemplate 74 = .ok (.ior, 1) := by decide +kernel
theorem dX12_readTemplate_75 : decode cX12_readTemplate 75 = .ok (.istore_n 2, 1) := by decide +kernel
theorem dX12_readTemplate_76 : decode cX12_readTemplate 76 = .ok (.aload_n 0, 1) := by decide +kernel
theorem dX12_readTemplate_77 : decode cX12_readTemplate 77 = .ok (.getfield 13, 3) := by decide +kernel
theorem dX12_readTemplate_80 : decode cX12_readTemplate 80 = .ok (.bipush 15, 2) := by decide +kernel
theorem dX12_readTemplate_82 : decode cX12_readTemplate 82 = .ok (.bipush 9, 2) := by decide +kernel
theorem dX12_readTemplate_84 : decode cX12_readTemplate 84 = .ok (.iload_n 1, 1) := by decide +kernel
theorem dX12_readTemplate_85 : decode cX12_readTemplate 85 = .ok (.imul, 1) := by decide +kernel
theorem dX12_readTemplate_86 : decode cX12_readTemplate 86 = .ok (.iadd, 1) := by decide +kernel
theorem dX12_readTemplate_87 : decode cX12_readTemplate 87 = .ok (.iload_n 3, 1) := by decide +kernel
theorem dX12_readTemplate_88 : decode cX12_readTemplate 88 = .ok (.iadd, 1) := by decide +kernel
theorem dX12_readTemplate_89 : decode cX12_readTemplate 89 = .ok (.aload_n 0, 1) := by decide +kernel
theorem dX12_readTemplate_90 : decode cX12_readTemplate 90 = .ok (.invokevirtual 503, 3) := by decide +kernel
theorem dX12_readTemplate_93 : decode cX12_readTemplate 93 = .ok (.iastore, 1) := by decide +kernel
theorem dX12_readTemplate_94 : decode cX12_readTemplate 94 = .ok (.iinc 3 1, 3) := by decide +kernel
theorem dX12_readTemplate_97 : decode cX12_readTemplate 97 = .ok (.aload_n 0, 1) := by decide +kernel
theorem dX12_readTemplate_98 : decode cX12_readTemplate 98 = .ok (.invokevirtual 489, 3) := by decide +kernel
theorem dX12_readTemplate_101 : decode cX12_readTemplate 101 = .ok (.goto (-60), 3) := by decide +kernel
theorem dX12_readTemplate_104 : decode cX12_readTemplate 104 = .ok (.aload_n 0, 1) := by decide +kernel
theorem dX12_readTemplate_105 : decode cX12_readTemplate 105 = .ok (.getfield 13, 3) := by decide +kernel
theorem dX12_readTemplate_108 : decode cX12_readTemplate 108 = .ok (.bipush 11, 2) := by decide +kernel
theorem dX12_readTemplate_110 : decode cX12_readTemplate 110 = .ok (.iload_n 1, 1) := by decide +kernel
theorem dX12_readTemplate_111 : decode cX12_readTemplate 111 = .ok (.iadd, 1) := by decide +kernel
theorem dX12_readTemplate_112 : decode cX12_readTemplate 112 = .ok (.iload_n 3, 1) := by decide +kernel
theorem dX12_readTemplate_113 : decode cX12_readTemplate 113 = .ok (.iastore, 1) := by decide +kernel
theorem dX12_readTemplate_114 : decode cX12_readTemplate 114 = .ok (.aload_n 0, 1) := by decide +kernel
theorem dX12_readTemplate_115 : decode cX12_readTemplate 115 = .ok (.getfield 13, 3) := by decide +kernel
theorem dX12_readTemplate_118 : decode cX12_readTemplate 118 = .ok (.bipush 10, 2) := by decide +kernel
theorem dX12_readTemplate_120 : decode cX12_readTemplate 120 = .ok (.dup2, 1) := by decide +kernel
theorem dX12_readTemplate_121 : decode cX12_readTemplate 121 = .ok (.iaload, 1) := by decide +kernel
theorem dX12_readTemplate_122 : decode cX12_readTemplate 122 = .ok (.iconst 1, 1) := by decide +kernel
theorem dX12_readTemplate_123 : decode cX12_readTemplate 123 = .ok (.iadd, 1) := by decide +kernel
theorem dX12_readTemplate_124 : decode cX12_readTemplate 124 = .ok (.iastore, 1) := by decide +kernel
theorem dX12_readTemplate_125 : decode cX12_readTemplate 125 = .ok (.aload_n 0, 1) := by decide +kernel
theorem dX12_readTemplate_126 : decode cX12_readTemplate 126 = .ok (.invokevirtual 506, 3) := by decide +kernel
theorem dX12_readTemplate_129 : decode cX12_readTemplate 129 = .ok (.ireturn, 1) := by decide +kernel
set_option maxRecDepth 20000 in
theorem ggX12_readUse_X12_advanceToken : GoodIn wsX12_readUse wsX12_advanceToken := goodIn_ca (goodIn_r _ [7, 8, 9, 10, 11, 12, 13, 14, 15, 16, 17, 18, 6, 19, 20, 21, 22, 23, 24, 25, 26, 27, 28, 29, 30, 31, 32, 33, 52, 53, 54, 55, 56, 57, 58, 59, 60, 61, 62, 63, 64, 65, 66, 67, 68, 69, 70, 71, 72, 73, 74, 75, 76, 77, 78, 79, 80, 81, 82, 83, 84, 85, 86, 87, 88, 89, 90, 91, 92, 93, 94, 95, 96, 97, 98, 99, 100, 101, 102, 103, 104, 105] (by decide +kernel) (by decide +kernel)) (goodIn_sub (fun _ h => List.mem_cons_of_mem _ (List.mem_append_right _ h)) (by decide +kernel))
set_option maxRecDepth 20000 in
theorem gX12_readUse_X12_advanceToken : GoodIn wsX12_readUse (wsV RX12 489 RX12 yX12_advanceToken wsX12_advanceToken) := goodIn_app (goodIn_of _ (by decide +kernel)) ggX12_readUse_X12_advanceToken
set_option maxRecDepth 20000 in
theorem ggX12_readUse_X12_readNumber : GoodIn wsX12_readUse wsX12_readNumber := goodIn_ca (goodIn_r _ [37, 11, 10, 1, 38, 39, 40, 6, 41, 42, 9, 43, 27, 28, 29, 3, 4, 5, 7, 8, 12, 13, 14, 15, 16, 17, 18, 19, 20, 21, 22, 23, 24, 25, 26, 30, 31, 32, 33, 52, 53, 54, 55, 56, 57, 58, 59, 60, 61, 62, 63, 64, 65, 66, 67, 68, 69, 70, 71, 72, 73, 74, 75, 76, 77, 78, 79, 80, 81, 82, 83, 84, 85, 86, 87, 88, 89, 90, 91, 92, 93, 94, 95, 96, 97, 98, 99, 100, 101, 102, 103, 104, 105] (by decide +kernel) (by decide +kernel)) (goodIn_sub (fun _ h => List.mem_cons_of_mem _ (List.mem_append_right _ h)) (by decide +kernel))
set_option maxRecDepth 20000 in
theorem gX12_readUse_X12_readNumber : GoodIn wsX12_readUse (wsV RX12 492 RX12 yX12_readNumber wsX12_readNumber) := goodIn_app (goodIn_of _ (by decide +kernel)) ggX12_readUse_X12_readNumber
set_option maxRecDepth 20000 in
theorem ggX12_readUse_X12_readInto : GoodIn wsX12_readUse wsX12_readInto := goodIn_ca (goodIn_r _ [47, 2, 1, 34, 35, 36, 6, 37, 11, 10, 38, 39, 40, 41, 42, 9, 43, 27, 28, 29, 3, 4, 5, 7, 8, 12, 13, 14, 15, 16, 17, 18, 19, 20, 21, 22, 23, 24, 25, 26, 30, 31, 32, 33, 52, 53, 54, 55, 56, 57, 58, 59, 60, 61, 62, 63, 64, 65, 66, 67, 68, 69, 70, 71, 72, 73, 74, 75, 76, 77, 78, 79, 80, 81, 82, 83, 84, 85, 86, 87, 88, 89, 90, 91, 92, 93, 94, 95, 96, 97, 98, 99, 100, 101, 102, 103, 104, 105] (by decide +kernel) (by decide +kernel)) (goodIn_sub (fun _ h => List.mem_cons_of_mem _ (List.mem_append_right _ h)) (by decide +kernel))
set_option maxRecDepth 20000 in
theorem gX12_readUse_X12_readInto : GoodIn wsX12_readUse (wsV RX12 510 RX12 yX12_readInto wsX12_readInto) := goodIn_app (goodIn_of _ (by decide +kernel)) ggX12_readUse_X12_readInto
set_option maxRecDepth 20000 in
theorem ggX12_readUse_X12_readEnd : GoodIn wsX12_readUse wsX12_readEnd := goodIn_ca (goodIn_r _ [51, 11, 38, 39, 40, 6, 41, 42, 9, 43, 3, 4, 5, 7, 8, 10, 12, 13, 14, 15, 16, 17, 18, 19, 20, 21, 22, 23, 24, 25, 26, 27, 28, 29, 30, 31, 32, 33, 52, 53, 54, 55, 56, 57, 58, 59, 60, 61, 62, 63, 64, 65, 66, 67, 68, 69, 70, 71, 72, 73, 74, 75, 76, 77, 78, 79, 80, 81, 82, 83, 84, 85, 86, 87, 88, 89, 90, 91, 92, 93, 94, 95, 96, 97, 98, 99, 100, 101, 102, 103, 104, 105] (by decide +kernel) (by decide +kernel)) (goodIn_sub (fun _ h => List.mem_cons_of_mem _ (List.mem_append_right _ h)) (by decide +kernel))
set_option maxRecDepth 20000 in
theorem gX12_readUse_X12_readEnd : GoodIn wsX12_readUse (wsV RX12 506 RX12 yX12_readEnd wsX12_readEnd) := goodIn_app (goodIn_of _ (by decide +kernel)) ggX12_readUse_X12_readEnd
theorem dX12_readUse_0 : decode cX12_readUse 0 = .ok (.aload_n 0, 1) := by decide +kernel
theorem dX12_readUse_1 : decode cX12_readUse 1 = .ok (.invokevirtual 489, 3) := by decide +kernel
theorem dX12_readUse_4 : decode cX12_readUse 4 = .ok (.aload_n 0, 1) := by decide +kernel
theorem dX12_readUse_5 : decode cX12_readUse 5 = .ok (.iconst 0, 1) := by decide +kernel
theorem dX12_readUse_6 : decode cX12_readUse 6 = .ok (.sipush 255, 3) := by decide +kernel
theorem dX12_readUse_9 : decode cX12_readUse 9 = .ok (.invokevirtual 492, 3) := by decide +kernel
theorem dX12_readUse_12 : decode cX12_readUse 12 = .ok (.ifCond .ne 5, 3) := by decide +kernel
theorem dX12_readUse_15 : decode cX12_readUse 15 = .ok (.iconst 0, 1) := by decide +kernel
theorem dX12_readUse_16 : decode cX12_readUse 16 = .ok (.ireturn, 1) := by decide +kernel
theorem dX12_readUse_17 : decode cX12_readUse 17 = .ok (.aload_n 0, 1) := by decide +kernel
theorem dX12_readUse_18 : decode cX12_readUse 18 = .ok (.getfield 486, 3) := by decide +kernel
theorem dX12_readUse_21 : decode cX12_readUse 21 = .ok (.istore_n 1, 1) := by decide +kernel
theorem dX12_readUse_22 : decode cX12_readUse 22 = .ok (.aload_n 0, 1) := by decide +kernel
theorem dX12_readUse_23 : decode cX12_readUse 23 = .ok (.bipush 51, 2) := by decide +kernel
theorem dX12_readUse_25 : decode cX12_readUse 25 = .ok (.iload_n 1, 1) := by decide +kernel
theorem dX12_readUse_26 : decode cX12_readUse 26 = .ok (.iadd, 1) := by decide +kernel
theorem dX12_readUse_27 : decode cX12_readUse 27 = .ok (.iconst 0, 1) := by decide +kernel
theorem dX12_readUse_28 : decode cX12_readUse 28 = .ok (.aload_n 0, 1) := by decide +kernel
theorem dX12_readUse_29 : decode cX12_readUse 29 = .ok (.getfield 13, 3) := by decide +kernel
theorem dX12_readUse_32 : decode cX12_readUse 32 = .ok (.bipush 10, 2) := by decide +kernel
theorem dX12_readUse_34 : decode cX12_readUse 34 = .ok (.iaload, 1) := by decide +kernel
theorem dX12_readUse_35 : decode cX12_readUse 35 = .ok (.iconst 1, 1) := by decide +kernel
theorem dX12_readUse_36 : decode cX12_readUse 36 = .ok (.isub, 1) := by decide +kernel
theorem dX12_readUse_37 : decode cX12_readUse 37 = .ok (.invokevirtual 510, 3) := by decide +kernel
theorem dX12_readUse_40 : decode cX12_readUse 40 = .ok (.ifCond .eq 14, 3) := by decide +kernel
theorem dX12_readUse_43 : decode cX12_readUse 43 = .ok (.aload_n 0, 1) := by decide +kernel
theorem dX12_readUse_44 : decode cX12_readUse 44 = .ok (.invokevirtual 506, 3) := by decide +kernel
theorem dX12_readUse_47 : decode cX12_readUse 47 = .ok (.ifCond .eq 7, 3) := by decide +kernel
theorem dX12_readUse_50 : decode cX12_readUse 50 = .ok (.iconst 1, 1) := by decide +kernel
theorem dX12_readUse_51 : decode cX12_readUse 51 = .ok (.goto 4, 3) := by decide +kernel
theorem dX12_readUse_54 : decode cX12_readUse 54 = .ok (.iconst 0, 1) := by decide +kernel
theorem dX12_readUse_55 : decode cX12_readUse 55 = .ok (.ireturn, 1) := by decide +kernel
set_option maxRecDepth 20000 in
theorem ggX12_readDrop_X12_advanceToken : GoodIn wsX12_readDrop wsX12_advanceToken := goodIn_ca (goodIn_r _ [6, 7, 8, 9, 10, 11, 12, 13, 14, 15, 16, 17, 5, 18, 19, 20, 21, 22, 23, 24, 25, 26, 27, 28, 29, 30, 31, 32, 52, 53, 54, 55, 56, 57, 58, 59, 60, 61, 62, 63, 64, 65, 66, 67, 68, 69, 70, 71, 72, 73, 74, 75, 76, 77, 78, 79, 80, 81, 82, 83, 84, 85, 86, 87, 88, 89, 90, 91, 92, 93, 94, 95, 96, 97, 98, 99, 100, 101, 102, 103, 104, 105] (by decide +kernel) (by decide +kernel)) (goodIn_sub (fun _ h => List.mem_cons_of_mem _ (List.mem_append_right _ h)) (by decide +kernel))
set_option maxRecDepth 20000 in
theorem gX12_readDrop_X12_advanceToken : GoodIn wsX12_readDrop (wsV RX12 489 RX12 yX12_advanceToken wsX12_advanceToken) := goodIn_app (goodIn_of _ (by decide +kernel)) ggX12_readDrop_X12_advanceToken
set_option maxRecDepth 20000 in
theorem ggX12_readDrop_X12_fieldHere : GoodIn wsX12_readDrop wsX12_fieldHere := goodIn_r _ [36, 10, 9, 37, 38, 39, 40, 5, 41, 12, 11, 52, 53, 54, 55, 56, 57, 58, 59, 60, 61, 62, 63, 64, 65, 66, 67, 68, 69, 70, 71, 72, 73, 74, 75, 76, 77, 78, 79, 80, 81, 82, 83, 84, 85, 86, 87, 88, 89, 90, 91, 92, 93, 94, 95, 96, 97, 98, 99, 100, 101, 102, 103, 104, 105] (by decide +kernel) (by decide +kernel)
set_option maxRecDepth 20000 in
theorem gX12_readDrop_X12_fieldHere : GoodIn wsX12_readDrop (wsV RX12 503 RX12 yX12_fieldHere wsX12_fieldHere) := goodIn_app (goodIn_of _ (by decide +kernel)) ggX12_readDrop_X12_fieldHere
set_option maxRecDepth 20000 in
theorem ggX12_readDrop_X12_fail : GoodIn wsX12_readDrop wsX12_fail := goodIn_r _ [45, 46, 8, 47, 52, 53, 54, 55, 56, 57, 58, 59, 60, 61, 62, 63, 64, 65, 66, 67, 68, 69, 70, 71, 72, 73, 74, 75, 76, 77, 78, 79, 80, 81, 82, 83, 84, 85, 86, 87, 88, 89, 90, 91, 92, 93, 94, 95, 96, 97, 98, 99, 100, 101, 102, 103, 104, 105] (by decide +kernel) (by decide +kernel)
set_option maxRecDepth 20000 in
theorem gX12_readDrop_X12_fail : GoodIn wsX12_readDrop (wsV RX12 483 RX12 yX12_fail wsX12_fail) := goodIn_app (goodIn_of _ (by decide +kernel)) ggX12_readDrop_X12_fail
set_option maxRecDepth 20000 in
theorem ggX12_readDrop_X12_readEnd : GoodIn wsX12_readDrop wsX12_readEnd := goodIn_ca (goodIn_r _ [51, 10, 42, 43, 44, 5, 45, 46, 8, 47, 2, 3, 4, 6, 7, 9, 11, 12, 13, 14, 15, 16, 17, 18, 19, 20, 21, 22, 23, 24, 25, 26, 27, 28, 29, 30, 31, 32, 52, 53, 54, 55, 56, 57, 58, 59, 60, 61, 62, 63, 64, 65, 66, 67, 68, 69, 70, 71, 72, 73, 74, 75, 76, 77, 78, 79, 80, 81, 82, 83, 84, 85, 86, 87, 88, 89, 90, 91, 92, 93, 94, 95, 96, 97, 98, 99, 100, 101, 102, 103, 104, 105] (by decide +kernel) (by decide +kernel)) (goodIn_sub (fun _ h => List.mem_cons_of_mem _ (List.mem_append_right _ h)) (by decide +kernel))
set_option maxRecDepth 20000 in
theorem gX12_readDrop_X12_readEnd : GoodIn wsX12_readDrop (wsV RX12 506 RX12 yX12_readEnd wsX12_readEnd) := goodIn_app (goodIn_of _ (by decide +kernel)) ggX12_readDrop_X12_readEnd
theorem dX12_readDrop_0 : decode cX12_readDrop 0 = .ok (.aload_n 0, 1) := by decide +kernel
theorem dX12_readDrop_1 : decode cX12_readDrop 1 = .ok (.invokevirtual 489, 3) := by decide +kernel
theorem dX12_readDrop_4 : decode cX12_readDrop 4 = .ok (.aload_n 0, 1) := by decide +kernel
theorem dX12_readDrop_5 : decode cX12_readDrop 5 = .ok (.invokevirtual 503, 3) := by decide +kernel
theorem dX12_readDrop_8 : decode cX12_readDrop 8 = .ok (.iconst (-1), 1) := by decide +kernel
theorem dX12_readDrop_9 : decode cX12_readDrop 9 = .ok (.if_icmp .ne 9, 3) := by decide +kernel
theorem dX12_readDrop_12 : decode cX12_readDrop 12 = .ok (.aload_n 0, 1) := by decide +kernel
theorem dX12_readDrop_13 : decode cX12_readDrop 13 = .ok (.iconst 1, 1) := by decide +kernel
theorem dX12_readDrop_14 : decode cX12_readDrop 14 = .ok (.invokevirtual 483, 3) := by decide +kernel
theorem dX12_readDrop_17 : decode cX12_readDrop 17 = .ok (.ireturn, 1) := by decide +kernel
theorem dX12_readDrop_18 : decode cX12_readDrop 18 = .ok (.aload_n 0, 1) := by decide +kernel
theorem dX12_readDrop_19 : decode cX12_readDrop 19 = .ok (.getfield 13, 3) := by decide +kernel
theorem dX12_readDrop_22 : decode cX12_readDrop 22 = .ok (.bipush 9, 2) := by decide +kernel
theorem dX12_readDrop_24 : decode cX12_readDrop 24 = .ok (.dup2, 1) := by decide +kernel
theorem dX12_readDrop_25 : decode cX12_readDrop 25 = .ok (.iaload, 1) := by decide +kernel
theorem dX12_readDrop_26 : decode cX12_readDrop 26 = .ok (.iconst 1, 1) := by decide +kernel
theorem dX12_readDrop_27 : decode cX12_readDrop 27 = .ok (.aload_n 0, 1) := by decide +kernel
theorem dX12_readDrop_28 : decode cX12_readDrop 28 = .ok (.invokevirtual 503, 3) := by decide +kernel
theorem dX12_readDrop_31 : decode cX12_readDrop 31 = .ok (.ishl, 1) := by decide +kernel
theorem dX12_readDrop_32 : decode cX12_readDrop 32 = .ok (.iconst (-1), 1) := by decide +kernel
theorem dX12_readDrop_33 : decode cX12_readDrop 33 = .ok (.ixor, 1) := by decide +kernel
theorem dX12_readDrop_34 : decode cX12_readDrop 34 = .ok (.iand, 1) := by decide +kernel
theorem dX12_readDrop_35 : decode cX12_readDrop 35 = .ok (.iastore, 1) := by decide +kernel
theorem dX12_readDrop_36 : decode cX12_readDrop 36 = .ok (.aload_n 0, 1) := by decide +kernel
theorem dX12_readDrop_37 : decode cX12_readDrop 37 = .ok (.invokevirtual 489, 3) := by decide +kernel
theorem dX12_readDrop_40 : decode cX12_readDrop 40 = .ok (.aload_n 0, 1) := by decide +kernel
theorem dX12_readDrop_41 : decode cX12_readDrop 41 = .ok (.invokevirtual 506, 3) := by decide +kernel
theorem dX12_readDrop_44 : decode cX12_readDrop 44 = .ok (.ireturn, 1) := by decide +kernel
set_option maxRecDepth 20000 in
theorem ggX12_readSetting_X12_advanceToken : GoodIn wsX12_readSetting wsX12_advanceToken := goodIn_ca (goodIn_r _ [5, 6, 7, 8, 9, 10, 11, 12, 13, 14, 15, 16, 4, 17, 18, 19, 20, 21, 22, 23, 24, 25, 26, 27, 28, 29, 30, 31, 52, 53, 54, 55, 56, 57, 58, 59, 60, 61, 62, 63, 64, 65, 66, 67, 68, 69, 70, 71, 72, 73, 74, 75, 76, 77, 78, 79, 80, 81, 82, 83, 84, 85, 86, 87, 88, 89, 90, 91, 92, 93, 94, 95, 96, 97, 98, 99, 100, 101, 102, 103, 104, 105] (by decide +kernel) (by decide +kernel)) (goodIn_sub (fun _ h => List.mem_cons_of_mem _ (List.mem_append_right _ h)) (by decide +kernel))
set_option maxRecDepth 20000 in
theorem gX12_readSetting_X12_advanceToken : GoodIn wsX12_readSetting (wsV RX12 489 RX12 yX12_advanceToken wsX12_advanceToken) := goodIn_app (goodIn_of _ (by decide +kernel)) ggX12_readSetting_X12_advanceToken
set_option maxRecDepth 20000 in
theorem ggX12_readSetting_X12_readInto : GoodIn wsX12_readSetting wsX12_readInto := goodIn_ca (goodIn_r _ [35, 36, 37, 38, 39, 40, 4, 41, 9, 8, 42, 43, 44, 45, 46, 7, 47, 25, 26, 27, 1, 2, 3, 5, 6, 10, 11, 12, 13, 14, 15, 16, 17, 18, 19, 20, 21, 22, 23, 24, 28, 29, 30, 31, 52, 53, 54, 55, 56, 57, 58, 59, 60, 61, 62, 63, 64, 65, 66, 67, 68, 69, 70, 71, 72, 73, 74, 75, 76, 77, 78, 79, 80, 81, 82, 83, 84, 85, 86, 87, 88, 89, 90, 91, 92, 93, 94, 95, 96, 97, 98, 99, 100, 101, 102, 103, 104, 105] (by decide +kernel) (by decide +kernel)) (goodIn_sub (fun _ h => List.mem_cons_of_mem _ (List.mem_append_right _ h)) (by decide +kernel))
set_option maxRecDepth 20000 in
theorem gX12_readSetting_X12_readInto : GoodIn wsX12_readSetting (wsV RX12 510 RX12 yX12_readInto wsX12_readInto) := goodIn_app (goodIn_of _ (by decide +kernel)) ggX12_readSetting_X12_readInto
set_option maxRecDepth 20000 in
theorem ggX12_readSetting_X12_readEnd : GoodIn wsX12_readSetting wsX12_readEnd := goodIn_ca (goodIn_r _ [51, 9, 42, 43, 44, 4, 45, 46, 7, 47, 1, 2, 3, 5, 6, 8, 10, 11, 12, 13, 14, 15, 16, 17, 18, 19, 20, 21, 22, 23, 24, 25, 26, 27, 28, 29, 30, 31, 52, 53, 54, 55, 56, 57, 58, 59, 60, 61, 62, 63, 64, 65, 66, 67, 68, 69, 70, 71, 72, 73, 74, 75, 76, 77, 78, 79, 80, 81, 82, 83, 84, 85, 86, 87, 88, 89, 90, 91, 92, 93, 94, 95, 96, 97, 98, 99, 100, 101, 102, 103, 104, 105] (by decide +kernel) (by decide +kernel)) (goodIn_sub (fun _ h => List.mem_cons_of_mem _ (List.mem_append_right _ h)) (by decide +kernel))
set_option maxRecDepth 20000 in
theorem gX12_readSetting_X12_readEnd : GoodIn wsX12_readSetting (wsV RX12 506 RX12 yX12_readEnd wsX12_readEnd) := goodIn_app (goodIn_of _ (by decide +kernel)) ggX12_readSetting_X12_readEnd
theorem dX12_readSetting_0 : decode cX12_readSetting 0 = .ok (.aload_n 0, 1) := by decide +kernel
theorem dX12_readSetting_1 : decode cX12_readSetting 1 = .ok (.invokevirtual 489, 3) := by decide +kernel
theorem dX12_readSetting_4 : decode cX12_readSetting 4 = .ok (.aload_n 0, 1) := by decide +kernel
theorem dX12_readSetting_5 : decode cX12_readSetting 5 = .ok (.iload_n 1, 1) := by decide +kernel
theorem dX12_readSetting_6 : decode cX12_readSetting 6 = .ok (.iload_n 2, 1) := by decide +kernel
theorem dX12_readSetting_7 : decode cX12_readSetting 7 = .ok (.iload_n 3, 1) := by decide +kernel
theorem dX12_readSetting_8 : decode cX12_readSetting 8 = .ok (.invokevirtual 510, 3) := by decide +kernel
theorem dX12_readSetting_11 : decode cX12_readSetting 11 = .ok (.ifCond .eq 14, 3) := by decide +kernel
theorem dX12_readSetting_14 : decode cX12_readSetting 14 = .ok (.aload_n 0, 1) := by decide +kernel
theorem dX12_readSetting_15 : decode cX12_readSetting 15 = .ok (.invokevirtual 506, 3) := by decide +kernel
theorem dX12_readSetting_18 : decode cX12_readSetting 18 = .ok (.ifCond .eq 7, 3) := by decide +kernel
theorem dX12_readSetting_21 : decode cX12_readSetting 21 = .ok (.iconst 1, 1) := by decide +kernel
theorem dX12_readSetting_22 : decode cX12_readSetting 22 = .ok (.goto 4, 3) := by decide +kernel
theorem dX12_readSetting_25 : decode cX12_readSetting 25 = .ok (.iconst 0, 1) := by decide +kernel
theorem dX12_readSetting_26 : decode cX12_readSetting 26 = .ok (.ireturn, 1) := by decide +kernel

set_option maxRecDepth 20000 in
theorem ggX2_clear_X1_get : GoodIn wsX2_clear wsX1_get := goodIn_ca (goodIn_r _ [18, 19, 35, 36, 37, 38, 39, 40] rfl (by decide +kernel)) (goodIn_sub (fun _ h => List.mem_cons_of_mem _ (List.mem_append_right _ h)) (by decide +kernel))
set_option maxRecDepth 20000 in
theorem gX2_clear_X1_get : GoodIn wsX2_clear (wsV RX2 64 RX1 yX1_get wsX1_get) := goodIn_app (goodIn_of _ (by decide +kernel)) ggX2_clear_X1_get
theorem dX2_clear_0 : decode cX2_clear 0 = .ok (.aload_n 0, 1) := by decide +kernel
theorem dX2_clear_1 : decode cX2_clear 1 = .ok (.getfield 14, 3) := by decide +kernel
theorem dX2_clear_4 : decode cX2_clear 4 = .ok (.iconst 0, 1) := by decide +kernel
theorem dX2_clear_5 : decode cX2_clear 5 = .ok (.putfield 61, 3) := by decide +kernel
theorem dX2_clear_8 : decode cX2_clear 8 = .ok (.aload_n 0, 1) := by decide +kernel
theorem dX2_clear_9 : decode cX2_clear 9 = .ok (.getfield 20, 3) := by decide +kernel
theorem dX2_clear_12 : decode cX2_clear 12 = .ok (.iconst 0, 1) := by decide +kernel
theorem dX2_clear_13 : decode cX2_clear 13 = .ok (.putfield 61, 3) := by decide +kernel
theorem dX2_clear_16 : decode cX2_clear 16 = .ok (.aload_n 0, 1) := by decide +kernel
theorem dX2_clear_17 : decode cX2_clear 17 = .ok (.iconst 0, 1) := by decide +kernel
theorem dX2_clear_18 : decode cX2_clear 18 = .ok (.putfield 23, 3) := by decide +kernel
theorem dX2_clear_21 : decode cX2_clear 21 = .ok (.aload_n 0, 1) := by decide +kernel
theorem dX2_clear_22 : decode cX2_clear 22 = .ok (.aload_n 0, 1) := by decide +kernel
theorem dX2_clear_23 : decode cX2_clear 23 = .ok (.getfield 53, 3) := by decide +kernel
theorem dX2_clear_26 : decode cX2_clear 26 = .ok (.iconst 0, 1) := by decide +kernel
theorem dX2_clear_27 : decode cX2_clear 27 = .ok (.invokevirtual 64, 3) := by decide +kernel
theorem dX2_clear_30 : decode cX2_clear 30 = .ok (.putfield 27, 3) := by decide +kernel
theorem dX2_clear_33 : decode cX2_clear 33 = .ok (.aload_n 0, 1) := by decide +kernel
theorem dX2_clear_34 : decode cX2_clear 34 = .ok (.iconst 1, 1) := by decide +kernel
theorem dX2_clear_35 : decode cX2_clear 35 = .ok (.putfield 30, 3) := by decide +kernel
theorem dX2_clear_38 : decode cX2_clear 38 = .ok (.aload_n 0, 1) := by decide +kernel
theorem dX2_clear_39 : decode cX2_clear 39 = .ok (.iconst 0, 1) := by decide +kernel
theorem dX2_clear_40 : decode cX2_clear 40 = .ok (.putfield 33, 3) := by decide +kernel
theorem dX2_clear_43 : decode cX2_clear 43 = .ok (.aload_n 0, 1) := by decide +kernel
theorem dX2_clear_44 : decode cX2_clear 44 = .ok (.iconst 0, 1) := by decide +kernel
theorem dX2_clear_45 : decode cX2_clear 45 = .ok (.putfield 37, 3) := by decide +kernel
theorem dX2_clear_48 : decode cX2_clear 48 = .ok (.aload_n 0, 1) := by decide +kernel
theorem dX2_clear_49 : decode cX2_clear 49 = .ok (.iconst 0, 1) := by decide +kernel
theorem dX2_clear_50 : decode cX2_clear 50 = .ok (.putfield 40, 3) := by decide +kernel
theorem dX2_clear_53 : decode cX2_clear 53 = .ok (.aload_n 0, 1) := by decide +kernel
theorem dX2_clear_54 : decode cX2_clear 54 = .ok (.lconst 0, 1) := by decide +kernel
theorem dX2_clear_55 : decode cX2_clear 55 = .ok (.putfield 43, 3) := by decide +kernel
theorem dX2_clear_58 : decode cX2_clear 58 = .ok (.aload_n 0, 1) := by decide +kernel
theorem dX2_clear_59 : decode cX2_clear 59 = .ok (.lconst 0, 1) := by decide +kernel
theorem dX2_clear_60 : decode cX2_clear 60 = .ok (.putfield 47, 3) := by decide +kernel
theorem dX2_clear_63 : decode cX2_clear 63 = .ok (.aload_n 0, 1) := by decide +kernel
theorem dX2_clear_64 : decode cX2_clear 64 = .ok (.lconst 0, 1) := by decide +kernel
theorem dX2_clear_65 : decode cX2_clear 65 = .ok (.putfield 50, 3) := by decide +kernel
theorem dX2_clear_68 : decode cX2_clear 68 = .ok (.return_, 1) := by decide +kernel
set_option maxRecDepth 20000 in
theorem ggX2_remember_X4_indexOf : GoodIn wsX2_remember wsX4_indexOf := goodIn_r _ [9, 10, 11, 12, 58, 59, 53, 54, 55, 56, 57] rfl (by decide +kernel)
set_option maxRecDepth 20000 in
theorem gX2_remember_X4_indexOf : GoodIn wsX2_remember (wsV RX2 87 RX4 yX4_indexOf wsX4_indexOf) := goodIn_app (goodIn_of _ (by decide +kernel)) ggX2_remember_X4_indexOf
set_option maxRecDepth 20000 in
theorem ggX2_remember_X4_isFull : GoodIn wsX2_remember wsX4_isFull := goodIn_r _ [16, 10, 11, 58, 59] rfl (by decide +kernel)
set_option maxRecDepth 20000 in
theorem gX2_remember_X4_isFull : GoodIn wsX2_remember (wsV RX2 91 RX4 yX4_isFull wsX4_isFull) := goodIn_app (goodIn_of _ (by decide +kernel)) ggX2_remember_X4_isFull
set_option maxRecDepth 20000 in
theorem ggX2_remember_X4_addFlow : GoodIn wsX2_remember wsX4_addFlow := goodIn_r _ [20, 10, 11, 21, 22, 23, 24, 25, 26, 27, 8, 28, 29, 30, 31, 32, 33, 34, 35, 36, 37, 38, 58, 59, 53, 54, 55, 56, 57] rfl (by decide +kernel)
set_option maxRecDepth 20000 in
theorem gX2_remember_X4_addFlow : GoodIn wsX2_remember (wsV RX2 94 RX4 yX4_addFlow wsX4_addFlow) := goodIn_app (goodIn_of _ (by decide +kernel)) ggX2_remember_X4_addFlow
set_option maxRecDepth 20000 in
theorem ggX2_remember_X4_flowAt : GoodIn wsX2_remember wsX4_flowAt := goodIn_r _ [28, 11, 58, 59] rfl (by decide +kernel)
set_option maxRecDepth 20000 in
theorem gX2_remember_X4_flowAt : GoodIn wsX2_remember (wsV RX2 98 RX4 yX4_flowAt wsX4_flowAt) := goodIn_app (goodIn_of _ (by decide +kernel)) ggX2_remember_X4_flowAt
theorem dX2_remember_0 : decode cX2_remember 0 = .ok (.aload_n 0, 1) := by decide +kernel
theorem dX2_remember_1 : decode cX2_remember 1 = .ok (.getfield 20, 3) := by decide +kernel
theorem dX2_remember_4 : decode cX2_remember 4 = .ok (.lload_n 1, 1) := by decide +kernel
theorem dX2_remember_5 : decode cX2_remember 5 = .ok (.invokevirtual 87, 3) := by decide +kernel
theorem dX2_remember_8 : decode cX2_remember 8 = .ok (.istore 5, 2) := by decide +kernel
theorem dX2_remember_10 : decode cX2_remember 10 = .ok (.iload 5, 2) := by decide +kernel
theorem dX2_remember_12 : decode cX2_remember 12 = .ok (.iconst (-1), 1) := by decide +kernel
theorem dX2_remember_13 : decode cX2_remember 13 = .ok (.if_icmp .ne 14, 3) := by decide +kernel
theorem dX2_remember_16 : decode cX2_remember 16 = .ok (.aload_n 0, 1) := by decide +kernel
theorem dX2_remember_17 : decode cX2_remember 17 = .ok (.getfield 20, 3) := by decide +kernel
theorem dX2_remember_20 : decode cX2_remember 20 = .ok (.invokevirtual 91, 3) := by decide +kernel
theorem dX2_remember_23 : decode cX2_remember 23 = .ok (.ifCond .eq 4, 3) := by decide +kernel
theorem dX2_remember_26 : decode cX2_remember 26 = .ok (.return_, 1) := by decide +kernel
theorem dX2_remember_27 : decode cX2_remember 27 = .ok (.iload 5, 2) := by decide +kernel
theorem dX2_remember_29 : decode cX2_remember 29 = .ok (.iconst (-1), 1) := by decide +kernel
theorem dX2_remember_30 : decode cX2_remember 30 = .ok (.if_icmp .ne 18, 3) := by decide +kernel
theorem dX2_remember_33 : decode cX2_remember 33 = .ok (.aload_n 0, 1) := by decide +kernel
theorem dX2_remember_34 : decode cX2_remember 34 = .ok (.getfield 20, 3) := by decide +kernel
theorem dX2_remember_37 : decode cX2_remember 37 = .ok (.lload_n 1, 1) := by decide +kernel
theorem dX2_remember_38 : decode cX2_remember 38 = .ok (.aload_n 0, 1) := by decide +kernel
theorem dX2_remember_39 : decode cX2_remember 39 = .ok (.getfield 23, 3) := by decide +kernel
theorem dX2_remember_42 : decode cX2_remember 42 = .ok (.invokevirtual 94, 3) := by decide +kernel
theorem dX2_remember_45 : decode cX2_remember 45 = .ok (.goto 12, 3) := by decide +kernel
theorem dX2_remember_48 : decode cX2_remember 48 = .ok (.aload_n 0, 1) := by decide +kernel
theorem dX2_remember_49 : decode cX2_remember 49 = .ok (.getfield 20, 3) := by decide +kernel
theorem dX2_remember_52 : decode cX2_remember 52 = .ok (.iload 5, 2) := by decide +kernel
theorem dX2_remember_54 : decode cX2_remember 54 = .ok (.invokevirtual 98, 3) := by decide +kernel
theorem dX2_remember_57 : decode cX2_remember 57 = .ok (.astore 6, 2) := by decide +kernel
theorem dX2_remember_59 : decode cX2_remember 59 = .ok (.aload 6, 2) := by decide +kernel
theorem dX2_remember_61 : decode cX2_remember 61 = .ok (.dup, 1) := by decide +kernel
theorem dX2_remember_62 : decode cX2_remember 62 = .ok (.getfield 102, 3) := by decide +kernel
theorem dX2_remember_65 : decode cX2_remember 65 = .ok (.iload 4, 2) := by decide +kernel
theorem dX2_remember_67 : decode cX2_remember 67 = .ok (.i2l, 1) := by decide +kernel
theorem dX2_remember_68 : decode cX2_remember 68 = .ok (.ladd, 1) := by decide +kernel
theorem dX2_remember_69 : decode cX2_remember 69 = .ok (.putfield 102, 3) := by decide +kernel
theorem dX2_remember_72 : decode cX2_remember 72 = .ok (.aload 6, 2) := by decide +kernel
theorem dX2_remember_74 : decode cX2_remember 74 = .ok (.dup, 1) := by decide +kernel
theorem dX2_remember_75 : decode cX2_remember 75 = .ok (.getfield 107, 3) := by decide +kernel
theorem dX2_remember_78 : decode cX2_remember 78 = .ok (.iload 4, 2) := by decide +kernel
theorem dX2_remember_80 : decode cX2_remember 80 = .ok (.i2l, 1) := by decide +kernel
theorem dX2_remember_81 : decode cX2_remember 81 = .ok (.iload_n 3, 1) := by decide +kernel
theorem dX2_remember_82 : decode cX2_remember 82 = .ok (.i2l, 1) := by decide +kernel
theorem dX2_remember_83 : decode cX2_remember 83 = .ok (.lmul, 1) := by decide +kernel
theorem dX2_remember_84 : decode cX2_remember 84 = .ok (.ladd, 1) := by decide +kernel
theorem dX2_remember_85 : decode cX2_remember 85 = .ok (.putfield 107, 3) := by decide +kernel
theorem dX2_remember_88 : decode cX2_remember 88 = .ok (.return_, 1) := by decide +kernel
set_option maxRecDepth 20000 in
theorem ggX2_trueValue_X4_indexOf : GoodIn wsX2_trueValue wsX4_indexOf := goodIn_r _ [6, 7, 8, 9, 42, 43, 44, 45, 46, 47, 48] rfl (by decide +kernel)
set_option maxRecDepth 20000 in
theorem gX2_trueValue_X4_indexOf : GoodIn wsX2_trueValue (wsV RX2 87 RX4 yX4_indexOf wsX4_indexOf) := goodIn_app (goodIn_of _ (by decide +kernel)) ggX2_trueValue_X4_indexOf
set_option maxRecDepth 20000 in
theorem ggX2_trueValue_X4_flowAt : GoodIn wsX2_trueValue wsX4_flowAt := goodIn_r _ [13, 8, 42, 43] rfl (by decide +kernel)
set_option maxRecDepth 20000 in
theorem gX2_trueValue_X4_flowAt : GoodIn wsX2_trueValue (wsV RX2 98 RX4 yX4_flowAt wsX4_flowAt) := goodIn_app (goodIn_of _ (by decide +kernel)) ggX2_trueValue_X4_flowAt
set_option maxRecDepth 20000 in
theorem ggX2_trueValue_X3_value : GoodIn wsX2_trueValue wsX3_value := goodIn_ca (goodIn_r _ [18, 19, 20, 21, 22, 23, 24, 25, 17, 26, 27, 28, 44, 45, 46, 47, 48] rfl (by decide +kernel)) (goodIn_sub (fun _ h => List.mem_cons_of_mem _ (List.mem_append_right _ h)) (by decide +kernel))
set_option maxRecDepth 20000 in
theorem gX2_trueValue_X3_value : GoodIn wsX2_trueValue (wsV RX2 110 RX3 yX3_value wsX3_value) := goodIn_app (goodIn_of _ (by decide +kernel)) ggX2_trueValue_X3_value
theorem dX2_trueValue_0 : decode cX2_trueValue 0 = .ok (.aload_n 0, 1) := by decide +kernel
theorem dX2_trueValue_1 : decode cX2_trueValue 1 = .ok (.getfield 20, 3) := by decide +kernel
theorem dX2_trueValue_4 : decode cX2_trueValue 4 = .ok (.lload_n 1, 1) := by decide +kernel
theorem dX2_trueValue_5 : decode cX2_trueValue 5 = .ok (.invokevirtual 87, 3) := by decide +kernel
theorem dX2_trueValue_8 : decode cX2_trueValue 8 = .ok (.istore 4, 2) := by decide +kernel
theorem dX2_trueValue_10 : decode cX2_trueValue 10 = .ok (.iload 4, 2) := by decide +kernel
theorem dX2_trueValue_12 : decode cX2_trueValue 12 = .ok (.iconst (-1), 1) := by decide +kernel
theorem dX2_trueValue_13 : decode cX2_trueValue 13 = .ok (.if_icmp .ne 7, 3) := by decide +kernel
theorem dX2_trueValue_16 : decode cX2_trueValue 16 = .ok (.lconst 0, 1) := by decide +kernel
theorem dX2_trueValue_17 : decode cX2_trueValue 17 = .ok (.goto 24, 3) := by decide +kernel
theorem dX2_trueValue_20 : decode cX2_trueValue 20 = .ok (.aload_n 0, 1) := by decide +kernel
theorem dX2_trueValue_21 : decode cX2_trueValue 21 = .ok (.getfield 20, 3) := by decide +kernel
theorem dX2_trueValue_24 : decode cX2_trueValue 24 = .ok (.iload 4, 2) := by decide +kernel
theorem dX2_trueValue_26 : decode cX2_trueValue 26 = .ok (.invokevirtual 98, 3) := by decide +kernel
theorem dX2_trueValue_29 : decode cX2_trueValue 29 = .ok (.iload_n 3, 1) := by decide +kernel
theorem dX2_trueValue_30 : decode cX2_trueValue 30 = .ok (.ifCond .ne 7, 3) := by decide +kernel
theorem dX2_trueValue_33 : decode cX2_trueValue 33 = .ok (.iconst 4, 1) := by decide +kernel
theorem dX2_trueValue_34 : decode cX2_trueValue 34 = .ok (.goto 4, 3) := by decide +kernel
theorem dX2_trueValue_37 : decode cX2_trueValue 37 = .ok (.iconst 5, 1) := by decide +kernel
theorem dX2_trueValue_38 : decode cX2_trueValue 38 = .ok (.invokevirtual 110, 3) := by decide +kernel
theorem dX2_trueValue_41 : decode cX2_trueValue 41 = .ok (.lreturn, 1) := by decide +kernel
theorem dX2_isSampled_0 : decode cX2_isSampled 0 = .ok (.aload_n 0, 1) := by decide +kernel
theorem dX2_isSampled_1 : decode cX2_isSampled 1 = .ok (.getfield 27, 3) := by decide +kernel
theorem dX2_isSampled_4 : decode cX2_isSampled 4 = .ok (.iconst 1, 1) := by decide +kernel
theorem dX2_isSampled_5 : decode cX2_isSampled 5 = .ok (.if_icmp .gt 5, 3) := by decide +kernel
theorem dX2_isSampled_8 : decode cX2_isSampled 8 = .ok (.iconst 1, 1) := by decide +kernel
theorem dX2_isSampled_9 : decode cX2_isSampled 9 = .ok (.ireturn, 1) := by decide +kernel
theorem dX2_isSampled_10 : decode cX2_isSampled 10 = .ok (.aload_n 0, 1) := by decide +kernel
theorem dX2_isSampled_11 : decode cX2_isSampled 11 = .ok (.ldc 114, 2) := by decide +kernel
theorem dX2_isSampled_13 : decode cX2_isSampled 13 = .ok (.aload_n 0, 1) := by decide +kernel
theorem dX2_isSampled_14 : decode cX2_isSampled 14 = .ok (.getfield 30, 3) := by decide +kernel
theorem dX2_isSampled_17 : decode cX2_isSampled 17 = .ok (.imul, 1) := by decide +kernel
theorem dX2_isSampled_18 : decode cX2_isSampled 18 = .ok (.sipush 12345, 3) := by decide +kernel
theorem dX2_isSampled_21 : decode cX2_isSampled 21 = .ok (.iadd, 1) := by decide +kernel
theorem dX2_isSampled_22 : decode cX2_isSampled 22 = .ok (.ldc 115, 2) := by decide +kernel
theorem dX2_isSampled_24 : decode cX2_isSampled 24 = .ok (.iand, 1) := by decide +kernel
theorem dX2_isSampled_25 : decode cX2_isSampled 25 = .ok (.putfield 30, 3) := by decide +kernel
theorem dX2_isSampled_28 : decode cX2_isSampled 28 = .ok (.aload_n 0, 1) := by decide +kernel
theorem dX2_isSampled_29 : decode cX2_isSampled 29 = .ok (.getfield 30, 3) := by decide +kernel
theorem dX2_isSampled_32 : decode cX2_isSampled 32 = .ok (.sipush 256, 3) := by decide +kernel
theorem dX2_isSampled_35 : decode cX2_isSampled 35 = .ok (.idiv, 1) := by decide +kernel
theorem dX2_isSampled_36 : decode cX2_isSampled 36 = .ok (.aload_n 0, 1) := by decide +kernel
theorem dX2_isSampled_37 : decode cX2_isSampled 37 = .ok (.getfield 27, 3) := by decide +kernel
theorem dX2_isSampled_40 : decode cX2_isSampled 40 = .ok (.irem, 1) := by decide +kernel
theorem dX2_isSampled_41 : decode cX2_isSampled 41 = .ok (.ifCond .ne 7, 3) := by decide +kernel
theorem dX2_isSampled_44 : decode cX2_isSampled 44 = .ok (.iconst 1, 1) := by decide +kernel
theorem dX2_isSampled_45 : decode cX2_isSampled 45 = .ok (.goto 4, 3) := by decide +kernel
theorem dX2_isSampled_48 : decode cX2_isSampled 48 = .ok (.iconst 0, 1) := by decide +kernel
theorem dX2_isSampled_49 : decode cX2_isSampled 49 = .ok (.ireturn, 1) := by decide +kernel
set_option maxRecDepth 20000 in
theorem ggX2_addToFlow_X4_indexOf : GoodIn wsX2_addToFlow wsX4_indexOf := goodIn_r _ [10, 11, 12, 13, 135, 136, 130, 131, 132, 133, 134] rfl (by decide +kernel)
set_option maxRecDepth 20000 in
theorem gX2_addToFlow_X4_indexOf : GoodIn wsX2_addToFlow (wsV RX2 87 RX4 yX4_indexOf wsX4_indexOf) := goodIn_app (goodIn_of _ (by decide +kernel)) ggX2_addToFlow_X4_indexOf
set_option maxRecDepth 20000 in
theorem ggX2_addToFlow_X4_isFull : GoodIn wsX2_addToFlow wsX4_isFull := goodIn_r _ [17, 11, 12, 135, 136] rfl (by decide +kernel)
set_option maxRecDepth 20000 in
theorem gX2_addToFlow_X4_isFull : GoodIn wsX2_addToFlow (wsV RX2 91 RX4 yX4_isFull wsX4_isFull) := goodIn_app (goodIn_of _ (by decide +kernel)) ggX2_addToFlow_X4_isFull
set_option maxRecDepth 20000 in
theorem ggX2_addToFlow_X4_indexOfEarliestLast : GoodIn wsX2_addToFlow wsX4_indexOfEarliestLast := goodIn_r _ [21, 11, 12, 22, 135, 136, 130, 131, 132, 133, 134] rfl (by decide +kernel)
set_option maxRecDepth 20000 in
theorem gX2_addToFlow_X4_indexOfEarliestLast : GoodIn wsX2_addToFlow (wsV RX2 116 RX4 yX4_indexOfEarliestLast wsX4_indexOfEarliestLast) := goodIn_app (goodIn_of _ (by decide +kernel)) ggX2_addToFlow_X4_indexOfEarliestLast
set_option maxRecDepth 20000 in
theorem ggX2_addToFlow_X2_exportAt : GoodIn wsX2_addToFlow wsX2_exportAt := goodIn_ca (goodIn_ca (goodIn_r _ [27, 1, 28, 29, 30, 31, 32, 33, 34, 35, 36, 37, 9, 38, 11, 12, 39, 40, 41, 42, 43, 44, 45, 46, 47, 48, 49, 50, 51, 52, 53, 54, 55, 56, 57, 58, 59, 60, 61, 26, 62, 63, 64, 65, 66, 67, 68, 69, 70, 71, 72, 73, 74, 75, 76, 77, 78, 79, 80, 81, 82, 83, 84, 85, 86, 87, 88, 89, 90, 91, 92, 93, 94, 95, 96, 97, 98, 99, 100, 101, 102, 103, 117, 118, 119, 120, 121, 122, 123, 124, 125, 126, 127, 128, 129, 130, 131, 132, 133, 134, 137, 138, 139, 140, 135, 136, 141, 142, 143, 144, 145, 146, 147, 148, 149, 150, 151, 152, 153, 154, 155, 156, 157, 158] rfl (by decide +kernel)) (goodIn_sub (fun _ h => List.mem_cons_of_mem _ (List.mem_append_left _ (List.mem_append_right _ h))) (by decide +kernel))) (goodIn_sub (fun _ h => List.mem_cons_of_mem _ (List.mem_append_right _ h)) (by decide +kernel))
set_option maxRecDepth 20000 in
theorem gX2_addToFlow_X2_exportAt : GoodIn wsX2_addToFlow (wsV RX2 120 RX2 yX2_exportAt wsX2_exportAt) := goodIn_app (goodIn_of _ (by decide +kernel)) ggX2_addToFlow_X2_exportAt
set_option maxRecDepth 20000 in
theorem ggX2_addToFlow_X4_addFlow : GoodIn wsX2_addToFlow wsX4_addFlow := goodIn_r _ [107, 11, 12, 108, 109, 110, 111, 39, 40, 41, 9, 42, 112, 113, 114, 45, 115, 91, 87, 88, 89, 90, 135, 136, 130, 131, 132, 133, 134] rfl (by decide +kernel)
set_option maxRecDepth 20000 in
theorem gX2_addToFlow_X4_addFlow : GoodIn wsX2_addToFlow (wsV RX2 94 RX4 yX4_addFlow wsX4_addFlow) := goodIn_app (goodIn_of _ (by decide +kernel)) ggX2_addToFlow_X4_addFlow
set_option maxRecDepth 20000 in
theorem ggX2_addToFlow_X4_flowAt : GoodIn wsX2_addToFlow wsX4_flowAt := goodIn_r _ [42, 12, 135, 136] rfl (by decide +kernel)
set_option maxRecDepth 20000 in
theorem gX2_addToFlow_X4_flowAt : GoodIn wsX2_addToFlow (wsV RX2 98 RX4 yX4_flowAt wsX4_flowAt) := goodIn_app (goodIn_of _ (by decide +kernel)) ggX2_addToFlow_X4_flowAt
theorem dX2_addToFlow_0 : decode cX2_addToFlow 0 = .ok (.aload_n 0, 1) := by decide +kernel
theorem dX2_addToFlow_1 : decode cX2_addToFlow 1 = .ok (.getfield 14, 3) := by decide +kernel
theorem dX2_addToFlow_4 : decode cX2_addToFlow 4 = .ok (.lload_n 1, 1) := by decide +kernel
theorem dX2_addToFlow_5 : decode cX2_addToFlow 5 = .ok (.invokevirtual 87, 3) := by decide +kernel
theorem dX2_addToFlow_8 : decode cX2_addToFlow 8 = .ok (.istore 4, 2) := by decide +kernel
theorem dX2_addToFlow_10 : decode cX2_addToFlow 10 = .ok (.iload 4, 2) := by decide +kernel
theorem dX2_addToFlow_12 : decode cX2_addToFlow 12 = .ok (.iconst (-1), 1) := by decide +kernel
theorem dX2_addToFlow_13 : decode cX2_addToFlow 13 = .ok (.if_icmp .ne 24, 3) := by decide +kernel
theorem dX2_addToFlow_16 : decode cX2_addToFlow 16 = .ok (.aload_n 0, 1) := by decide +kernel
theorem dX2_addToFlow_17 : decode cX2_addToFlow 17 = .ok (.getfield 14, 3) := by decide +kernel
theorem dX2_addToFlow_20 : decode cX2_addToFlow 20 = .ok (.invokevirtual 91, 3) := by decide +kernel
theorem dX2_addToFlow_23 : decode cX2_addToFlow 23 = .ok (.ifCond .eq 14, 3) := by decide +kernel
theorem dX2_addToFlow_26 : decode cX2_addToFlow 26 = .ok (.aload_n 0, 1) := by decide +kernel
theorem dX2_addToFlow_27 : decode cX2_addToFlow 27 = .ok (.aload_n 0, 1) := by decide +kernel
theorem dX2_addToFlow_28 : decode cX2_addToFlow 28 = .ok (.getfield 14, 3) := by decide +kernel
theorem dX2_addToFlow_31 : decode cX2_addToFlow 31 = .ok (.invokevirtual 116, 3) := by decide +kernel
theorem dX2_addToFlow_34 : decode cX2_addToFlow 34 = .ok (.invokevirtual 120, 3) := by decide +kernel
theorem dX2_addToFlow_37 : decode cX2_addToFlow 37 = .ok (.iload 4, 2) := by decide +kernel
theorem dX2_addToFlow_39 : decode cX2_addToFlow 39 = .ok (.iconst (-1), 1) := by decide +kernel
theorem dX2_addToFlow_40 : decode cX2_addToFlow 40 = .ok (.if_icmp .ne 18, 3) := by decide +kernel
theorem dX2_addToFlow_43 : decode cX2_addToFlow 43 = .ok (.aload_n 0, 1) := by decide +kernel
theorem dX2_addToFlow_44 : decode cX2_addToFlow 44 = .ok (.getfield 14, 3) := by decide +kernel
theorem dX2_addToFlow_47 : decode cX2_addToFlow 47 = .ok (.lload_n 1, 1) := by decide +kernel
theorem dX2_addToFlow_48 : decode cX2_addToFlow 48 = .ok (.aload_n 0, 1) := by decide +kernel
theorem dX2_addToFlow_49 : decode cX2_addToFlow 49 = .ok (.getfield 23, 3) := by decide +kernel
theorem dX2_addToFlow_52 : decode cX2_addToFlow 52 = .ok (.invokevirtual 94, 3) := by decide +kernel
theorem dX2_addToFlow_55 : decode cX2_addToFlow 55 = .ok (.goto 12, 3) := by decide +kernel
theorem dX2_addToFlow_58 : decode cX2_addToFlow 58 = .ok (.aload_n 0, 1) := by decide +kernel
theorem dX2_addToFlow_59 : decode cX2_addToFlow 59 = .ok (.getfield 14, 3) := by decide +kernel
theorem dX2_addToFlow_62 : decode cX2_addToFlow 62 = .ok (.iload 4, 2) := by decide +kernel
theorem dX2_addToFlow_64 : decode cX2_addToFlow 64 = .ok (.invokevirtual 98, 3) := by decide +kernel
theorem dX2_addToFlow_67 : decode cX2_addToFlow 67 = .ok (.astore 5, 2) := by decide +kernel
theorem dX2_addToFlow_69 : decode cX2_addToFlow 69 = .ok (.aload 5, 2) := by decide +kernel
theorem dX2_addToFlow_71 : decode cX2_addToFlow 71 = .ok (.dup, 1) := by decide +kernel
theorem dX2_addToFlow_72 : decode cX2_addToFlow 72 = .ok (.getfield 102, 3) := by decide +kernel
theorem dX2_addToFlow_75 : decode cX2_addToFlow 75 = .ok (.lconst 1, 1) := by decide +kernel
theorem dX2_addToFlow_76 : decode cX2_addToFlow 76 = .ok (.ladd, 1) := by decide +kernel
theorem dX2_addToFlow_77 : decode cX2_addToFlow 77 = .ok (.putfield 102, 3) := by decide +kernel
theorem dX2_addToFlow_80 : decode cX2_addToFlow 80 = .ok (.aload 5, 2) := by decide +kernel
theorem dX2_addToFlow_82 : decode cX2_addToFlow 82 = .ok (.dup, 1) := by decide +kernel
theorem dX2_addToFlow_83 : decode cX2_addToFlow 83 = .ok (.getfield 107, 3) := by decide +kernel
theorem dX2_addToFlow_86 : decode cX2_addToFlow 86 = .ok (.iload_n 3, 1) := by decide +kernel
theorem dX2_addToFlow_87 : decode cX2_addToFlow 87 = .ok (.i2l, 1) := by decide +kernel
theorem dX2_addToFlow_88 : decode cX2_addToFlow 88 = .ok (.ladd, 1) := by decide +kernel
theorem dX2_addToFlow_89 : decode cX2_addToFlow 89 = .ok (.putfield 107, 3) := by decide +kernel
theorem dX2_addToFlow_92 : decode cX2_addToFlow 92 = .ok (.aload 5, 2) := by decide +kernel
theorem dX2_addToFlow_94 : decode cX2_addToFlow 94 = .ok (.aload_n 0, 1) := by decide +kernel
theorem dX2_addToFlow_95 : decode cX2_addToFlow 95 = .ok (.getfield 23, 3) := by decide +kernel
theorem dX2_addToFlow_98 : decode cX2_addToFlow 98 = .ok (.putfield 123, 3) := by decide +kernel
theorem dX2_addToFlow_101 : decode cX2_addToFlow 101 = .ok (.return_, 1) := by decide +kernel
set_option maxRecDepth 20000 in
theorem ggX2_exportAt_X4_removeAt : GoodIn wsX2_exportAt wsX4_removeAt := goodIn_r _ [13, 14, 15, 16, 17, 18, 12, 19, 104, 105] rfl (by decide +kernel)
set_option maxRecDepth 20000 in
theorem gX2_exportAt_X4_removeAt : GoodIn wsX2_exportAt (wsV RX2 126 RX4 yX4_removeAt wsX4_removeAt) := goodIn_app (goodIn_of _ (by decide +kernel)) ggX2_exportAt_X4_removeAt
set_option maxRecDepth 20000 in
theorem ggX2_exportAt_X3_partOf : GoodIn wsX2_exportAt wsX3_partOf := goodIn_ca (goodIn_r _ [23, 24, 25] rfl (by decide +kernel)) (goodIn_sub (fun _ h => List.mem_cons_of_mem _ (List.mem_append_left _ (List.mem_append_right _ h))) (by decide +kernel))
set_option maxRecDepth 20000 in
theorem gX2_exportAt_X3_partOf : GoodIn wsX2_exportAt (va_wsS RX2 132 yX3_partOf wsX3_partOf) := goodIn_app (goodIn_of _ (by decide +kernel)) ggX2_exportAt_X3_partOf
set_option maxRecDepth 20000 in
theorem ggX2_exportAt_X1_templateOf : GoodIn wsX2_exportAt wsX1_templateOf := goodIn_ca (goodIn_r _ [30, 31, 106, 107, 108, 109, 110, 111] rfl (by decide +kernel)) (goodIn_sub (fun _ h => List.mem_cons_of_mem _ (List.mem_append_left _ (List.mem_append_right _ h))) (by decide +kernel))
set_option maxRecDepth 20000 in
theorem gX2_exportAt_X1_templateOf : GoodIn wsX2_exportAt (wsV RX2 136 RX1 yX1_templateOf wsX1_templateOf) := goodIn_app (goodIn_of _ (by decide +kernel)) ggX2_exportAt_X1_templateOf
set_option maxRecDepth 20000 in
theorem ggX2_exportAt_X1_effective : GoodIn wsX2_exportAt wsX1_effective := goodIn_r _ [35, 36, 106, 107, 108, 109, 110, 111] rfl (by decide +kernel)
set_option maxRecDepth 20000 in
theorem gX2_exportAt_X1_effective : GoodIn wsX2_exportAt (wsV RX2 139 RX1 yX1_effective wsX1_effective) := goodIn_app (goodIn_of _ (by decide +kernel)) ggX2_exportAt_X1_effective
set_option maxRecDepth 20000 in
theorem ggX2_exportAt_X2_bitsOfInverse : GoodIn wsX2_exportAt wsX2_bitsOfInverse := goodIn_ca (goodIn_r _ [40, 41] rfl (by decide +kernel)) (goodIn_sub (fun _ h => List.mem_cons_of_mem _ (List.mem_append_right _ h)) (by decide +kernel))
set_option maxRecDepth 20000 in
theorem gX2_exportAt_X2_bitsOfInverse : GoodIn wsX2_exportAt (va_wsS RX2 146 yX2_bitsOfInverse wsX2_bitsOfInverse) := goodIn_app (goodIn_of _ (by decide +kernel)) ggX2_exportAt_X2_bitsOfInverse
set_option maxRecDepth 20000 in
theorem ggX2_exportAt_X8_addRecord : GoodIn wsX2_exportAt wsX8_addRecord := goodIn_ca (goodIn_r _ [46, 47, 48, 49, 50, 51, 52, 53, 33, 34, 29, 35, 36, 54, 55, 56, 57, 58, 59, 60, 61, 62, 63, 22, 64, 65, 66, 67, 68, 69, 70, 21, 23, 24, 25, 71, 72, 73, 74, 75, 76, 77, 78, 79, 80, 81, 112, 113, 114, 115, 116, 117, 118, 119, 120, 121, 100, 101, 102, 103, 106, 107, 108, 109, 110, 111, 95, 96, 97, 98, 99, 122, 123] rfl (by decide +kernel)) (goodIn_sub (fun _ h => List.mem_cons_of_mem _ (List.mem_append_left _ (List.mem_append_right _ h))) (by decide +kernel))
set_option maxRecDepth 20000 in
theorem gX2_exportAt_X8_addRecord : GoodIn wsX2_exportAt (wsV RX2 149 RX8 yX8_addRecord wsX8_addRecord) := goodIn_app (goodIn_of _ (by decide +kernel)) ggX2_exportAt_X8_addRecord
theorem dX2_exportAt_0 : decode cX2_exportAt 0 = .ok (.aload_n 0, 1) := by decide +kernel
theorem dX2_exportAt_1 : decode cX2_exportAt 1 = .ok (.getfield 14, 3) := by decide +kernel
theorem dX2_exportAt_4 : decode cX2_exportAt 4 = .ok (.iload_n 1, 1) := by decide +kernel
theorem dX2_exportAt_5 : decode cX2_exportAt 5 = .ok (.invokevirtual 126, 3) := by decide +kernel
theorem dX2_exportAt_8 : decode cX2_exportAt 8 = .ok (.astore_n 2, 1) := by decide +kernel
theorem dX2_exportAt_9 : decode cX2_exportAt 9 = .ok (.aload_n 0, 1) := by decide +kernel
theorem dX2_exportAt_10 : decode cX2_exportAt 10 = .ok (.getfield 53, 3) := by decide +kernel
theorem dX2_exportAt_13 : decode cX2_exportAt 13 = .ok (.aload_n 2, 1) := by decide +kernel
theorem dX2_exportAt_14 : decode cX2_exportAt 14 = .ok (.getfield 129, 3) := by decide +kernel
theorem dX2_exportAt_17 : decode cX2_exportAt 17 = .ok (.iconst 3, 1) := by decide +kernel
theorem dX2_exportAt_18 : decode cX2_exportAt 18 = .ok (.invokestatic 132, 3) := by decide +kernel
theorem dX2_exportAt_21 : decode cX2_exportAt 21 = .ok (.invokevirtual 136, 3) := by decide +kernel
theorem dX2_exportAt_24 : decode cX2_exportAt 24 = .ok (.istore_n 3, 1) := by decide +kernel
theorem dX2_exportAt_25 : decode cX2_exportAt 25 = .ok (.aload_n 0, 1) := by decide +kernel
theorem dX2_exportAt_26 : decode cX2_exportAt 26 = .ok (.dup, 1) := by decide +kernel
theorem dX2_exportAt_27 : decode cX2_exportAt 27 = .ok (.getfield 37, 3) := by decide +kernel
theorem dX2_exportAt_30 : decode cX2_exportAt 30 = .ok (.iconst 1, 1) := by decide +kernel
theorem dX2_exportAt_31 : decode cX2_exportAt 31 = .ok (.iadd, 1) := by decide +kernel
theorem dX2_exportAt_32 : decode cX2_exportAt 32 = .ok (.putfield 37, 3) := by decide +kernel
theorem dX2_exportAt_35 : decode cX2_exportAt 35 = .ok (.aload_n 0, 1) := by decide +kernel
theorem dX2_exportAt_36 : decode cX2_exportAt 36 = .ok (.getfield 53, 3) := by decide +kernel
theorem dX2_exportAt_39 : decode cX2_exportAt 39 = .ok (.iload_n 3, 1) := by decide +kernel
theorem dX2_exportAt_40 : decode cX2_exportAt 40 = .ok (.invokevirtual 139, 3) := by decide +kernel
theorem dX2_exportAt_43 : decode cX2_exportAt 43 = .ok (.getfield 143, 3) := by decide +kernel
theorem dX2_exportAt_46 : decode cX2_exportAt 46 = .ok (.ifCond .ne 16, 3) := by decide +kernel
theorem dX2_exportAt_49 : decode cX2_exportAt 49 = .ok (.aload_n 0, 1) := by decide +kernel
theorem dX2_exportAt_50 : decode cX2_exportAt 50 = .ok (.dup, 1) := by decide +kernel
theorem dX2_exportAt_51 : decode cX2_exportAt 51 = .ok (.getfield 50, 3) := by decide +kernel
theorem dX2_exportAt_54 : decode cX2_exportAt 54 = .ok (.lconst 1, 1) := by decide +kernel
theorem dX2_exportAt_55 : decode cX2_exportAt 55 = .ok (.ladd, 1) := by decide +kernel
theorem dX2_exportAt_56 : decode cX2_exportAt 56 = .ok (.putfield 50, 3) := by decide +kernel
theorem dX2_exportAt_59 : decode cX2_exportAt 59 = .ok (.goto 19, 3) := by decide +kernel
theorem dX2_exportAt_62 : decode cX2_exportAt 62 = .ok (.aload_n 0, 1) := by decide +kernel
theorem dX2_exportAt_63 : decode cX2_exportAt 63 = .ok (.getfield 57, 3) := by decide +kernel
theorem dX2_exportAt_66 : decode cX2_exportAt 66 = .ok (.aload_n 2, 1) := by decide +kernel
theorem dX2_exportAt_67 : decode cX2_exportAt 67 = .ok (.iload_n 3, 1) := by decide +kernel
theorem dX2_exportAt_68 : decode cX2_exportAt 68 = .ok (.aload_n 0, 1) := by decide +kernel
theorem dX2_exportAt_69 : decode cX2_exportAt 69 = .ok (.getfield 27, 3) := by decide +kernel
theorem dX2_exportAt_72 : decode cX2_exportAt 72 = .ok (.invokestatic 146, 3) := by decide +kernel
theorem dX2_exportAt_75 : decode cX2_exportAt 75 = .ok (.invokevirtual 149, 3) := by decide +kernel
theorem dX2_exportAt_78 : decode cX2_exportAt 78 = .ok (.return_, 1) := by decide +kernel
theorem dX2_bitsOfInverse_0 : decode cX2_bitsOfInverse 0 = .ok (.iload_n 0, 1) := by decide +kernel
theorem dX2_bitsOfInverse_1 : decode cX2_bitsOfInverse 1 = .ok (.iconst 1, 1) := by decide +kernel
theorem dX2_bitsOfInverse_2 : decode cX2_bitsOfInverse 2 = .ok (.if_icmp .ge 5, 3) := by decide +kernel
theorem dX2_bitsOfInverse_5 : decode cX2_bitsOfInverse 5 = .ok (.iconst 0, 1) := by decide +kernel
theorem dX2_bitsOfInverse_6 : decode cX2_bitsOfInverse 6 = .ok (.ireturn, 1) := by decide +kernel
theorem dX2_bitsOfInverse_7 : decode cX2_bitsOfInverse 7 = .ok (.iconst 0, 1) := by decide +kernel
theorem dX2_bitsOfInverse_8 : decode cX2_bitsOfInverse 8 = .ok (.istore_n 1, 1) := by decide +kernel
theorem dX2_bitsOfInverse_9 : decode cX2_bitsOfInverse 9 = .ok (.iload_n 1, 1) := by decide +kernel
theorem dX2_bitsOfInverse_10 : decode cX2_bitsOfInverse 10 = .ok (.bipush 30, 2) := by decide +kernel
theorem dX2_bitsOfInverse_12 : decode cX2_bitsOfInverse 12 = .ok (.if_icmp .ge 16, 3) := by decide +kernel
theorem dX2_bitsOfInverse_15 : decode cX2_bitsOfInverse 15 = .ok (.iconst 1, 1) := by decide +kernel
theorem dX2_bitsOfInverse_16 : decode cX2_bitsOfInverse 16 = .ok (.iload_n 1, 1) := by decide +kernel
theorem dX2_bitsOfInverse_17 : decode cX2_bitsOfInverse 17 = .ok (.ishl, 1) := by decide +kernel
theorem dX2_bitsOfInverse_18 : decode cX2_bitsOfInverse 18 = .ok (.iload_n 0, 1) := by decide +kernel
theorem dX2_bitsOfInverse_19 : decode cX2_bitsOfInverse 19 = .ok (.if_icmp .ge 9, 3) := by decide +kernel
theorem dX2_bitsOfInverse_22 : decode cX2_bitsOfInverse 22 = .ok (.iinc 1 1, 3) := by decide +kernel
theorem dX2_bitsOfInverse_25 : decode cX2_bitsOfInverse 25 = .ok (.goto (-16), 3) := by decide +kernel
theorem dX2_bitsOfInverse_28 : decode cX2_bitsOfInverse 28 = .ok (.lconst 1, 1) := by decide +kernel
theorem dX2_bitsOfInverse_29 : decode cX2_bitsOfInverse 29 = .ok (.bipush 23, 2) := by decide +kernel
theorem dX2_bitsOfInverse_31 : decode cX2_bitsOfInverse 31 = .ok (.iload_n 1, 1) := by decide +kernel
theorem dX2_bitsOfInverse_32 : decode cX2_bitsOfInverse 32 = .ok (.iadd, 1) := by decide +kernel
theorem dX2_bitsOfInverse_33 : decode cX2_bitsOfInverse 33 = .ok (.lshl, 1) := by decide +kernel
theorem dX2_bitsOfInverse_34 : decode cX2_bitsOfInverse 34 = .ok (.iload_n 0, 1) := by decide +kernel
theorem dX2_bitsOfInverse_35 : decode cX2_bitsOfInverse 35 = .ok (.iconst 2, 1) := by decide +kernel
theorem dX2_bitsOfInverse_36 : decode cX2_bitsOfInverse 36 = .ok (.idiv, 1) := by decide +kernel
theorem dX2_bitsOfInverse_37 : decode cX2_bitsOfInverse 37 = .ok (.i2l, 1) := by decide +kernel
theorem dX2_bitsOfInverse_38 : decode cX2_bitsOfInverse 38 = .ok (.ladd, 1) := by decide +kernel
theorem dX2_bitsOfInverse_39 : decode cX2_bitsOfInverse 39 = .ok (.iload_n 0, 1) := by decide +kernel
theorem dX2_bitsOfInverse_40 : decode cX2_bitsOfInverse 40 = .ok (.i2l, 1) := by decide +kernel
theorem dX2_bitsOfInverse_41 : decode cX2_bitsOfInverse 41 = .ok (.ldiv, 1) := by decide +kernel
theorem dX2_bitsOfInverse_42 : decode cX2_bitsOfInverse 42 = .ok (.lstore_n 2, 1) := by decide +kernel
theorem dX2_bitsOfInverse_43 : decode cX2_bitsOfInverse 43 = .ok (.bipush 127, 2) := by decide +kernel
theorem dX2_bitsOfInverse_45 : decode cX2_bitsOfInverse 45 = .ok (.iload_n 1, 1) := by decide +kernel
theorem dX2_bitsOfInverse_46 : decode cX2_bitsOfInverse 46 = .ok (.isub, 1) := by decide +kernel
theorem dX2_bitsOfInverse_47 : decode cX2_bitsOfInverse 47 = .ok (.bipush 23, 2) := by decide +kernel
theorem dX2_bitsOfInverse_49 : decode cX2_bitsOfInverse 49 = .ok (.ishl, 1) := by decide +kernel
theorem dX2_bitsOfInverse_50 : decode cX2_bitsOfInverse 50 = .ok (.lload_n 2, 1) := by decide +kernel
theorem dX2_bitsOfInverse_51 : decode cX2_bitsOfInverse 51 = .ok (.ldc2_w 165, 3) := by decide +kernel
theorem dX2_bitsOfInverse_54 : decode cX2_bitsOfInverse 54 = .ok (.lsub, 1) := by decide +kernel
theorem dX2_bitsOfInverse_55 : decode cX2_bitsOfInverse 55 = .ok (.l2i, 1) := by decide +kernel
theorem dX2_bitsOfInverse_56 : decode cX2_bitsOfInverse 56 = .ok (.iadd, 1) := by decide +kernel
theorem dX2_bitsOfInverse_57 : decode cX2_bitsOfInverse 57 = .ok (.ireturn, 1) := by decide +kernel

theorem dX12_flowOf_0 : decode cX12_flowOf 0 = .ok (.iconst 0, 1) := by decide +kernel
theorem dX12_flowOf_1 : decode cX12_flowOf 1 = .ok (.istore 5, 2) := by decide +kernel
theorem dX12_flowOf_3 : decode cX12_flowOf 3 = .ok (.iload 5, 2) := by decide +kernel
theorem dX12_flowOf_5 : decode cX12_flowOf 5 = .ok (.aload_n 0, 1) := by decide +kernel
theorem dX12_flowOf_6 : decode cX12_flowOf 6 = .ok (.getfield 133, 3) := by decide +kernel
theorem dX12_flowOf_9 : decode cX12_flowOf 9 = .ok (.if_icmp .ge 83, 3) := by decide +kernel
theorem dX12_flowOf_12 : decode cX12_flowOf 12 = .ok (.aload_n 0, 1) := by decide +kernel
theorem dX12_flowOf_13 : decode cX12_flowOf 13 = .ok (.getfield 26, 3) := by decide +kernel
theorem dX12_flowOf_16 : decode cX12_flowOf 16 = .ok (.bipush 8, 2) := by decide +kernel
theorem dX12_flowOf_18 : decode cX12_flowOf 18 = .ok (.iload 5, 2) := by decide +kernel
theorem dX12_flowOf_20 : decode cX12_flowOf 20 = .ok (.imul, 1) := by decide +kernel
theorem dX12_flowOf_21 : decode cX12_flowOf 21 = .ok (.laload, 1) := by decide +kernel
theorem dX12_flowOf_22 : decode cX12_flowOf 22 = .ok (.iload_n 1, 1) := by decide +kernel
theorem dX12_flowOf_23 : decode cX12_flowOf 23 = .ok (.i2l, 1) := by decide +kernel
theorem dX12_flowOf_24 : decode cX12_flowOf 24 = .ok (.lcmp, 1) := by decide +kernel
theorem dX12_flowOf_25 : decode cX12_flowOf 25 = .ok (.ifCond .ne 61, 3) := by decide +kernel
theorem dX12_flowOf_28 : decode cX12_flowOf 28 = .ok (.aload_n 0, 1) := by decide +kernel
theorem dX12_flowOf_29 : decode cX12_flowOf 29 = .ok (.getfield 26, 3) := by decide +kernel
theorem dX12_flowOf_32 : decode cX12_flowOf 32 = .ok (.bipush 8, 2) := by decide +kernel
theorem dX12_flowOf_34 : decode cX12_flowOf 34 = .ok (.iload 5, 2) := by decide +kernel
theorem dX12_flowOf_36 : decode cX12_flowOf 36 = .ok (.imul, 1) := by decide +kernel
theorem dX12_flowOf_37 : decode cX12_flowOf 37 = .ok (.iconst 1, 1) := by decide +kernel
theorem dX12_flowOf_38 : decode cX12_flowOf 38 = .ok (.iadd, 1) := by decide +kernel
theorem dX12_flowOf_39 : decode cX12_flowOf 39 = .ok (.laload, 1) := by decide +kernel
theorem dX12_flowOf_40 : decode cX12_flowOf 40 = .ok (.iload_n 2, 1) := by decide +kernel
theorem dX12_flowOf_41 : decode cX12_flowOf 41 = .ok (.i2l, 1) := by decide +kernel
theorem dX12_flowOf_42 : decode cX12_flowOf 42 = .ok (.lcmp, 1) := by decide +kernel
theorem dX12_flowOf_43 : decode cX12_flowOf 43 = .ok (.ifCond .ne 43, 3) := by decide +kernel
theorem dX12_flowOf_46 : decode cX12_flowOf 46 = .ok (.aload_n 0, 1) := by decide +kernel
theorem dX12_flowOf_47 : decode cX12_flowOf 47 = .ok (.getfield 26, 3) := by decide +kernel
theorem dX12_flowOf_50 : decode cX12_flowOf 50 = .ok (.bipush 8, 2) := by decide +kernel
theorem dX12_flowOf_52 : decode cX12_flowOf 52 = .ok (.iload 5, 2) := by decide +kernel
theorem dX12_flowOf_54 : decode cX12_flowOf 54 = .ok (.imul, 1) := by decide +kernel
theorem dX12_flowOf_55 : decode cX12_flowOf 55 = .ok (.iconst 2, 1) := by decide +kernel
theorem dX12_flowOf_56 : decode cX12_flowOf 56 = .ok (.iadd, 1) := by decide +kernel
theorem dX12_flowOf_57 : decode cX12_flowOf 57 = .ok (.laload, 1) := by decide +kernel
theorem dX12_flowOf_58 : decode cX12_flowOf 58 = .ok (.iload_n 3, 1) := by decide +kernel
theorem dX12_flowOf_59 : decode cX12_flowOf 59 = .ok (.i2l, 1) := by decide +kernel
theorem dX12_flowOf_60 : decode cX12_flowOf 60 = .ok (.lcmp, 1) := by decide +kernel
theorem dX12_flowOf_61 : decode cX12_flowOf 61 = .ok (.ifCond .ne 25, 3) := by decide +kernel
theorem dX12_flowOf_64 : decode cX12_flowOf 64 = .ok (.aload_n 0, 1) := by decide +kernel
theorem dX12_flowOf_65 : decode cX12_flowOf 65 = .ok (.getfield 26, 3) := by decide +kernel
theorem dX12_flowOf_68 : decode cX12_flowOf 68 = .ok (.bipush 8, 2) := by decide +kernel
theorem dX12_flowOf_70 : decode cX12_flowOf 70 = .ok (.iload 5, 2) := by decide +kernel
theorem dX12_flowOf_72 : decode cX12_flowOf 72 = .ok (.imul, 1) := by decide +kernel
theorem dX12_flowOf_73 : decode cX12_flowOf 73 = .ok (.iconst 3, 1) := by decide +kernel
theorem dX12_flowOf_74 : decode cX12_flowOf 74 = .ok (.iadd, 1) := by decide +kernel
theorem dX12_flowOf_75 : decode cX12_flowOf 75 = .ok (.laload, 1) := by decide +kernel
theorem dX12_flowOf_76 : decode cX12_flowOf 76 = .ok (.iload 4, 2) := by decide +kernel
theorem dX12_flowOf_78 : decode cX12_flowOf 78 = .ok (.i2l, 1) := by decide +kernel
theorem dX12_flowOf_79 : decode cX12_flowOf 79 = .ok (.lcmp, 1) := by decide +kernel
theorem dX12_flowOf_80 : decode cX12_flowOf 80 = .ok (.ifCond .ne 6, 3) := by decide +kernel
theorem dX12_flowOf_83 : decode cX12_flowOf 83 = .ok (.iload 5, 2) := by decide +kernel
theorem dX12_flowOf_85 : decode cX12_flowOf 85 = .ok (.ireturn, 1) := by decide +kernel
theorem dX12_flowOf_86 : decode cX12_flowOf 86 = .ok (.iinc 5 1, 3) := by decide +kernel
theorem dX12_flowOf_89 : decode cX12_flowOf 89 = .ok (.goto (-86), 3) := by decide +kernel
theorem dX12_flowOf_92 : decode cX12_flowOf 92 = .ok (.iconst (-1), 1) := by decide +kernel
theorem dX12_flowOf_93 : decode cX12_flowOf 93 = .ok (.ireturn, 1) := by decide +kernel
theorem dX12_put_0 : decode cX12_put 0 = .ok (.bipush 8, 2) := by decide +kernel
theorem dX12_put_2 : decode cX12_put 2 = .ok (.iload_n 3, 1) := by decide +kernel
theorem dX12_put_3 : decode cX12_put 3 = .ok (.imul, 1) := by decide +kernel
theorem dX12_put_4 : decode cX12_put 4 = .ok (.bipush 8, 2) := by decide +kernel
theorem dX12_put_6 : decode cX12_put 6 = .ok (.isub, 1) := by decide +kernel
theorem dX12_put_7 : decode cX12_put 7 = .ok (.istore 4, 2) := by decide +kernel
theorem dX12_put_9 : decode cX12_put 9 = .ok (.iload 4, 2) := by decide +kernel
theorem dX12_put_11 : decode cX12_put 11 = .ok (.ifCond .lt 37, 3) := by decide +kernel
theorem dX12_put_14 : decode cX12_put 14 = .ok (.aload_n 0, 1) := by decide +kernel
theorem dX12_put_15 : decode cX12_put 15 = .ok (.getfield 36, 3) := by decide +kernel
theorem dX12_put_18 : decode cX12_put 18 = .ok (.aload_n 0, 1) := by decide +kernel
theorem dX12_put_19 : decode cX12_put 19 = .ok (.getfield 280, 3) := by decide +kernel
theorem dX12_put_22 : decode cX12_put 22 = .ok (.lload_n 1, 1) := by decide +kernel
theorem dX12_put_23 : decode cX12_put 23 = .ok (.iload 4, 2) := by decide +kernel
theorem dX12_put_25 : decode cX12_put 25 = .ok (.lshr, 1) := by decide +kernel
theorem dX12_put_26 : decode cX12_put 26 = .ok (.ldc2_w 218, 3) := by decide +kernel
theorem dX12_put_29 : decode cX12_put 29 = .ok (.land, 1) := by decide +kernel
theorem dX12_put_30 : decode cX12_put 30 = .ok (.l2i, 1) := by decide +kernel
theorem dX12_put_31 : decode cX12_put 31 = .ok (.iastore, 1) := by decide +kernel
theorem dX12_put_32 : decode cX12_put 32 = .ok (.aload_n 0, 1) := by decide +kernel
theorem dX12_put_33 : decode cX12_put 33 = .ok (.dup, 1) := by decide +kernel
theorem dX12_put_34 : decode cX12_put 34 = .ok (.getfield 280, 3) := by decide +kernel
theorem dX12_put_37 : decode cX12_put 37 = .ok (.iconst 1, 1) := by decide +kernel
theorem dX12_put_38 : decode cX12_put 38 = .ok (.iadd, 1) := by decide +kernel
theorem dX12_put_39 : decode cX12_put 39 = .ok (.putfield 280, 3) := by decide +kernel
theorem dX12_put_42 : decode cX12_put 42 = .ok (.iinc 4 (-8), 3) := by decide +kernel
theorem dX12_put_45 : decode cX12_put 45 = .ok (.goto (-36), 3) := by decide +kernel
theorem dX12_put_48 : decode cX12_put 48 = .ok (.return_, 1) := by decide +kernel
theorem dX12_putAt_0 : decode cX12_putAt 0 = .ok (.aload_n 0, 1) := by decide +kernel
theorem dX12_putAt_1 : decode cX12_putAt 1 = .ok (.getfield 36, 3) := by decide +kernel
theorem dX12_putAt_4 : decode cX12_putAt 4 = .ok (.iload_n 1, 1) := by decide +kernel
theorem dX12_putAt_5 : decode cX12_putAt 5 = .ok (.iload_n 2, 1) := by decide +kernel
theorem dX12_putAt_6 : decode cX12_putAt 6 = .ok (.bipush 8, 2) := by decide +kernel
theorem dX12_putAt_8 : decode cX12_putAt 8 = .ok (.ishr, 1) := by decide +kernel
theorem dX12_putAt_9 : decode cX12_putAt 9 = .ok (.iastore, 1) := by decide +kernel
theorem dX12_putAt_10 : decode cX12_putAt 10 = .ok (.aload_n 0, 1) := by decide +kernel
theorem dX12_putAt_11 : decode cX12_putAt 11 = .ok (.getfield 36, 3) := by decide +kernel
theorem dX12_putAt_14 : decode cX12_putAt 14 = .ok (.iload_n 1, 1) := by decide +kernel
theorem dX12_putAt_15 : decode cX12_putAt 15 = .ok (.iconst 1, 1) := by decide +kernel
theorem dX12_putAt_16 : decode cX12_putAt 16 = .ok (.iadd, 1) := by decide +kernel
theorem dX12_putAt_17 : decode cX12_putAt 17 = .ok (.iload_n 2, 1) := by decide +kernel
theorem dX12_putAt_18 : decode cX12_putAt 18 = .ok (.sipush 255, 3) := by decide +kernel
theorem dX12_putAt_21 : decode cX12_putAt 21 = .ok (.iand, 1) := by decide +kernel
theorem dX12_putAt_22 : decode cX12_putAt 22 = .ok (.iastore, 1) := by decide +kernel
theorem dX12_putAt_23 : decode cX12_putAt 23 = .ok (.return_, 1) := by decide +kernel
set_option maxRecDepth 20000 in
theorem ggX12_putTemplate_X12_put : GoodIn wsX12_putTemplate wsX12_put := goodIn_ca (goodIn_r _ [9, 10, 11, 12, 40, 41, 42, 43, 44, 45, 46, 47, 48, 49, 50, 51, 52, 53, 54, 55, 56, 57, 58, 59, 60, 61, 62, 63, 64, 65, 66, 67, 68, 69, 70, 71, 72, 73, 74, 75, 76, 77, 78, 79, 80, 81, 82, 83, 84, 85, 86, 87, 88, 89, 90, 91, 92, 93] rfl (by decide +kernel)) (goodIn_sub (fun _ h => List.mem_cons_of_mem _ (List.mem_append_right _ h)) (by decide +kernel))
set_option maxRecDepth 20000 in
theorem gX12_putTemplate_X12_put : GoodIn wsX12_putTemplate (wsV RX12 283 RX12 yX12_put wsX12_put) := goodIn_app (goodIn_of _ (by decide +kernel)) ggX12_putTemplate_X12_put
set_option maxRecDepth 20000 in
theorem ggX12_putTemplate_X12_effective : GoodIn wsX12_putTemplate wsX12_effective := goodIn_ca (goodIn_r _ [16, 17, 18, 19, 20, 8, 21, 22, 23, 24, 25, 26, 27, 28, 29, 40, 41, 42, 43, 44, 45, 46, 47, 48, 49, 50, 51, 52, 53, 54, 55, 56, 57, 58, 59, 60, 61, 62, 63, 64, 65, 66, 67, 68, 69, 70, 71, 72, 73, 74, 75, 76, 77, 78, 79, 80, 81, 82, 83, 84, 85, 86, 87, 88, 89, 90, 91, 92, 93] rfl (by decide +kernel)) (goodIn_sub (fun _ h => List.mem_cons_of_mem _ (List.mem_append_right _ h)) (by decide +kernel))
set_option maxRecDepth 20000 in
theorem gX12_putTemplate_X12_effective : GoodIn wsX12_putTemplate (wsV RX12 192 RX12 yX12_effective wsX12_effective) := goodIn_app (goodIn_of _ (by decide +kernel)) ggX12_putTemplate_X12_effective
set_option maxRecDepth 20000 in
theorem ggX12_putTemplate_X12_bitCount : GoodIn wsX12_putTemplate wsX12_bitCount := goodIn_r _ [32] rfl (by decide +kernel)
set_option maxRecDepth 20000 in
theorem gX12_putTemplate_X12_bitCount : GoodIn wsX12_putTemplate (va_wsS RX12 287 yX12_bitCount wsX12_bitCount) := goodIn_app (goodIn_of _ (by decide +kernel)) ggX12_putTemplate_X12_bitCount
set_option maxRecDepth 20000 in
theorem ggX12_putTemplate_X12_sizeOf : GoodIn wsX12_putTemplate wsX12_sizeOf := goodIn_ca (goodIn_r _ [25, 17, 40, 41, 42, 43, 44, 45, 46, 47, 48, 49, 50, 51, 52, 53, 54, 55, 56, 57, 58, 59, 60, 61, 62, 63, 64, 65, 66, 67, 68, 69, 70, 71, 72, 73, 74, 75, 76, 77, 78, 79, 80, 81, 82, 83, 84, 85, 86, 87, 88, 89, 90, 91, 92, 93] rfl (by decide +kernel)) (goodIn_sub (fun _ h => List.mem_cons_of_mem _ (List.mem_append_right _ h)) (by decide +kernel))
set_option maxRecDepth 20000 in
theorem gX12_putTemplate_X12_sizeOf : GoodIn wsX12_putTemplate (wsV RX12 173 RX12 yX12_sizeOf wsX12_sizeOf) := goodIn_app (goodIn_of _ (by decide +kernel)) ggX12_putTemplate_X12_sizeOf
set_option maxRecDepth 20000 in
theorem ggX12_putTemplate_X12_fieldOf : GoodIn wsX12_putTemplate wsX12_fieldOf := goodIn_ca (goodIn_r _ [29, 17, 40, 41, 42, 43, 44, 45, 46, 47, 48, 49, 50, 51, 52, 53, 54, 55, 56, 57, 58, 59, 60, 61, 62, 63, 64, 65, 66, 67, 68, 69, 70, 71, 72, 73, 74, 75, 76, 77, 78, 79, 80, 81, 82, 83, 84, 85, 86, 87, 88, 89, 90, 91, 92, 93] rfl (by decide +kernel)) (goodIn_sub (fun _ h => List.mem_cons_of_mem _ (List.mem_append_right _ h)) (by decide +kernel))
set_option maxRecDepth 20000 in
theorem gX12_putTemplate_X12_fieldOf : GoodIn wsX12_putTemplate (wsV RX12 177 RX12 yX12_fieldOf wsX12_fieldOf) := goodIn_app (goodIn_of _ (by decide +kernel)) ggX12_putTemplate_X12_fieldOf
set_option maxRecDepth 20000 in
theorem ggX12_putTemplate_X12_isSupported : GoodIn wsX12_putTemplate wsX12_isSupported := goodIn_ca (goodIn_r _ [36, 17, 40, 41, 42, 43, 44, 45, 46, 47, 48, 49, 50, 51, 52, 53, 54, 55, 56, 57, 58, 59, 60, 61, 62, 63, 64, 65, 66, 67, 68, 69, 70, 71, 72, 73, 74, 75, 76, 77, 78, 79, 80, 81, 82, 83, 84, 85, 86, 87, 88, 89, 90, 91, 92, 93] rfl (by decide +kernel)) (goodIn_sub (fun _ h => List.mem_cons_of_mem _ (List.mem_append_right _ h)) (by decide +kernel))
set_option maxRecDepth 20000 in
theorem gX12_putTemplate_X12_isSupported : GoodIn wsX12_putTemplate (wsV RX12 206 RX12 yX12_isSupported wsX12_isSupported) := goodIn_app (goodIn_of _ (by decide +kernel)) ggX12_putTemplate_X12_isSupported
set_option maxRecDepth 20000 in
theorem ggX12_putTemplate_X12_lengthOf : GoodIn wsX12_putTemplate wsX12_lengthOf := goodIn_r _ [39] rfl (by decide +kernel)
set_option maxRecDepth 20000 in
theorem gX12_putTemplate_X12_lengthOf : GoodIn wsX12_putTemplate (va_wsS RX12 195 yX12_lengthOf wsX12_lengthOf) := goodIn_app (goodIn_of _ (by decide +kernel)) ggX12_putTemplate_X12_lengthOf
theorem dX12_putTemplate_0 : decode cX12_putTemplate 0 = .ok (.aload_n 0, 1) := by decide +kernel
theorem dX12_putTemplate_1 : decode cX12_putTemplate 1 = .ok (.sipush 256, 3) := by decide +kernel
theorem dX12_putTemplate_4 : decode cX12_putTemplate 4 = .ok (.iload_n 1, 1) := by decide +kernel
theorem dX12_putTemplate_5 : decode cX12_putTemplate 5 = .ok (.iadd, 1) := by decide +kernel
theorem dX12_putTemplate_6 : decode cX12_putTemplate 6 = .ok (.i2l, 1) := by decide +kernel
theorem dX12_putTemplate_7 : decode cX12_putTemplate 7 = .ok (.iconst 2, 1) := by decide +kernel
theorem dX12_putTemplate_8 : decode cX12_putTemplate 8 = .ok (.invokevirtual 283, 3) := by decide +kernel
theorem dX12_putTemplate_11 : decode cX12_putTemplate 11 = .ok (.aload_n 0, 1) := by decide +kernel
theorem dX12_putTemplate_12 : decode cX12_putTemplate 12 = .ok (.aload_n 0, 1) := by decide +kernel
theorem dX12_putTemplate_13 : decode cX12_putTemplate 13 = .ok (.iload_n 1, 1) := by decide +kernel
theorem dX12_putTemplate_14 : decode cX12_putTemplate 14 = .ok (.invokevirtual 192, 3) := by decide +kernel
theorem dX12_putTemplate_17 : decode cX12_putTemplate 17 = .ok (.invokestatic 287, 3) := by decide +kernel
theorem dX12_putTemplate_20 : decode cX12_putTemplate 20 = .ok (.i2l, 1) := by decide +kernel
theorem dX12_putTemplate_21 : decode cX12_putTemplate 21 = .ok (.iconst 2, 1) := by decide +kernel
theorem dX12_putTemplate_22 : decode cX12_putTemplate 22 = .ok (.invokevirtual 283, 3) := by decide +kernel
theorem dX12_putTemplate_25 : decode cX12_putTemplate 25 = .ok (.iconst 0, 1) := by decide +kernel
theorem dX12_putTemplate_26 : decode cX12_putTemplate 26 = .ok (.istore_n 2, 1) := by decide +kernel
theorem dX12_putTemplate_27 : decode cX12_putTemplate 27 = .ok (.iload_n 2, 1) := by decide +kernel
theorem dX12_putTemplate_28 : decode cX12_putTemplate 28 = .ok (.aload_n 0, 1) := by decide +kernel
theorem dX12_putTemplate_29 : decode cX12_putTemplate 29 = .ok (.iload_n 1, 1) := by decide +kernel
theorem dX12_putTemplate_30 : decode cX12_putTemplate 30 = .ok (.invokevirtual 173, 3) := by decide +kernel
theorem dX12_putTemplate_33 : decode cX12_putTemplate 33 = .ok (.if_icmp .ge 44, 3) := by decide +kernel
theorem dX12_putTemplate_36 : decode cX12_putTemplate 36 = .ok (.aload_n 0, 1) := by decide +kernel
theorem dX12_putTemplate_37 : decode cX12_putTemplate 37 = .ok (.iload_n 1, 1) := by decide +kernel
theorem dX12_putTemplate_38 : decode cX12_putTemplate 38 = .ok (.iload_n 2, 1) := by decide +kernel
theorem dX12_putTemplate_39 : decode cX12_putTemplate 39 = .ok (.invokevirtual 177, 3) := by decide +kernel
theorem dX12_putTemplate_42 : decode cX12_putTemplate 42 = .ok (.istore_n 3, 1) := by decide +kernel
theorem dX12_putTemplate_43 : decode cX12_putTemplate 43 = .ok (.aload_n 0, 1) := by decide +kernel
theorem dX12_putTemplate_44 : decode cX12_putTemplate 44 = .ok (.iload_n 3, 1) := by decide +kernel
theorem dX12_putTemplate_45 : decode cX12_putTemplate 45 = .ok (.invokevirtual 206, 3) := by decide +kernel
theorem dX12_putTemplate_48 : decode cX12_putTemplate 48 = .ok (.ifCond .ne 6, 3) := by decide +kernel
theorem dX12_putTemplate_51 : decode cX12_putTemplate 51 = .ok (.goto 20, 3) := by decide +kernel
theorem dX12_putTemplate_54 : decode cX12_putTemplate 54 = .ok (.aload_n 0, 1) := by decide +kernel
theorem dX12_putTemplate_55 : decode cX12_putTemplate 55 = .ok (.iload_n 3, 1) := by decide +kernel
theorem dX12_putTemplate_56 : decode cX12_putTemplate 56 = .ok (.i2l, 1) := by decide +kernel
theorem dX12_putTemplate_57 : decode cX12_putTemplate 57 = .ok (.iconst 2, 1) := by decide +kernel
theorem dX12_putTemplate_58 : decode cX12_putTemplate 58 = .ok (.invokevirtual 283, 3) := by decide +kernel
theorem dX12_putTemplate_61 : decode cX12_putTemplate 61 = .ok (.aload_n 0, 1) := by decide +kernel
theorem dX12_putTemplate_62 : decode cX12_putTemplate 62 = .ok (.iload_n 3, 1) := by decide +kernel
theorem dX12_putTemplate_63 : decode cX12_putTemplate 63 = .ok (.invokestatic 195, 3) := by decide +kernel
theorem dX12_putTemplate_66 : decode cX12_putTemplate 66 = .ok (.i2l, 1) := by decide +kernel
theorem dX12_putTemplate_67 : decode cX12_putTemplate 67 = .ok (.iconst 2, 1) := by decide +kernel
theorem dX12_putTemplate_68 : decode cX12_putTemplate 68 = .ok (.invokevirtual 283, 3) := by decide +kernel
theorem dX12_putTemplate_71 : decode cX12_putTemplate 71 = .ok (.iinc 2 1, 3) := by decide +kernel
theorem dX12_putTemplate_74 : decode cX12_putTemplate 74 = .ok (.goto (-47), 3) := by decide +kernel
theorem dX12_putTemplate_77 : decode cX12_putTemplate 77 = .ok (.aload_n 0, 1) := by decide +kernel
theorem dX12_putTemplate_78 : decode cX12_putTemplate 78 = .ok (.getfield 20, 3) := by decide +kernel
theorem dX12_putTemplate_81 : decode cX12_putTemplate 81 = .ok (.iload_n 1, 1) := by decide +kernel
theorem dX12_putTemplate_82 : decode cX12_putTemplate 82 = .ok (.aload_n 0, 1) := by decide +kernel
theorem dX12_putTemplate_83 : decode cX12_putTemplate 83 = .ok (.getfield 142, 3) := by decide +kernel
theorem dX12_putTemplate_86 : decode cX12_putTemplate 86 = .ok (.iastore, 1) := by decide +kernel
theorem dX12_putTemplate_87 : decode cX12_putTemplate 87 = .ok (.aload_n 0, 1) := by decide +kernel
theorem dX12_putTemplate_88 : decode cX12_putTemplate 88 = .ok (.getfield 23, 3) := by decide +kernel
theorem dX12_putTemplate_91 : decode cX12_putTemplate 91 = .ok (.iload_n 1, 1) := by decide +kernel
theorem dX12_putTemplate_92 : decode cX12_putTemplate 92 = .ok (.aload_n 0, 1) := by decide +kernel
theorem dX12_putTemplate_93 : decode cX12_putTemplate 93 = .ok (.getfield 101, 3) := by decide +kernel
theorem dX12_putTemplate_96 : decode cX12_putTemplate 96 = .ok (.iastore, 1) := by decide +kernel
theorem dX12_putTemplate_97 : decode cX12_putTemplate 97 = .ok (.return_, 1) := by decide +kernel
theorem dX12_bitCount_0 : decode cX12_bitCount 0 = .ok (.iconst 0, 1) := by decide +kernel
theorem dX12_bitCount_1 : decode cX12_bitCount 1 = .ok (.istore_n 1, 1) := by decide +kernel
theorem dX12_bitCount_2 : decode cX12_bitCount 2 = .ok (.iload_n 0, 1) := by decide +kernel
theorem dX12_bitCount_3 : decode cX12_bitCount 3 = .ok (.istore_n 2, 1) := by decide +kernel
theorem dX12_bitCount_4 : decode cX12_bitCount 4 = .ok (.iload_n 2, 1) := by decide +kernel
theorem dX12_bitCount_5 : decode cX12_bitCount 5 = .ok (.ifCond .eq 15, 3) := by decide +kernel
theorem dX12_bitCount_8 : decode cX12_bitCount 8 = .ok (.iinc 1 1, 3) := by decide +kernel
theorem dX12_bitCount_11 : decode cX12_bitCount 11 = .ok (.iload_n 2, 1) := by decide +kernel
theorem dX12_bitCount_12 : decode cX12_bitCount 12 = .ok (.iload_n 2, 1) := by decide +kernel
theorem dX12_bitCount_13 : decode cX12_bitCount 13 = .ok (.iconst 1, 1) := by decide +kernel
theorem dX12_bitCount_14 : decode cX12_bitCount 14 = .ok (.isub, 1) := by decide +kernel
theorem dX12_bitCount_15 : decode cX12_bitCount 15 = .ok (.iand, 1) := by decide +kernel
theorem dX12_bitCount_16 : decode cX12_bitCount 16 = .ok (.istore_n 2, 1) := by decide +kernel
theorem dX12_bitCount_17 : decode cX12_bitCount 17 = .ok (.goto (-13), 3) := by decide +kernel
theorem dX12_bitCount_20 : decode cX12_bitCount 20 = .ok (.iload_n 1, 1) := by decide +kernel
theorem dX12_bitCount_21 : decode cX12_bitCount 21 = .ok (.ireturn, 1) := by decide +kernel
set_option maxRecDepth 20000 in
theorem ggX12_keyOf_X12_isSame : GoodIn wsX12_keyOf wsX12_isSame := goodIn_ca (goodIn_r _ [6] rfl (by decide +kernel)) (goodIn_sub (fun _ h => List.mem_cons_of_mem _ (List.mem_append_right _ h)) (by decide +kernel))
set_option maxRecDepth 20000 in
theorem gX12_keyOf_X12_isSame : GoodIn wsX12_keyOf (va_wsS RX12 386 yX12_isSame wsX12_isSame) := goodIn_app (goodIn_of _ (by decide +kernel)) ggX12_keyOf_X12_isSame
theorem dX12_keyOf_0 : decode cX12_keyOf 0 = .ok (.iconst 0, 1) := by decide +kernel
theorem dX12_keyOf_1 : decode cX12_keyOf 1 = .ok (.istore 9, 2) := by decide +kernel
theorem dX12_keyOf_3 : decode cX12_keyOf 3 = .ok (.iload 9, 2) := by decide +kernel
theorem dX12_keyOf_5 : decode cX12_keyOf 5 = .ok (.aload_n 0, 1) := by decide +kernel
theorem dX12_keyOf_6 : decode cX12_keyOf 6 = .ok (.getfield 148, 3) := by decide +kernel
theorem dX12_keyOf_9 : decode cX12_keyOf 9 = .ok (.if_icmp .ge 30, 3) := by decide +kernel
theorem dX12_keyOf_12 : decode cX12_keyOf 12 = .ok (.aload_n 0, 1) := by decide +kernel
theorem dX12_keyOf_13 : decode cX12_keyOf 13 = .ok (.getfield 69, 3) := by decide +kernel
theorem dX12_keyOf_16 : decode cX12_keyOf 16 = .ok (.iload 9, 2) := by decide +kernel
theorem dX12_keyOf_18 : decode cX12_keyOf 18 = .ok (.lload_n 1, 1) := by decide +kernel
theorem dX12_keyOf_19 : decode cX12_keyOf 19 = .ok (.lload_n 3, 1) := by decide +kernel
theorem dX12_keyOf_20 : decode cX12_keyOf 20 = .ok (.lload 5, 2) := by decide +kernel
theorem dX12_keyOf_22 : decode cX12_keyOf 22 = .ok (.lload 7, 2) := by decide +kernel
theorem dX12_keyOf_24 : decode cX12_keyOf 24 = .ok (.invokestatic 386, 3) := by decide +kernel
theorem dX12_keyOf_27 : decode cX12_keyOf 27 = .ok (.ifCond .eq 6, 3) := by decide +kernel
theorem dX12_keyOf_30 : decode cX12_keyOf 30 = .ok (.iload 9, 2) := by decide +kernel
theorem dX12_keyOf_32 : decode cX12_keyOf 32 = .ok (.ireturn, 1) := by decide +kernel
theorem dX12_keyOf_33 : decode cX12_keyOf 33 = .ok (.iinc 9 1, 3) := by decide +kernel
theorem dX12_keyOf_36 : decode cX12_keyOf 36 = .ok (.goto (-33), 3) := by decide +kernel
theorem dX12_keyOf_39 : decode cX12_keyOf 39 = .ok (.iconst (-1), 1) := by decide +kernel
theorem dX12_keyOf_40 : decode cX12_keyOf 40 = .ok (.ireturn, 1) := by decide +kernel
set_option maxRecDepth 20000 in
theorem ggX12_trueKeyOf_X12_isSame : GoodIn wsX12_trueKeyOf wsX12_isSame := goodIn_ca (goodIn_r _ [6] rfl (by decide +kernel)) (goodIn_sub (fun _ h => List.mem_cons_of_mem _ (List.mem_append_right _ h)) (by decide +kernel))
set_option maxRecDepth 20000 in
theorem gX12_trueKeyOf_X12_isSame : GoodIn wsX12_trueKeyOf (va_wsS RX12 386 yX12_isSame wsX12_isSame) := goodIn_app (goodIn_of _ (by decide +kernel)) ggX12_trueKeyOf_X12_isSame
theorem dX12_trueKeyOf_0 : decode cX12_trueKeyOf 0 = .ok (.iconst 0, 1) := by decide +kernel
theorem dX12_trueKeyOf_1 : decode cX12_trueKeyOf 1 = .ok (.istore 5, 2) := by decide +kernel
theorem dX12_trueKeyOf_3 : decode cX12_trueKeyOf 3 = .ok (.iload 5, 2) := by decide +kernel
theorem dX12_trueKeyOf_5 : decode cX12_trueKeyOf 5 = .ok (.aload_n 0, 1) := by decide +kernel
theorem dX12_trueKeyOf_6 : decode cX12_trueKeyOf 6 = .ok (.getfield 145, 3) := by decide +kernel
theorem dX12_trueKeyOf_9 : decode cX12_trueKeyOf 9 = .ok (.if_icmp .ge 33, 3) := by decide +kernel
theorem dX12_trueKeyOf_12 : decode cX12_trueKeyOf 12 = .ok (.aload_n 0, 1) := by decide +kernel
theorem dX12_trueKeyOf_13 : decode cX12_trueKeyOf 13 = .ok (.getfield 82, 3) := by decide +kernel
theorem dX12_trueKeyOf_16 : decode cX12_trueKeyOf 16 = .ok (.iload 5, 2) := by decide +kernel
theorem dX12_trueKeyOf_18 : decode cX12_trueKeyOf 18 = .ok (.iload_n 1, 1) := by decide +kernel
theorem dX12_trueKeyOf_19 : decode cX12_trueKeyOf 19 = .ok (.i2l, 1) := by decide +kernel
theorem dX12_trueKeyOf_20 : decode cX12_trueKeyOf 20 = .ok (.iload_n 2, 1) := by decide +kernel
theorem dX12_trueKeyOf_21 : decode cX12_trueKeyOf 21 = .ok (.i2l, 1) := by decide +kernel
theorem dX12_trueKeyOf_22 : decode cX12_trueKeyOf 22 = .ok (.iload_n 3, 1) := by decide +kernel
theorem dX12_trueKeyOf_23 : decode cX12_trueKeyOf 23 = .ok (.i2l, 1) := by decide +kernel
theorem dX12_trueKeyOf_24 : decode cX12_trueKeyOf 24 = .ok (.iload 4, 2) := by decide +kernel
theorem dX12_trueKeyOf_26 : decode cX12_trueKeyOf 26 = .ok (.i2l, 1) := by decide +kernel
theorem dX12_trueKeyOf_27 : decode cX12_trueKeyOf 27 = .ok (.invokestatic 386, 3) := by decide +kernel
theorem dX12_trueKeyOf_30 : decode cX12_trueKeyOf 30 = .ok (.ifCond .eq 6, 3) := by decide +kernel
theorem dX12_trueKeyOf_33 : decode cX12_trueKeyOf 33 = .ok (.iload 5, 2) := by decide +kernel
theorem dX12_trueKeyOf_35 : decode cX12_trueKeyOf 35 = .ok (.ireturn, 1) := by decide +kernel
theorem dX12_trueKeyOf_36 : decode cX12_trueKeyOf 36 = .ok (.iinc 5 1, 3) := by decide +kernel
theorem dX12_trueKeyOf_39 : decode cX12_trueKeyOf 39 = .ok (.goto (-36), 3) := by decide +kernel
theorem dX12_trueKeyOf_42 : decode cX12_trueKeyOf 42 = .ok (.iconst (-1), 1) := by decide +kernel
theorem dX12_trueKeyOf_43 : decode cX12_trueKeyOf 43 = .ok (.ireturn, 1) := by decide +kernel
set_option maxRecDepth 20000 in
theorem ggX12_remember_X12_trueKeyOf : GoodIn wsX12_remember wsX12_trueKeyOf := goodIn_ca (goodIn_r _ [8, 1, 2, 9, 10, 7, 11, 12, 13, 14, 15, 16, 17, 18, 19, 20, 21, 22, 23, 24, 25, 26, 27, 28, 29, 30, 31, 32, 33, 34, 35, 36, 37, 38, 39, 40, 41, 42, 43, 44, 45, 46, 47, 48, 49, 50, 51, 52, 53, 54, 55, 56, 57, 58, 59, 60, 61, 62, 63, 64, 65] rfl (by decide +kernel)) (goodIn_sub (fun _ h => List.mem_cons_of_mem _ (List.mem_append_right _ h)) (by decide +kernel))
set_option maxRecDepth 20000 in
theorem gX12_remember_X12_trueKeyOf : GoodIn wsX12_remember (wsV RX12 434 RX12 yX12_trueKeyOf wsX12_trueKeyOf) := goodIn_app (goodIn_of _ (by decide +kernel)) ggX12_remember_X12_trueKeyOf
theorem dX12_remember_0 : decode cX12_remember 0 = .ok (.aload_n 0, 1) := by decide +kernel
theorem dX12_remember_1 : decode cX12_remember 1 = .ok (.iload_n 1, 1) := by decide +kernel
theorem dX12_remember_2 : decode cX12_remember 2 = .ok (.iload_n 2, 1) := by decide +kernel
theorem dX12_remember_3 : decode cX12_remember 3 = .ok (.iload_n 3, 1) := by decide +kernel
theorem dX12_remember_4 : decode cX12_remember 4 = .ok (.iload 4, 2) := by decide +kernel
theorem dX12_remember_6 : decode cX12_remember 6 = .ok (.invokevirtual 434, 3) := by decide +kernel
theorem dX12_remember_9 : decode cX12_remember 9 = .ok (.istore 6, 2) := by decide +kernel
theorem dX12_remember_11 : decode cX12_remember 11 = .ok (.iload 6, 2) := by decide +kernel
theorem dX12_remember_13 : decode cX12_remember 13 = .ok (.iconst (-1), 1) := by decide +kernel
theorem dX12_remember_14 : decode cX12_remember 14 = .ok (.if_icmp .ne 13, 3) := by decide +kernel
theorem dX12_remember_17 : decode cX12_remember 17 = .ok (.aload_n 0, 1) := by decide +kernel
theorem dX12_remember_18 : decode cX12_remember 18 = .ok (.getfield 145, 3) := by decide +kernel
theorem dX12_remember_21 : decode cX12_remember 21 = .ok (.bipush 24, 2) := by decide +kernel
theorem dX12_remember_23 : decode cX12_remember 23 = .ok (.if_icmp .ne 4, 3) := by decide +kernel
theorem dX12_remember_26 : decode cX12_remember 26 = .ok (.return_, 1) := by decide +kernel
theorem dX12_remember_27 : decode cX12_remember 27 = .ok (.iload 6, 2) := by decide +kernel
theorem dX12_remember_29 : decode cX12_remember 29 = .ok (.iconst (-1), 1) := by decide +kernel
theorem dX12_remember_30 : decode cX12_remember 30 = .ok (.if_icmp .ne 88, 3) := by decide +kernel
theorem dX12_remember_33 : decode cX12_remember 33 = .ok (.aload_n 0, 1) := by decide +kernel
theorem dX12_remember_34 : decode cX12_remember 34 = .ok (.getfield 145, 3) := by decide +kernel
theorem dX12_remember_37 : decode cX12_remember 37 = .ok (.istore 6, 2) := by decide +kernel
theorem dX12_remember_39 : decode cX12_remember 39 = .ok (.aload_n 0, 1) := by decide +kernel
theorem dX12_remember_40 : decode cX12_remember 40 = .ok (.dup, 1) := by decide +kernel
theorem dX12_remember_41 : decode cX12_remember 41 = .ok (.getfield 145, 3) := by decide +kernel
theorem dX12_remember_44 : decode cX12_remember 44 = .ok (.iconst 1, 1) := by decide +kernel
theorem dX12_remember_45 : decode cX12_remember 45 = .ok (.iadd, 1) := by decide +kernel
theorem dX12_remember_46 : decode cX12_remember 46 = .ok (.putfield 145, 3) := by decide +kernel
theorem dX12_remember_49 : decode cX12_remember 49 = .ok (.aload_n 0, 1) := by decide +kernel
theorem dX12_remember_50 : decode cX12_remember 50 = .ok (.getfield 82, 3) := by decide +kernel
theorem dX12_remember_53 : decode cX12_remember 53 = .ok (.iconst 4, 1) := by decide +kernel
theorem dX12_remember_54 : decode cX12_remember 54 = .ok (.iload 6, 2) := by decide +kernel
theorem dX12_remember_56 : decode cX12_remember 56 = .ok (.imul, 1) := by decide +kernel
theorem dX12_remember_57 : decode cX12_remember 57 = .ok (.iload_n 1, 1) := by decide +kernel
theorem dX12_remember_58 : decode cX12_remember 58 = .ok (.iastore, 1) := by decide +kernel
theorem dX12_remember_59 : decode cX12_remember 59 = .ok (.aload_n 0, 1) := by decide +kernel
theorem dX12_remember_60 : decode cX12_remember 60 = .ok (.getfield 82, 3) := by decide +kernel
theorem dX12_remember_63 : decode cX12_remember 63 = .ok (.iconst 4, 1) := by decide +kernel
theorem dX12_remember_64 : decode cX12_remember 64 = .ok (.iload 6, 2) := by decide +kernel
theorem dX12_remember_66 : decode cX12_remember 66 = .ok (.imul, 1) := by decide +kernel
theorem dX12_remember_67 : decode cX12_remember 67 = .ok (.iconst 1, 1) := by decide +kernel
theorem dX12_remember_68 : decode cX12_remember 68 = .ok (.iadd, 1) := by decide +kernel
theorem dX12_remember_69 : decode cX12_remember 69 = .ok (.iload_n 2, 1) := by decide +kernel
theorem dX12_remember_70 : decode cX12_remember 70 = .ok (.iastore, 1) := by decide +kernel
theorem dX12_remember_71 : decode cX12_remember 71 = .ok (.aload_n 0, 1) := by decide +kernel
theorem dX12_remember_72 : decode cX12_remember 72 = .ok (.getfield 82, 3) := by decide +kernel
theorem dX12_remember_75 : decode cX12_remember 75 = .ok (.iconst 4, 1) := by decide +kernel
theorem dX12_remember_76 : decode cX12_remember 76 = .ok (.iload 6, 2) := by decide +kernel
theorem dX12_remember_78 : decode cX12_remember 78 = .ok (.imul, 1) := by decide +kernel
theorem dX12_remember_79 : decode cX12_remember 79 = .ok (.iconst 2, 1) := by decide +kernel
theorem dX12_remember_80 : decode cX12_remember 80 = .ok (.iadd, 1) := by decide +kernel
theorem dX12_remember_81 : decode cX12_remember 81 = .ok (.iload_n 3, 1) := by decide +kernel
theorem dX12_remember_82 : decode cX12_remember 82 = .ok (.iastore, 1) := by decide +kernel
theorem dX12_remember_83 : decode cX12_remember 83 = .ok (.aload_n 0, 1) := by decide +kernel
theorem dX12_remember_84 : decode cX12_remember 84 = .ok (.getfield 82, 3) := by decide +kernel
theorem dX12_remember_87 : decode cX12_remember 87 = .ok (.iconst 4, 1) := by decide +kernel
theorem dX12_remember_88 : decode cX12_remember 88 = .ok (.iload 6, 2) := by decide +kernel
theorem dX12_remember_90 : decode cX12_remember 90 = .ok (.imul, 1) := by decide +kernel
theorem dX12_remember_91 : decode cX12_remember 91 = .ok (.iconst 3, 1) := by decide +kernel
theorem dX12_remember_92 : decode cX12_remember 92 = .ok (.iadd, 1) := by decide +kernel
theorem dX12_remember_93 : decode cX12_remember 93 = .ok (.iload 4, 2) := by decide +kernel
theorem dX12_remember_95 : decode cX12_remember 95 = .ok (.iastore, 1) := by decide +kernel
theorem dX12_remember_96 : decode cX12_remember 96 = .ok (.aload_n 0, 1) := by decide +kernel
theorem dX12_remember_97 : decode cX12_remember 97 = .ok (.getfield 85, 3) := by decide +kernel
theorem dX12_remember_100 : decode cX12_remember 100 = .ok (.iconst 2, 1) := by decide +kernel
theorem dX12_remember_101 : decode cX12_remember 101 = .ok (.iload 6, 2) := by decide +kernel
theorem dX12_remember_103 : decode cX12_remember 103 = .ok (.imul, 1) := by decide +kernel
theorem dX12_remember_104 : decode cX12_remember 104 = .ok (.lconst 0, 1) := by decide +kernel
theorem dX12_remember_105 : decode cX12_remember 105 = .ok (.lastore, 1) := by decide +kernel
theorem dX12_remember_106 : decode cX12_remember 106 = .ok (.aload_n 0, 1) := by decide +kernel
theorem dX12_remember_107 : decode cX12_remember 107 = .ok (.getfield 85, 3) := by decide +kernel
theorem dX12_remember_110 : decode cX12_remember 110 = .ok (.iconst 2, 1) := by decide +kernel
theorem dX12_remember_111 : decode cX12_remember 111 = .ok (.iload 6, 2) := by decide +kernel
theorem dX12_remember_113 : decode cX12_remember 113 = .ok (.imul, 1) := by decide +kernel
theorem dX12_remember_114 : decode cX12_remember 114 = .ok (.iconst 1, 1) := by decide +kernel
theorem dX12_remember_115 : decode cX12_remember 115 = .ok (.iadd, 1) := by decide +kernel
theorem dX12_remember_116 : decode cX12_remember 116 = .ok (.lconst 0, 1) := by decide +kernel
theorem dX12_remember_117 : decode cX12_remember 117 = .ok (.lastore, 1) := by decide +kernel
theorem dX12_remember_118 : decode cX12_remember 118 = .ok (.aload_n 0, 1) := by decide +kernel
theorem dX12_remember_119 : decode cX12_remember 119 = .ok (.getfield 85, 3) := by decide +kernel
theorem dX12_remember_122 : decode cX12_remember 122 = .ok (.iconst 2, 1) := by decide +kernel
theorem dX12_remember_123 : decode cX12_remember 123 = .ok (.iload 6, 2) := by decide +kernel
theorem dX12_remember_125 : decode cX12_remember 125 = .ok (.imul, 1) := by decide +kernel
theorem dX12_remember_126 : decode cX12_remember 126 = .ok (.dup2, 1) := by decide +kernel
theorem dX12_remember_127 : decode cX12_remember 127 = .ok (.laload, 1) := by decide +kernel
theorem dX12_remember_128 : decode cX12_remember 128 = .ok (.lconst 1, 1) := by decide +kernel
theorem dX12_remember_129 : decode cX12_remember 129 = .ok (.ladd, 1) := by decide +kernel
theorem dX12_remember_130 : decode cX12_remember 130 = .ok (.lastore, 1) := by decide +kernel
theorem dX12_remember_131 : decode cX12_remember 131 = .ok (.aload_n 0, 1) := by decide +kernel
theorem dX12_remember_132 : decode cX12_remember 132 = .ok (.getfield 85, 3) := by decide +kernel
theorem dX12_remember_135 : decode cX12_remember 135 = .ok (.iconst 2, 1) := by decide +kernel
theorem dX12_remember_136 : decode cX12_remember 136 = .ok (.iload 6, 2) := by decide +kernel
theorem dX12_remember_138 : decode cX12_remember 138 = .ok (.imul, 1) := by decide +kernel
theorem dX12_remember_139 : decode cX12_remember 139 = .ok (.iconst 1, 1) := by decide +kernel
theorem dX12_remember_140 : decode cX12_remember 140 = .ok (.iadd, 1) := by decide +kernel
theorem dX12_remember_141 : decode cX12_remember 141 = .ok (.dup2, 1) := by decide +kernel
theorem dX12_remember_142 : decode cX12_remember 142 = .ok (.laload, 1) := by decide +kernel
theorem dX12_remember_143 : decode cX12_remember 143 = .ok (.iload 5, 2) := by decide +kernel
theorem dX12_remember_145 : decode cX12_remember 145 = .ok (.i2l, 1) := by decide +kernel
theorem dX12_remember_146 : decode cX12_remember 146 = .ok (.ladd, 1) := by decide +kernel
theorem dX12_remember_147 : decode cX12_remember 147 = .ok (.lastore, 1) := by decide +kernel
theorem dX12_remember_148 : decode cX12_remember 148 = .ok (.return_, 1) := by decide +kernel

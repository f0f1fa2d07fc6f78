theorem dX12_flowOf_0 : decode cX12_flowOf 0 = .ok (.iconst 0, 1) := by decide +kernel
theorem dX12_flowOf_1 : decode cX12_flowOf 1 = .ok (.istore 5, 2) := by decide +kernel
theorem dX12_flowOf_3 : decode cX12_flowOf 3 = .ok (.iload 5, 2) := by decide +kernel
theorem dX12_flowOf_5 : decode cX12_flowOf 5 = .ok (.aload_n 0, 1) := by decide +kernel
theorem dX12_flowOf_6 : decode cX12_flowOf 6 = .ok (.getfield 133, 3) := by decide +kernel
theorem dX12_flowOf_9 : decode cX12_flowOf 9 = .ok (.if_icmp .ge 83, 3) := by decide +kernel
theorem dX12_flowOf_12 : decode cX12_flowOf 12 = .ok (.aload_n 0, 1) := by decide +kernel
theorem dX12_flowOf_13 : decode cX12_flowOf 13 = .ok (.getfield 26, 3) := by decide +kernel
theorem dX12_flowOf_16 : decode cX12_flowOf 16 = .ok (.bipush 8, 2) := by decide +kernel
theorem dX12_flowOf_18 : decode cX12_flowOf 18 = .ok (.iload 5, 2) := by decide +kernel
theorem dX12_flowOf_20 : decode cX12_flowOf 20 = .ok (.imul, 1) := by decide +kernel
theorem dX12_flowOf_21 : decode cX12_flowOf 21 = .ok (.laload, 1) := by decide +kernel
theorem dX12_flowOf_22 : decode cX12_flowOf 22 = .ok (.iload_n 1, 1) := by decide +kernel
theorem dX12_flowOf_23 : decode cX12_flowOf 23 = .ok (.i2l, 1) := by decide +kernel
theorem dX12_flowOf_24 : decode cX12_flowOf 24 = .ok (.lcmp, 1) := by decide +kernel
theorem dX12_flowOf_25 : decode cX12_flowOf 25 = .ok (.ifCond .ne 61, 3) := by decide +kernel
theorem dX12_flowOf_28 : decode cX12_flowOf 28 = .ok (.aload_n 0, 1) := by decide +kernel
theorem dX12_flowOf_29 : decode cX12_flowOf 29 = .ok (.getfield 26, 3) := by decide +kernel
theorem dX12_flowOf_32 : decode cX12_flowOf 32 = .ok (.bipush 8, 2) := by decide +kernel
theorem dX12_flowOf_34 : decode cX12_flowOf 34 = .ok (.iload 5, 2) := by decide +kernel
theorem dX12_flowOf_36 : decode cX12_flowOf 36 = .ok (.imul, 1) := by decide +kernel
theorem dX12_flowOf_37 : decode cX12_flowOf 37 = .ok (.iconst 1, 1) := by decide +kernel
theorem dX12_flowOf_38 : decode cX12_flowOf 38 = .ok (.iadd, 1) := by decide +kernel
theorem dX12_flowOf_39 : decode cX12_flowOf 39 = .ok (.laload, 1) := by decide +kernel
theorem dX12_flowOf_40 : decode cX12_flowOf 40 = .ok (.iload_n 2, 1) := by decide +kernel
theorem dX12_flowOf_41 : decode cX12_flowOf 41 = .ok (.i2l, 1) := by decide +kernel
theorem dX12_flowOf_42 : decode cX12_flowOf 42 = .ok (.lcmp, 1) := by decide +kernel
theorem dX12_flowOf_43 : decode cX12_flowOf 43 = .ok (.ifCond .ne 43, 3) := by decide +kernel
theorem dX12_flowOf_46 : decode cX12_flowOf 46 = .ok (.aload_n 0, 1) := by decide +kernel
theorem dX12_flowOf_47 : decode cX12_flowOf 47 = .ok (.getfield 26, 3) := by decide +kernel
theorem dX12_flowOf_50 : decode cX12_flowOf 50 = .ok (.bipush 8, 2) := by decide +kernel
theorem dX12_flowOf_52 : decode cX12_flowOf 52 = .ok (.iload 5, 2) := by decide +kernel
theorem dX12_flowOf_54 : decode cX12_flowOf 54 = .ok (.imul, 1) := by decide +kernel
theorem dX12_flowOf_55 : decode cX12_flowOf 55 = .ok (.iconst 2, 1) := by decide +kernel
theorem dX12_flowOf_56 : decode cX12_flowOf 56 = .ok (.iadd, 1) := by decide +kernel
theorem dX12_flowOf_57 : decode cX12_flowOf 57 = .ok (.laload, 1) := by decide +kernel
theorem dX12_flowOf_58 : decode cX12_flowOf 58 = .ok (.iload_n 3, 1) := by decide +kernel
theorem dX12_flowOf_59 : decode cX12_flowOf 59 = .ok (.i2l, 1) := by decide +kernel
theorem dX12_flowOf_60 : decode cX12_flowOf 60 = .ok (.lcmp, 1) := by decide +kernel
theorem dX12_flowOf_61 : decode cX12_flowOf 61 = .ok (.ifCond .ne 25, 3) := by decide +kernel
theorem dX12_flowOf_64 : decode cX12_flowOf 64 = .ok (.aload_n 0, 1) := by decide +kernel
theorem dX12_flowOf_65 : decode cX12_flowOf 65 = .ok (.getfield 26, 3) := by decide +kernel
theorem dX12_flowOf_68 : decode cX12_flowOf 68 = .ok (.bipush 8, 2) := by decide +kernel
theorem dX12_flowOf_70 : decode cX12_flowOf 70 = .ok (.iload 5, 2) := by decide +kernel
theorem dX12_flowOf_72 : decode cX12_flowOf 72 = .ok (.imul, 1) := by decide +kernel
theorem dX12_flowOf_73 : decode cX12_flowOf 73 = .ok (.iconst 3, 1) := by decide +kernel
theorem dX12_flowOf_74 : decode cX12_flowOf 74 = .ok (.iadd, 1) := by decide +kernel
theorem dX12_flowOf_75 : decode cX12_flowOf 75 = .ok (.laload, 1) := by decide +kernel
theorem dX12_flowOf_76 : decode cX12_flowOf 76 = .ok (.iload 4, 2) := by decide +kernel
theorem dX12_flowOf_78 : decode cX12_flowOf 78 = .ok (.i2l, 1) := by decide +kernel
theorem dX12_flowOf_79 : decode cX12_flowOf 79 = .ok (.lcmp, 1) := by decide +kernel
theorem dX12_flowOf_80 : decode cX12_flowOf 80 = .ok (.ifCond .ne 6, 3) := by decide +kernel
theorem dX12_flowOf_83 : decode cX12_flowOf 83 = .ok (.iload 5, 2) := by decide +kernel
theorem dX12_flowOf_85 : decode cX12_flowOf 85 = .ok (.ireturn, 1) := by decide +kernel
theorem dX12_flowOf_86 : decode cX12_flowOf 86 = .ok (.iinc 5 1, 3) := by decide +kernel
theorem dX12_flowOf_89 : decode cX12_flowOf 89 = .ok (.goto (-86), 3) := by decide +kernel
theorem dX12_flowOf_92 : decode cX12_flowOf 92 = .ok (.iconst (-1), 1) := by decide +kernel
theorem dX12_flowOf_93 : decode cX12_flowOf 93 = .ok (.ireturn, 1) := by decide +kernel
theorem dX12_put_0 : decode cX12_put 0 = .ok (.bipush 8, 2) := by decide +kernel
theorem dX12_put_2 : decode cX12_put 2 = .ok (.iload_n 3, 1) := by decide +kernel
theorem dX12_put_3 : decode cX12_put 3 = .ok (.imul, 1) := by decide +kernel
theorem dX12_put_4 : decode cX12_put 4 = .ok (.bipush 8, 2) := by decide +kernel
theorem dX12_put_6 : decode cX12_put 6 = .ok (.isub, 1) := by decide +kernel
theorem dX12_put_7 : decode cX12_put 7 = .ok (.istore 4, 2) := by decide +kernel
theorem dX12_put_9 : decode cX12_put 9 = .ok (.iload 4, 2) := by decide +kernel
theorem dX12_put_11 : decode cX12_put 11 = .ok (.ifCond .lt 37, 3) := by decide +kernel
theorem dX12_put_14 : decode cX12_put 14 = .ok (.aload_n 0, 1) := by decide +kernel
theorem dX12_put_15 : decode cX12_put 15 = .ok (.getfield 36, 3) := by decide +kernel
theorem dX12_put_18 : decode cX12_put 18 = .ok (.aload_n 0, 1) := by decide +kernel
theorem dX12_put_19 : decode cX12_put 19 = .ok (.getfield 280, 3) := by decide +kernel
theorem dX12_put_22 : decode cX12_put 22 = .ok (.lload_n 1, 1) := by decide +kernel
theorem dX12_put_23 : decode cX12_put 23 = .ok (.iload 4, 2) := by decide +kernel
theorem dX12_put_25 : decode cX12_put 25 = .ok (.lshr, 1) := by decide +kernel
theorem dX12_put_26 : decode cX12_put 26 = .ok (.ldc2_w 218, 3) := by decide +kernel
theorem dX12_put_29 : decode cX12_put 29 = .ok (.land, 1) := by decide +kernel
theorem dX12_put_30 : decode cX12_put 30 = .ok (.l2i, 1) := by decide +kernel
theorem dX12_put_31 : decode cX12_put 31 = .ok (.iastore, 1) := by decide +kernel
theorem dX12_put_32 : decode cX12_put 32 = .ok (.aload_n 0, 1) := by decide +kernel
theorem dX12_put_33 : decode cX12_put 33 = .ok (.dup, 1) := by decide +kernel
theorem dX12_put_34 : decode cX12_put 34 = .ok (.getfield 280, 3) := by decide +kernel
theorem dX12_put_37 : decode cX12_put 37 = .ok (.iconst 1, 1) := by decide +kernel
theorem dX12_put_38 : decode cX12_put 38 = .ok (.iadd, 1) := by decide +kernel
theorem dX12_put_39 : decode cX12_put 39 = .ok (.putfield 280, 3) := by decide +kernel
theorem dX12_put_42 : decode cX12_put 42 = .ok (.iinc 4 (-8), 3) := by decide +kernel
theorem dX12_put_45 : decode cX12_put 45 = .ok (.goto (-36), 3) := by decide +kernel
theorem dX12_put_48 : decode cX12_put 48 = .ok (.return_, 1) := by decide +kernel
theorem dX12_putAt_0 : decode cX12_putAt 0 = .ok (.aload_n 0, 1) := by decide +kernel
theorem dX12_putAt_1 : decode cX12_putAt 1 = .ok (.getfield 36, 3) := by decide +kernel
theorem dX12_putAt_4 : decode cX12_putAt 4 = .ok (.iload_n 1, 1) := by decide +kernel
theorem dX12_putAt_5 : decode cX12_putAt 5 = .ok (.iload_n 2, 1) := by decide +kernel
theorem dX12_putAt_6 : decode cX12_putAt 6 = .ok (.bipush 8, 2) := by decide +kernel
theorem dX12_putAt_8 : decode cX12_putAt 8 = .ok (.ishr, 1) := by decide +kernel
theorem dX12_putAt_9 : decode cX12_putAt 9 = .ok (.iastore, 1) := by decide +kernel
theorem dX12_putAt_10 : decode cX12_putAt 10 = .ok (.aload_n 0, 1) := by decide +kernel
theorem dX12_putAt_11 : decode cX12_putAt 11 = .ok (.getfield 36, 3) := by decide +kernel
theorem dX12_putAt_14 : decode cX12_putAt 14 = .ok (.iload_n 1, 1) := by decide +kernel
theorem dX12_putAt_15 : decode cX12_putAt 15 = .ok (.iconst 1, 1) := by decide +kernel
theorem dX12_putAt_16 : decode cX12_putAt 16 = .ok (.iadd, 1) := by decide +kernel
theorem dX12_putAt_17 : decode cX12_putAt 17 = .ok (.iload_n 2, 1) := by decide +kernel
theorem dX12_putAt_18 : decode cX12_putAt 18 = .ok (.sipush 255, 3) := by decide +kernel
theorem dX12_putAt_21 : decode cX12_putAt 21 = .ok (.iand, 1) := by decide +kernel
theorem dX12_putAt_22 : decode cX12_putAt 22 = .ok (.iastore, 1) := by decide +kernel
theorem dX12_putAt_23 : decode cX12_putAt 23 = .ok (.return_, 1) := by decide +kernel
set_option maxRecDepth 20000 in
theorem ggX12_putTemplate_X12_put : GoodIn wsX12_putTemplate wsX12_put := goodIn_ca (goodIn_r _ [9, 10, 11, 12, 40, 41, 42, 43, 44, 45, 46, 47, 48, 49, 50, 51, 52, 53, 54, 55, 56, 57, 58, 59, 60, 61, 62, 63, 64, 65, 66, 67, 68, 69, 70, 71, 72, 73, 74, 75, 76, 77, 78, 79, 80, 81, 82, 83, 84, 85, 86, 87, 88, 89, 90, 91, 92, 93] (by decide +kernel) (by decide +kernel)) (goodIn_sub (fun _ h => List.mem_cons_of_mem _ (List.mem_append_right _ h)) (by decide +kernel))
set_option maxRecDepth 20000 in
theorem gX12_putTemplate_X12_put : GoodIn wsX12_putTemplate (wsV RX12 283 RX12 yX12_put wsX12_put) := goodIn_app (goodIn_of _ (by decide +kernel)) ggX12_putTemplate_X12_put
set_option maxRecDepth 20000 in
theorem ggX12_putTemplate_X12_effective : GoodIn wsX12_putTemplate wsX12_effective := goodIn_ca (goodIn_r _ [16, 17, 18, 19, 20, 8, 21, 22, 23, 24, 25, 26, 27, 28, 29, 40, 41, 42, 43, 44, 45, 46, 47, 48, 49, 50, 51, 52, 53, 54, 55, 56, 57, 58, 59, 60, 61, 62, 63, 64, 65, 66, 67, 68, 69, 70, 71, 72, 73, 74, 75, 76, 77, 78, 79, 80, 81, 82, 83, 84, 85, 86, 87, 88, 89, 90, 91, 92, 93] (by decide +kernel) (by decide +kernel)) (goodIn_sub (fun _ h => List.mem_cons_of_mem _ (List.mem_append_right _ h)) (by decide +kernel))
set_option maxRecDepth 20000 in
theorem gX12_putTemplate_X12_effective : GoodIn wsX12_putTemplate (wsV RX12 192 RX12 yX12_effective wsX12_effective) := goodIn_app (goodIn_of _ (by decide +kernel)) ggX12_putTemplate_X12_effective
set_option maxRecDepth 20000 in
theorem ggX12_putTemplate_X12_bitCount : GoodIn wsX12_putTemplate wsX12_bitCount := goodIn_r _ [32] (by decide +kernel) (by decide +kernel)
set_option maxRecDepth 20000 in
theorem gX12_putTemplate_X12_bitCount : GoodIn wsX12_putTemplate (va_wsS RX12 287 yX12_bitCount wsX12_bitCount) := goodIn_app (goodIn_of _ (by decide +kernel)) ggX12_putTemplate_X12_bitCount
set_option maxRecDepth 20000 in
theorem ggX12_putTemplate_X12_sizeOf : GoodIn wsX12_putTemplate wsX12_sizeOf := goodIn_ca (goodIn_r _ [25, 17, 40, 41, 42, 43, 44, 45, 46, 47, 48, 49, 50, 51, 52, 53, 54, 55, 56, 57, 58, 59, 60, 61, 62, 63, 64, 65, 66, 67, 68, 69, 70, 71, 72, 73, 74, 75, 76, 77, 78, 79, 80, 81, 82, 83, 84, 85, 86, 87, 88, 89, 90, 91, 92, 93] (by decide +kernel) (by decide +kernel)) (goodIn_sub (fun _ h => List.mem_cons_of_mem _ (List.mem_append_right _ h)) (by decide +kernel))
set_option maxRecDepth 20000 in
theorem gX12_putTemplate_X12_sizeOf : GoodIn wsX12_putTemplate (wsV RX12 173 RX12 yX12_sizeOf wsX12_sizeOf) := goodIn_app (goodIn_of _ (by decide +kernel)) ggX12_putTemplate_X12_sizeOf
set_option maxRecDepth 20000 in
theorem ggX12_putTemplate_X12_fieldOf : GoodIn wsX12_putTemplate wsX12_fieldOf := goodIn_ca (goodIn_r _ [29, 17, 40, 41, 42, 43, 44, 45, 46, 47, 48, 49, 50, 51, 52, 53, 54, 55, 56, 57, 58, 59, 60, 61, 62, 63, 64, 65, 66, 67, 68, 69, 70, 71, 72, 73, 74, 75, 76, 77, 78, 79, 80, 81, 82, 83, 84, 85, 86, 87, 88, 89, 90, 91, 92, 93] (by decide +kernel) (by decide +kernel)) (goodIn_sub (fun _ h => List.mem_cons_of_mem _ (List.mem_append_right _ h)) (by decide +kernel))
set_option maxRecDepth 20000 in
theorem gX12_putTemplate_X12_fieldOf : GoodIn wsX12_putTemplate (wsV RX12 177 RX12 yX12_fieldOf wsX12_fieldOf) := goodIn_app (goodIn_of _ (by decide +kernel)) ggX12_putTemplate_X12_fieldOf
set_option maxRecDepth 20000 in
theorem ggX12_putTemplate_X12_isSupported : GoodIn wsX12_putTemplate wsX12_isSupported := goodIn_ca (goodIn_r _ [36, 17, 40, 41, 42, 43, 44, 45, 46, 47, 48, 49, 50, 51, 52, 53, 54, 55, 56, 57, 58, 59, 60, 61, 62, 63, 64, 65, 66, 67, 68, 69, 70, 71, 72, 73, 74, 75, 76, 77, 78, 79, 80, 81, 82, 83, 84, 85, 86, 87, 88, 89, 90, 91, 92, 93] (by decide +kernel) (by decide +kernel)) (goodIn_sub (fun _ h => List.mem_cons_of_mem _ (List.mem_append_right _ h)) (by decide +kernel))
set_option maxRecDepth 20000 in
theorem gX12_putTemplate_X12_isSupported : GoodIn wsX12_putTemplate (wsV RX12 206 RX12 yX12_isSupported wsX12_isSupported) := goodIn_app (goodIn_of _ (by decide +kernel)) ggX12_putTemplate_X12_isSupported
set_option maxRecDepth 20000 in
theorem ggX12_putTemplate_X12_lengthOf : GoodIn wsX12_putTemplate wsX12_lengthOf := goodIn_r _ [39] (by decide +kernel) (by decide +kernel)
set_option maxRecDepth 20000 in
theorem gX12_putTemplate_X12_lengthOf : GoodIn wsX12_putTemplate (va_wsS RX12 195 yX12_lengthOf wsX12_lengthOf) := goodIn_app (goodIn_of _ (by decide +kernel)) ggX12_putTemplate_X12_lengthOf
theorem dX12_putTemplate_0 : decode cX12_putTemplate 0 = .ok (.aload_n 0, 1) := by decide +kernel
theorem dX12_putTemplate_1 : decode cX12_putTemplate 1 = .ok (.sipush 256, 3) := by decide +kernel
theorem dX12_putTemplate_4 : decode cX12_putTemplate 4 = .ok (.iload_n 1, 1) := by decide +kernel
theorem dX12_putTemplate_5 : decode cX12_putTemplate 5 = .ok (.iadd, 1) := by decide +kernel
theorem dX12_putTemplate_6 : decode cX12_putTemplate 6 = .ok (.i2l, 1) := by decide +kernel
theorem dX12_putTemplate_7 : decode cX12_putTemplate 7 = .ok (.iconst 2, 1) := by decide +kernel
theorem dX12_putTemplate_8 : decode cX12_putTemplate 8 = .ok (.invokevirtual 283, 3) := by decide +kernel
theorem dX12_putTemplate_11 : decode cX12_putTemplate 11 = .ok (.aload_n 0, 1) := by decide +kernel
theorem dX12_putTemplate_12 : decode cX12_putTemplate 12 = .ok (.aload_n 0, 1) := by decide +kernel
theorem dX12_putTemplate_13 : decode cX12_putTemplate 13 = .ok (.iload_n 1, 1) := by decide +kernel
theorem dX12_putTemplate_14 : decode cX12_putTemplate 14 = .ok (.invokevirtual 192, 3) := by decide +kernel
theorem dX12_putTemplate_17 : decode cX12_putTemplate 17 = .ok (.invokestatic 287, 3) := by decide +kernel
theorem dX12_putTemplate_20 : decode cX12_putTemplate 20 = .ok (.i2l, 1) := by decide +kernel
theorem dX12_putTemplate_21 : decode cX12_putTemplate 21 = .ok (.iconst 2, 1) := by decide +kernel
theorem dX12_putTemplate_22 : decode cX12_putTemplate 22 = .ok (.invokevirtual 283, 3) := by decide +kernel
theorem dX12_putTemplate_25 : decode cX12_putTemplate 25 = .ok (.iconst 0, 1) := by decide +kernel
theorem dX12_putTemplate_26 : decode cX12_putTemplate 26 = .ok (.istore_n 2, 1) := by decide +kernel
theorem dX12_putTemplate_27 : decode cX12_putTemplate 27 = .ok (.iload_n 2, 1) := by decide +kernel
theorem dX12_putTemplate_28 : decode cX12_putTemplate 28 = .ok (.aload_n 0, 1) := by decide +kernel
theorem dX12_putTemplate_29 : decode cX12_putTemplate 29 = .ok (.iload_n 1, 1) := by decide +kernel
theorem dX12_putTemplate_30 : decode cX12_putTemplate 30 = .ok (.invokevirtual 173, 3) := by decide +kernel
theorem dX12_putTemplate_33 : decode cX12_putTemplate 33 = .ok (.if_icmp .ge 44, 3) := by decide +kernel
theorem dX12_putTemplate_36 : decode cX12_putTemplate 36 = .ok (.aload_n 0, 1) := by decide +kernel
theorem dX12_putTemplate_37 : decode cX12_putTemplate 37 = .ok (.iload_n 1, 1) := by decide +kernel
theorem dX12_putTemplate_38 : decode cX12_putTemplate 38 = .ok (.iload_n 2, 1) := by decide +kernel
theorem dX12_putTemplate_39 : decode cX12_putTemplate 39 = .ok (.invokevirtual 177, 3) := by decide +kernel
theorem dX12_putTemplate_42 : decode cX12_putTemplate 42 = .ok (.istore_n 3, 1) := by decide +kernel
theorem dX12_putTemplate_43 : decode cX12_putTemplate 43 = .ok (.aload_n 0, 1) := by decide +kernel
theorem dX12_putTemplate_44 : decode cX12_putTemplate 44 = .ok (.iload_n 3, 1) := by decide +kernel
theorem dX12_putTemplate_45 : decode cX12_putTemplate 45 = .ok (.invokevirtual 206, 3) := by decide +kernel
theorem dX12_putTemplate_48 : decode cX12_putTemplate 48 = .ok (.ifCond .ne 6, 3) := by decide +kernel
theorem dX12_putTemplate_51 : decode cX12_putTemplate 51 = .ok (.goto 20, 3) := by decide +kernel
theorem dX12_putTemplate_54 : decode cX12_putTemplate 54 = .ok (.aload_n 0, 1) := by decide +kernel
theorem dX12_putTemplate_55 : decode cX12_putTemplate 55 = .ok (.iload_n 3, 1) := by decide +kernel
theorem dX12_putTemplate_56 : decode cX12_putTemplate 56 = .ok (.i2l, 1) := by decide +kernel
theorem dX12_putTemplate_57 : decode cX12_putTemplate 57 = .ok (.iconst 2, 1) := by decide +kernel
theorem dX12_putTemplate_58 : decode cX12_putTemplate 58 = .ok (.invokevirtual 283, 3) := by decide +kernel
theorem dX12_putTemplate_61 : decode cX12_putTemplate 61 = .ok (.aload_n 0, 1) := by decide +kernel
theorem dX12_putTemplate_62 : decode cX12_putTemplate 62 = .ok (.iload_n 3, 1) := by decide +kernel
theorem dX12_putTemplate_63 : decode cX12_putTemplate 63 = .ok (.invokestatic 195, 3) := by decide +kernel
theorem dX12_putTemplate_66 : decode cX12_putTemplate 66 = .ok (.i2l, 1) := by decide +kernel
theorem dX12_putTemplate_67 : decode cX12_putTemplate 67 = .ok (.iconst 2, 1) := by decide +kernel
theorem dX12_putTemplate_68 : decode cX12_putTemplate 68 = .ok (.invokevirtual 283, 3) := by decide +kernel
theorem dX12_putTemplate_71 : decode cX12_putTemplate 71 = .ok (.iinc 2 1, 3) := by decide +kernel
theorem dX12_putTemplate_74 : decode cX12_putTemplate 74 = .ok (.goto (-47), 3) := by decide +kernel
theorem dX12_putTemplate_77 : decode cX12_putTemplate 77 = .ok (.aload_n 0, 1) := by decide +kernel
theorem dX12_putTemplate_78 : decode cX12_putTemplate 78 = .ok (.getfield 20, 3) := by decide +kernel
theorem dX12_putTemplate_81 : decode cX12_putTemplate 81 = .ok (.iload_n 1, 1) := by decide +kernel
theorem dX12_putTemplate_82 : decode cX12_putTemplate 82 = .ok (.aload_n 0, 1) := by decide +kernel
theorem dX12_putTemplate_83 : decode cX12_putTemplate 83 = .ok (.getfield 142, 3) := by decide +kernel
theorem dX12_putTemplate_86 : decode cX12_putTemplate 86 = .ok (.iastore, 1) := by decide +kernel
theorem dX12_putTemplate_87 : decode cX12_putTemplate 87 = .ok (.aload_n 0, 1) := by decide +kernel
theorem dX12_putTemplate_88 : decode cX12_putTemplate 88 = .ok (.getfield 23, 3) := by decide +kernel
theorem dX12_putTemplate_91 : decode cX12_putTemplate 91 = .ok (.iload_n 1, 1) := by decide +kernel
theorem dX12_putTemplate_92 : decode cX12_putTemplate 92 = .ok (.aload_n 0, 1) := by decide +kernel
theorem dX12_putTemplate_93 : decode cX12_putTemplate 93 = .ok (.getfield 101, 3) := by decide +kernel
theorem dX12_putTemplate_96 : decode cX12_putTemplate 96 = .ok (.iastore, 1) := by decide +kernel
theorem dX12_putTemplate_97 : decode cX12_putTemplate 97 = .ok (.return_, 1) := by decide +kernel
theorem dX12_bitCount_0 : decode cX12_bitCount 0 = .ok (.iconst 0, 1) := by decide +kernel
theorem dX12_bitCount_1 : decode cX12_bitCount 1 = .ok (.istore_n 1, 1) := by decide +kernel
theorem dX12_bitCount_2 : decode cX12_bitCount 2 = .ok (.iload_n 0, 1) := by decide +kernel
theorem dX12_bitCount_3 : decode cX12_bitCount 3 = .ok (.istore_n 2, 1) := by decide +kernel
theorem dX12_bitCount_4 : decode cX12_bitCount 4 = .ok (.iload_n 2, 1) := by decide +kernel
theorem dX12_bitCount_5 : decode cX12_bitCount 5 = .ok (.ifCond .eq 15, 3) := by decide +kernel
theorem dX12_bitCount_8 : decode cX12_bitCount 8 = .ok (.iinc 1 1, 3) := by decide +kernel
theorem dX12_bitCount_11 : decode cX12_bitCount 11 = .ok (.iload_n 2, 1) := by decide +kernel
theorem dX12_bitCount_12 : decode cX12_bitCount 12 = .ok (.iload_n 2, 1) := by decide +kernel
theorem dX12_bitCount_13 : decode cX12_bitCount 13 = .ok (.iconst 1, 1) := by decide +kernel
theorem dX12_bitCount_14 : decode cX12_bitCount 14 = .ok (.isub, 1) := by decide +kernel
theorem dX12_bitCount_15 : decode cX12_bitCount 15 = .ok (.iand, 1) := by decide +kernel
theorem dX12_bitCount_16 : decode cX12_bitCount 16 = .ok (.istore_n 2, 1) := by decide +kernel
theorem dX12_bitCount_17 : decode cX12_bitCount 17 = .ok (.goto (-13), 3) := by decide +kernel
theorem dX12_bitCount_20 : decode cX12_bitCount 20 = .ok (.iload_n 1, 1) := by decide +kernel
theorem dX12_bitCount_21 : decode cX12_bitCount 21 = .ok (.ireturn, 1) := by decide +kernel
set_option maxRecDepth 20000 in
theorem ggX12_putTemplates_X12_due : GoodIn wsX12_putTemplates wsX12_due := goodIn_ca (goodIn_r _ [8, 9, 10, 2, 11, 12, 13, 14, 15, 7, 16, 17, 18, 19, 20, 21, 22, 23, 24, 25, 26, 27, 28, 53, 54, 55, 56, 57, 58, 59, 60, 61, 62, 63, 64, 65, 66, 67, 68, 69, 70, 71, 72, 73, 74, 75, 76, 77, 78, 79, 80, 81, 82, 83, 84, 85, 86, 87, 88, 89, 90, 91, 92, 93, 94, 95, 96, 97, 98, 99, 100, 101, 102, 103, 104, 105, 106] (by decide +kernel) (by decide +kernel)) (goodIn_sub (fun _ h => List.mem_cons_of_mem _ (List.mem_append_right _ h)) (by decide +kernel))
set_option maxRecDepth 20000 in
theorem gX12_putTemplates_X12_due : GoodIn wsX12_putTemplates (wsV RX12 209 RX12 yX12_due wsX12_due) := goodIn_app (goodIn_of _ (by decide +kernel)) ggX12_putTemplates_X12_due
set_option maxRecDepth 20000 in
theorem ggX12_putTemplates_X12_put : GoodIn wsX12_putTemplates wsX12_put := goodIn_ca (goodIn_r _ [32, 33, 1, 34, 53, 54, 55, 56, 57, 58, 59, 60, 61, 62, 63, 64, 65, 66, 67, 68, 69, 70, 71, 72, 73, 74, 75, 76, 77, 78, 79, 80, 81, 82, 83, 84, 85, 86, 87, 88, 89, 90, 91, 92, 93, 94, 95, 96, 97, 98, 99, 100, 101, 102, 103, 104, 105, 106] (by decide +kernel) (by decide +kernel)) (goodIn_sub (fun _ h => List.mem_cons_of_mem _ (List.mem_append_right _ h)) (by decide +kernel))
set_option maxRecDepth 20000 in
theorem gX12_putTemplates_X12_put : GoodIn wsX12_putTemplates (wsV RX12 283 RX12 yX12_put wsX12_put) := goodIn_app (goodIn_of _ (by decide +kernel)) ggX12_putTemplates_X12_put
set_option maxRecDepth 20000 in
theorem ggX12_putTemplates_X12_putTemplate : GoodIn wsX12_putTemplates wsX12_putTemplate := goodIn_ca (goodIn_r _ [38, 9, 10, 12, 11, 29, 30, 31, 7, 32, 33, 1, 34, 13, 14, 15, 16, 2, 17, 18, 19, 20, 21, 22, 23, 24, 25, 26, 27, 28, 39, 40, 41, 42, 43, 44, 45, 46, 47, 48, 53, 54, 55, 56, 57, 58, 59, 60, 61, 62, 63, 64, 65, 66, 67, 68, 69, 70, 71, 72, 73, 74, 75, 76, 77, 78, 79, 80, 81, 82, 83, 84, 85, 86, 87, 88, 89, 90, 91, 92, 93, 94, 95, 96, 97, 98, 99, 100, 101, 102, 103, 104, 105, 106] (by decide +kernel) (by decide +kernel)) (goodIn_sub (fun _ h => List.mem_cons_of_mem _ (List.mem_append_right _ h)) (by decide +kernel))
set_option maxRecDepth 20000 in
theorem gX12_putTemplates_X12_putTemplate : GoodIn wsX12_putTemplates (wsV RX12 292 RX12 yX12_putTemplate wsX12_putTemplate) := goodIn_app (goodIn_of _ (by decide +kernel)) ggX12_putTemplates_X12_putTemplate
set_option maxRecDepth 20000 in
theorem ggX12_putTemplates_X12_putAt : GoodIn wsX12_putTemplates wsX12_putAt := goodIn_ca (goodIn_r _ [52, 33, 53, 54, 55, 56, 57, 58, 59, 60, 61, 62, 63, 64, 65, 66, 67, 68, 69, 70, 71, 72, 73, 74, 75, 76, 77, 78, 79, 80, 81, 82, 83, 84, 85, 86, 87, 88, 89, 90, 91, 92, 93, 94, 95, 96, 97, 98, 99, 100, 101, 102, 103, 104, 105, 106] (by decide +kernel) (by decide +kernel)) (goodIn_sub (fun _ h => List.mem_cons_of_mem _ (List.mem_append_right _ h)) (by decide +kernel))
set_option maxRecDepth 20000 in
theorem gX12_putTemplates_X12_putAt : GoodIn wsX12_putTemplates (wsV RX12 295 RX12 yX12_putAt wsX12_putAt) := goodIn_app (goodIn_of _ (by decide +kernel)) ggX12_putTemplates_X12_putAt
theorem dX12_putTemplates_0 : decode cX12_putTemplates 0 = .ok (.aload_n 0, 1) := by decide +kernel
theorem dX12_putTemplates_1 : decode cX12_putTemplates 1 = .ok (.getfield 280, 3) := by decide +kernel
theorem dX12_putTemplates_4 : decode cX12_putTemplates 4 = .ok (.istore_n 1, 1) := by decide +kernel
theorem dX12_putTemplates_5 : decode cX12_putTemplates 5 = .ok (.iconst 0, 1) := by decide +kernel
theorem dX12_putTemplates_6 : decode cX12_putTemplates 6 = .ok (.istore_n 2, 1) := by decide +kernel
theorem dX12_putTemplates_7 : decode cX12_putTemplates 7 = .ok (.iload_n 2, 1) := by decide +kernel
theorem dX12_putTemplates_8 : decode cX12_putTemplates 8 = .ok (.aload_n 0, 1) := by decide +kernel
theorem dX12_putTemplates_9 : decode cX12_putTemplates 9 = .ok (.getfield 17, 3) := by decide +kernel
theorem dX12_putTemplates_12 : decode cX12_putTemplates 12 = .ok (.bipush 10, 2) := by decide +kernel
theorem dX12_putTemplates_14 : decode cX12_putTemplates 14 = .ok (.iaload, 1) := by decide +kernel
theorem dX12_putTemplates_15 : decode cX12_putTemplates 15 = .ok (.if_icmp .ge 41, 3) := by decide +kernel
theorem dX12_putTemplates_18 : decode cX12_putTemplates 18 = .ok (.aload_n 0, 1) := by decide +kernel
theorem dX12_putTemplates_19 : decode cX12_putTemplates 19 = .ok (.iload_n 2, 1) := by decide +kernel
theorem dX12_putTemplates_20 : decode cX12_putTemplates 20 = .ok (.invokevirtual 209, 3) := by decide +kernel
theorem dX12_putTemplates_23 : decode cX12_putTemplates 23 = .ok (.ifCond .ne 6, 3) := by decide +kernel
theorem dX12_putTemplates_26 : decode cX12_putTemplates 26 = .ok (.goto 24, 3) := by decide +kernel
theorem dX12_putTemplates_29 : decode cX12_putTemplates 29 = .ok (.aload_n 0, 1) := by decide +kernel
theorem dX12_putTemplates_30 : decode cX12_putTemplates 30 = .ok (.getfield 280, 3) := by decide +kernel
theorem dX12_putTemplates_33 : decode cX12_putTemplates 33 = .ok (.iload_n 1, 1) := by decide +kernel
theorem dX12_putTemplates_34 : decode cX12_putTemplates 34 = .ok (.if_icmp .ne 11, 3) := by decide +kernel
theorem dX12_putTemplates_37 : decode cX12_putTemplates 37 = .ok (.aload_n 0, 1) := by decide +kernel
theorem dX12_putTemplates_38 : decode cX12_putTemplates 38 = .ok (.ldc2_w 290, 3) := by decide +kernel
theorem dX12_putTemplates_41 : decode cX12_putTemplates 41 = .ok (.iconst 4, 1) := by decide +kernel
theorem dX12_putTemplates_42 : decode cX12_putTemplates 42 = .ok (.invokevirtual 283, 3) := by decide +kernel
theorem dX12_putTemplates_45 : decode cX12_putTemplates 45 = .ok (.aload_n 0, 1) := by decide +kernel
theorem dX12_putTemplates_46 : decode cX12_putTemplates 46 = .ok (.iload_n 2, 1) := by decide +kernel
theorem dX12_putTemplates_47 : decode cX12_putTemplates 47 = .ok (.invokevirtual 292, 3) := by decide +kernel
theorem dX12_putTemplates_50 : decode cX12_putTemplates 50 = .ok (.iinc 2 1, 3) := by decide +kernel
theorem dX12_putTemplates_53 : decode cX12_putTemplates 53 = .ok (.goto (-46), 3) := by decide +kernel
theorem dX12_putTemplates_56 : decode cX12_putTemplates 56 = .ok (.aload_n 0, 1) := by decide +kernel
theorem dX12_putTemplates_57 : decode cX12_putTemplates 57 = .ok (.getfield 280, 3) := by decide +kernel
theorem dX12_putTemplates_60 : decode cX12_putTemplates 60 = .ok (.iload_n 1, 1) := by decide +kernel
theorem dX12_putTemplates_61 : decode cX12_putTemplates 61 = .ok (.if_icmp .le 16, 3) := by decide +kernel
theorem dX12_putTemplates_64 : decode cX12_putTemplates 64 = .ok (.aload_n 0, 1) := by decide +kernel
theorem dX12_putTemplates_65 : decode cX12_putTemplates 65 = .ok (.iload_n 1, 1) := by decide +kernel
theorem dX12_putTemplates_66 : decode cX12_putTemplates 66 = .ok (.iconst 2, 1) := by decide +kernel
theorem dX12_putTemplates_67 : decode cX12_putTemplates 67 = .ok (.iadd, 1) := by decide +kernel
theorem dX12_putTemplates_68 : decode cX12_putTemplates 68 = .ok (.aload_n 0, 1) := by decide +kernel
theorem dX12_putTemplates_69 : decode cX12_putTemplates 69 = .ok (.getfield 280, 3) := by decide +kernel
theorem dX12_putTemplates_72 : decode cX12_putTemplates 72 = .ok (.iload_n 1, 1) := by decide +kernel
theorem dX12_putTemplates_73 : decode cX12_putTemplates 73 = .ok (.isub, 1) := by decide +kernel
theorem dX12_putTemplates_74 : decode cX12_putTemplates 74 = .ok (.invokevirtual 295, 3) := by decide +kernel
theorem dX12_putTemplates_77 : decode cX12_putTemplates 77 = .ok (.return_, 1) := by decide +kernel
set_option maxRecDepth 20000 in
theorem ggX12_putRecords_X12_recordLengthOf : GoodIn wsX12_putRecords wsX12_recordLengthOf := goodIn_ca (goodIn_r _ [10, 11, 12, 13, 9, 14, 4, 15, 16, 17, 18, 19, 20, 21, 22, 23, 24, 25, 26, 27, 28, 29, 40, 41, 42, 43, 44, 45, 46, 47, 48, 49, 50, 51, 52, 53, 54, 55, 56, 57, 58, 59, 60, 61, 62, 63, 64, 65, 66, 67, 68, 69, 70, 71, 72, 73, 74, 75, 76, 77, 78, 79, 80, 81, 82, 83, 84, 85, 86, 87, 88, 89, 90, 91, 92, 93] (by decide +kernel) (by decide +kernel)) (goodIn_sub (fun _ h => List.mem_cons_of_mem _ (List.mem_append_right _ h)) (by decide +kernel))
set_option maxRecDepth 20000 in
theorem gX12_putRecords_X12_recordLengthOf : GoodIn wsX12_putRecords (wsV RX12 198 RX12 yX12_recordLengthOf wsX12_recordLengthOf) := goodIn_app (goodIn_of _ (by decide +kernel)) ggX12_putRecords_X12_recordLengthOf
set_option maxRecDepth 20000 in
theorem ggX12_putRecords_X12_put : GoodIn wsX12_putRecords wsX12_put := goodIn_ca (goodIn_r _ [33, 34, 3, 35, 40, 41, 42, 43, 44, 45, 46, 47, 48, 49, 50, 51, 52, 53, 54, 55, 56, 57, 58, 59, 60, 61, 62, 63, 64, 65, 66, 67, 68, 69, 70, 71, 72, 73, 74, 75, 76, 77, 78, 79, 80, 81, 82, 83, 84, 85, 86, 87, 88, 89, 90, 91, 92, 93] (by decide +kernel) (by decide +kernel)) (goodIn_sub (fun _ h => List.mem_cons_of_mem _ (List.mem_append_right _ h)) (by decide +kernel))
set_option maxRecDepth 20000 in
theorem gX12_putRecords_X12_put : GoodIn wsX12_putRecords (wsV RX12 283 RX12 yX12_put wsX12_put) := goodIn_app (goodIn_of _ (by decide +kernel)) ggX12_putRecords_X12_put
set_option maxRecDepth 20000 in
theorem ggX12_putRecords_X12_putAt : GoodIn wsX12_putRecords wsX12_putAt := goodIn_ca (goodIn_r _ [39, 34, 40, 41, 42, 43, 44, 45, 46, 47, 48, 49, 50, 51, 52, 53, 54, 55, 56, 57, 58, 59, 60, 61, 62, 63, 64, 65, 66, 67, 68, 69, 70, 71, 72, 73, 74, 75, 76, 77, 78, 79, 80, 81, 82, 83, 84, 85, 86, 87, 88, 89, 90, 91, 92, 93] (by decide +kernel) (by decide +kernel)) (goodIn_sub (fun _ h => List.mem_cons_of_mem _ (List.mem_append_right _ h)) (by decide +kernel))
set_option maxRecDepth 20000 in
theorem gX12_putRecords_X12_putAt : GoodIn wsX12_putRecords (wsV RX12 295 RX12 yX12_putAt wsX12_putAt) := goodIn_app (goodIn_of _ (by decide +kernel)) ggX12_putRecords_X12_putAt
theorem dX12_putRecords_0 : decode cX12_putRecords 0 = .ok (.iconst (-1), 1) := by decide +kernel
theorem dX12_putRecords_1 : decode cX12_putRecords 1 = .ok (.istore_n 2, 1) := by decide +kernel
theorem dX12_putRecords_2 : decode cX12_putRecords 2 = .ok (.iload_n 1, 1) := by decide +kernel
theorem dX12_putRecords_3 : decode cX12_putRecords 3 = .ok (.istore_n 3, 1) := by decide +kernel
theorem dX12_putRecords_4 : decode cX12_putRecords 4 = .ok (.iconst 1, 1) := by decide +kernel
theorem dX12_putRecords_5 : decode cX12_putRecords 5 = .ok (.istore 4, 2) := by decide +kernel
theorem dX12_putRecords_7 : decode cX12_putRecords 7 = .ok (.iload 4, 2) := by decide +kernel
theorem dX12_putRecords_9 : decode cX12_putRecords 9 = .ok (.ifCond .eq 176, 3) := by decide +kernel
theorem dX12_putRecords_12 : decode cX12_putRecords 12 = .ok (.iload_n 3, 1) := by decide +kernel
theorem dX12_putRecords_13 : decode cX12_putRecords 13 = .ok (.aload_n 0, 1) := by decide +kernel
theorem dX12_putRecords_14 : decode cX12_putRecords 14 = .ok (.getfield 136, 3) := by decide +kernel
theorem dX12_putRecords_17 : decode cX12_putRecords 17 = .ok (.if_icmp .ge 168, 3) := by decide +kernel
theorem dX12_putRecords_20 : decode cX12_putRecords 20 = .ok (.aload_n 0, 1) := by decide +kernel
theorem dX12_putRecords_21 : decode cX12_putRecords 21 = .ok (.getfield 30, 3) := by decide +kernel
theorem dX12_putRecords_24 : decode cX12_putRecords 24 = .ok (.iload_n 3, 1) := by decide +kernel
theorem dX12_putRecords_25 : decode cX12_putRecords 25 = .ok (.iaload, 1) := by decide +kernel
theorem dX12_putRecords_26 : decode cX12_putRecords 26 = .ok (.istore 5, 2) := by decide +kernel
theorem dX12_putRecords_28 : decode cX12_putRecords 28 = .ok (.iload_n 2, 1) := by decide +kernel
theorem dX12_putRecords_29 : decode cX12_putRecords 29 = .ok (.iconst (-1), 1) := by decide +kernel
theorem dX12_putRecords_30 : decode cX12_putRecords 30 = .ok (.if_icmp .eq 16, 3) := by decide +kernel
theorem dX12_putRecords_33 : decode cX12_putRecords 33 = .ok (.iload 5, 2) := by decide +kernel
theorem dX12_putRecords_35 : decode cX12_putRecords 35 = .ok (.aload_n 0, 1) := by decide +kernel
theorem dX12_putRecords_36 : decode cX12_putRecords 36 = .ok (.getfield 30, 3) := by decide +kernel
theorem dX12_putRecords_39 : decode cX12_putRecords 39 = .ok (.iload_n 3, 1) := by decide +kernel
theorem dX12_putRecords_40 : decode cX12_putRecords 40 = .ok (.iconst 1, 1) := by decide +kernel
theorem dX12_putRecords_41 : decode cX12_putRecords 41 = .ok (.isub, 1) := by decide +kernel
theorem dX12_putRecords_42 : decode cX12_putRecords 42 = .ok (.iaload, 1) := by decide +kernel
theorem dX12_putRecords_43 : decode cX12_putRecords 43 = .ok (.if_icmp .eq 7, 3) := by decide +kernel
theorem dX12_putRecords_46 : decode cX12_putRecords 46 = .ok (.iconst 1, 1) := by decide +kernel
theorem dX12_putRecords_47 : decode cX12_putRecords 47 = .ok (.goto 4, 3) := by decide +kernel
theorem dX12_putRecords_50 : decode cX12_putRecords 50 = .ok (.iconst 0, 1) := by decide +kernel
theorem dX12_putRecords_51 : decode cX12_putRecords 51 = .ok (.istore 6, 2) := by decide +kernel
theorem dX12_putRecords_53 : decode cX12_putRecords 53 = .ok (.aload_n 0, 1) := by decide +kernel
theorem dX12_putRecords_54 : decode cX12_putRecords 54 = .ok (.iload 5, 2) := by decide +kernel
theorem dX12_putRecords_56 : decode cX12_putRecords 56 = .ok (.invokevirtual 198, 3) := by decide +kernel
theorem dX12_putRecords_59 : decode cX12_putRecords 59 = .ok (.istore 7, 2) := by decide +kernel
theorem dX12_putRecords_61 : decode cX12_putRecords 61 = .ok (.aload_n 0, 1) := by decide +kernel
theorem dX12_putRecords_62 : decode cX12_putRecords 62 = .ok (.getfield 280, 3) := by decide +kernel
theorem dX12_putRecords_65 : decode cX12_putRecords 65 = .ok (.iload 7, 2) := by decide +kernel
theorem dX12_putRecords_67 : decode cX12_putRecords 67 = .ok (.iadd, 1) := by decide +kernel
theorem dX12_putRecords_68 : decode cX12_putRecords 68 = .ok (.iload 6, 2) := by decide +kernel
theorem dX12_putRecords_70 : decode cX12_putRecords 70 = .ok (.ifCond .eq 7, 3) := by decide +kernel
theorem dX12_putRecords_73 : decode cX12_putRecords 73 = .ok (.iconst 4, 1) := by decide +kernel
theorem dX12_putRecords_74 : decode cX12_putRecords 74 = .ok (.goto 4, 3) := by decide +kernel
theorem dX12_putRecords_77 : decode cX12_putRecords 77 = .ok (.iconst 0, 1) := by decide +kernel
theorem dX12_putRecords_78 : decode cX12_putRecords 78 = .ok (.iadd, 1) := by decide +kernel
theorem dX12_putRecords_79 : decode cX12_putRecords 79 = .ok (.aload_n 0, 1) := by decide +kernel
theorem dX12_putRecords_80 : decode cX12_putRecords 80 = .ok (.getfield 17, 3) := by decide +kernel
theorem dX12_putRecords_83 : decode cX12_putRecords 83 = .ok (.bipush 7, 2) := by decide +kernel
theorem dX12_putRecords_85 : decode cX12_putRecords 85 = .ok (.iaload, 1) := by decide +kernel
theorem dX12_putRecords_86 : decode cX12_putRecords 86 = .ok (.if_icmp .gt 7, 3) := by decide +kernel
theorem dX12_putRecords_89 : decode cX12_putRecords 89 = .ok (.iconst 1, 1) := by decide +kernel
theorem dX12_putRecords_90 : decode cX12_putRecords 90 = .ok (.goto 4, 3) := by decide +kernel
theorem dX12_putRecords_93 : decode cX12_putRecords 93 = .ok (.iconst 0, 1) := by decide +kernel
theorem dX12_putRecords_94 : decode cX12_putRecords 94 = .ok (.istore 4, 2) := by decide +kernel
theorem dX12_putRecords_96 : decode cX12_putRecords 96 = .ok (.iload 4, 2) := by decide +kernel
theorem dX12_putRecords_98 : decode cX12_putRecords 98 = .ok (.ifCond .ne 6, 3) := by decide +kernel
theorem dX12_putRecords_101 : decode cX12_putRecords 101 = .ok (.goto (-94), 3) := by decide +kernel
theorem dX12_putRecords_104 : decode cX12_putRecords 104 = .ok (.iload 6, 2) := by decide +kernel
theorem dX12_putRecords_106 : decode cX12_putRecords 106 = .ok (.ifCond .eq 26, 3) := by decide +kernel
theorem dX12_putRecords_109 : decode cX12_putRecords 109 = .ok (.aload_n 0, 1) := by decide +kernel
theorem dX12_putRecords_110 : decode cX12_putRecords 110 = .ok (.getfield 280, 3) := by decide +kernel
theorem dX12_putRecords_113 : decode cX12_putRecords 113 = .ok (.istore_n 2, 1) := by decide +kernel
theorem dX12_putRecords_114 : decode cX12_putRecords 114 = .ok (.aload_n 0, 1) := by decide +kernel
theorem dX12_putRecords_115 : decode cX12_putRecords 115 = .ok (.sipush 256, 3) := by decide +kernel
theorem dX12_putRecords_118 : decode cX12_putRecords 118 = .ok (.iload 5, 2) := by decide +kernel
theorem dX12_putRecords_120 : decode cX12_putRecords 120 = .ok (.iadd, 1) := by decide +kernel
theorem dX12_putRecords_121 : decode cX12_putRecords 121 = .ok (.i2l, 1) := by decide +kernel
theorem dX12_putRecords_122 : decode cX12_putRecords 122 = .ok (.iconst 2, 1) := by decide +kernel
theorem dX12_putRecords_123 : decode cX12_putRecords 123 = .ok (.invokevirtual 283, 3) := by decide +kernel
theorem dX12_putRecords_126 : decode cX12_putRecords 126 = .ok (.aload_n 0, 1) := by decide +kernel
theorem dX12_putRecords_127 : decode cX12_putRecords 127 = .ok (.lconst 0, 1) := by decide +kernel
theorem dX12_putRecords_128 : decode cX12_putRecords 128 = .ok (.iconst 2, 1) := by decide +kernel
theorem dX12_putRecords_129 : decode cX12_putRecords 129 = .ok (.invokevirtual 283, 3) := by decide +kernel
theorem dX12_putRecords_132 : decode cX12_putRecords 132 = .ok (.iconst 0, 1) := by decide +kernel
theorem dX12_putRecords_133 : decode cX12_putRecords 133 = .ok (.istore 8, 2) := by decide +kernel
theorem dX12_putRecords_135 : decode cX12_putRecords 135 = .ok (.iload 8, 2) := by decide +kernel
theorem dX12_putRecords_137 : decode cX12_putRecords 137 = .ok (.iload 7, 2) := by decide +kernel
theorem dX12_putRecords_139 : decode cX12_putRecords 139 = .ok (.if_icmp .ge 27, 3) := by decide +kernel
theorem dX12_putRecords_142 : decode cX12_putRecords 142 = .ok (.aload_n 0, 1) := by decide +kernel
theorem dX12_putRecords_143 : decode cX12_putRecords 143 = .ok (.aload_n 0, 1) := by decide +kernel
theorem dX12_putRecords_144 : decode cX12_putRecords 144 = .ok (.getfield 33, 3) := by decide +kernel
theorem dX12_putRecords_147 : decode cX12_putRecords 147 = .ok (.bipush 30, 2) := by decide +kernel
theorem dX12_putRecords_149 : decode cX12_putRecords 149 = .ok (.iload_n 3, 1) := by decide +kernel
theorem dX12_putRecords_150 : decode cX12_putRecords 150 = .ok (.imul, 1) := by decide +kernel
theorem dX12_putRecords_151 : decode cX12_putRecords 151 = .ok (.iload 8, 2) := by decide +kernel
theorem dX12_putRecords_153 : decode cX12_putRecords 153 = .ok (.iadd, 1) := by decide +kernel
theorem dX12_putRecords_154 : decode cX12_putRecords 154 = .ok (.iaload, 1) := by decide +kernel
theorem dX12_putRecords_155 : decode cX12_putRecords 155 = .ok (.i2l, 1) := by decide +kernel
theorem dX12_putRecords_156 : decode cX12_putRecords 156 = .ok (.iconst 1, 1) := by decide +kernel
theorem dX12_putRecords_157 : decode cX12_putRecords 157 = .ok (.invokevirtual 283, 3) := by decide +kernel
theorem dX12_putRecords_160 : decode cX12_putRecords 160 = .ok (.iinc 8 1, 3) := by decide +kernel
theorem dX12_putRecords_163 : decode cX12_putRecords 163 = .ok (.goto (-28), 3) := by decide +kernel
theorem dX12_putRecords_166 : decode cX12_putRecords 166 = .ok (.aload_n 0, 1) := by decide +kernel
theorem dX12_putRecords_167 : decode cX12_putRecords 167 = .ok (.iload_n 2, 1) := by decide +kernel
theorem dX12_putRecords_168 : decode cX12_putRecords 168 = .ok (.iconst 2, 1) := by decide +kernel
theorem dX12_putRecords_169 : decode cX12_putRecords 169 = .ok (.iadd, 1) := by decide +kernel
theorem dX12_putRecords_170 : decode cX12_putRecords 170 = .ok (.aload_n 0, 1) := by decide +kernel
theorem dX12_putRecords_171 : decode cX12_putRecords 171 = .ok (.getfield 280, 3) := by decide +kernel
theorem dX12_putRecords_174 : decode cX12_putRecords 174 = .ok (.iload_n 2, 1) := by decide +kernel
theorem dX12_putRecords_175 : decode cX12_putRecords 175 = .ok (.isub, 1) := by decide +kernel
theorem dX12_putRecords_176 : decode cX12_putRecords 176 = .ok (.invokevirtual 295, 3) := by decide +kernel
theorem dX12_putRecords_179 : decode cX12_putRecords 179 = .ok (.iinc 3 1, 3) := by decide +kernel
theorem dX12_putRecords_182 : decode cX12_putRecords 182 = .ok (.goto (-175), 3) := by decide +kernel
theorem dX12_putRecords_185 : decode cX12_putRecords 185 = .ok (.iload_n 3, 1) := by decide +kernel
theorem dX12_putRecords_186 : decode cX12_putRecords 186 = .ok (.ireturn, 1) := by decide +kernel

set_option maxRecDepth 20000 in
theorem ggX12_appendRecord_X12_sizeOf : GoodIn wsX12_appendRecord wsX12_sizeOf := goodIn_ca (goodIn_r _ [9, 10, 40, 41, 42, 43, 44, 45, 46, 47, 48, 49, 50, 51, 52, 53, 54, 55, 56, 57, 58, 59, 60, 61, 62, 63, 64, 65, 66, 67, 68, 69, 70, 71, 72, 73, 74, 75, 76, 77, 78, 79, 80, 81, 82, 83, 84, 85, 86, 87, 88, 89, 90, 91, 92, 93] (by decide +kernel) (by decide +kernel)) (goodIn_sub (fun _ h => List.mem_cons_of_mem _ (List.mem_append_right _ h)) (by decide +kernel))
set_option maxRecDepth 20000 in
theorem gX12_appendRecord_X12_sizeOf : GoodIn wsX12_appendRecord (wsV RX12 173 RX12 yX12_sizeOf wsX12_sizeOf) := goodIn_app (goodIn_of _ (by decide +kernel)) ggX12_appendRecord_X12_sizeOf
set_option maxRecDepth 20000 in
theorem ggX12_appendRecord_X12_fieldOf : GoodIn wsX12_appendRecord wsX12_fieldOf := goodIn_ca (goodIn_r _ [14, 10, 40, 41, 42, 43, 44, 45, 46, 47, 48, 49, 50, 51, 52, 53, 54, 55, 56, 57, 58, 59, 60, 61, 62, 63, 64, 65, 66, 67, 68, 69, 70, 71, 72, 73, 74, 75, 76, 77, 78, 79, 80, 81, 82, 83, 84, 85, 86, 87, 88, 89, 90, 91, 92, 93] (by decide +kernel) (by decide +kernel)) (goodIn_sub (fun _ h => List.mem_cons_of_mem _ (List.mem_append_right _ h)) (by decide +kernel))
set_option maxRecDepth 20000 in
theorem gX12_appendRecord_X12_fieldOf : GoodIn wsX12_appendRecord (wsV RX12 177 RX12 yX12_fieldOf wsX12_fieldOf) := goodIn_app (goodIn_of _ (by decide +kernel)) ggX12_appendRecord_X12_fieldOf
set_option maxRecDepth 20000 in
theorem ggX12_appendRecord_X12_isSupported : GoodIn wsX12_appendRecord wsX12_isSupported := goodIn_ca (goodIn_r _ [18, 10, 40, 41, 42, 43, 44, 45, 46, 47, 48, 49, 50, 51, 52, 53, 54, 55, 56, 57, 58, 59, 60, 61, 62, 63, 64, 65, 66, 67, 68, 69, 70, 71, 72, 73, 74, 75, 76, 77, 78, 79, 80, 81, 82, 83, 84, 85, 86, 87, 88, 89, 90, 91, 92, 93] (by decide +kernel) (by decide +kernel)) (goodIn_sub (fun _ h => List.mem_cons_of_mem _ (List.mem_append_right _ h)) (by decide +kernel))
set_option maxRecDepth 20000 in
theorem gX12_appendRecord_X12_isSupported : GoodIn wsX12_appendRecord (wsV RX12 206 RX12 yX12_isSupported wsX12_isSupported) := goodIn_app (goodIn_of _ (by decide +kernel)) ggX12_appendRecord_X12_isSupported
set_option maxRecDepth 20000 in
theorem ggX12_appendRecord_X12_lengthOf : GoodIn wsX12_appendRecord wsX12_lengthOf := goodIn_r _ [21] (by decide +kernel) (by decide +kernel)
set_option maxRecDepth 20000 in
theorem gX12_appendRecord_X12_lengthOf : GoodIn wsX12_appendRecord (va_wsS RX12 195 yX12_lengthOf wsX12_lengthOf) := goodIn_app (goodIn_of _ (by decide +kernel)) ggX12_appendRecord_X12_lengthOf
set_option maxRecDepth 20000 in
theorem ggX12_appendRecord_X12_contentOf : GoodIn wsX12_appendRecord wsX12_contentOf := goodIn_ca (goodIn_r _ [25, 26, 27, 28, 29, 30, 31, 32, 33, 34, 35, 36, 37, 38, 39, 40, 41, 42, 43, 44, 45, 46, 47, 48, 49, 50, 51, 52, 53, 54, 55, 56, 57, 58, 59, 60, 61, 62, 63, 64, 65, 66, 67, 68, 69, 70, 71, 72, 73, 74, 75, 76, 77, 78, 79, 80, 81, 82, 83, 84, 85, 86, 87, 88, 89, 90, 91, 92, 93] (by decide +kernel) (by decide +kernel)) (goodIn_sub (fun _ h => List.mem_cons_of_mem _ (List.mem_append_right _ h)) (by decide +kernel))
set_option maxRecDepth 20000 in
theorem gX12_appendRecord_X12_contentOf : GoodIn wsX12_appendRecord (wsV RX12 214 RX12 yX12_contentOf wsX12_contentOf) := goodIn_app (goodIn_of _ (by decide +kernel)) ggX12_appendRecord_X12_contentOf
theorem dX12_appendRecord_0 : decode cX12_appendRecord 0 = .ok (.bipush 30, 2) := by decide +kernel
theorem dX12_appendRecord_2 : decode cX12_appendRecord 2 = .ok (.aload_n 0, 1) := by decide +kernel
theorem dX12_appendRecord_3 : decode cX12_appendRecord 3 = .ok (.getfield 136, 3) := by decide +kernel
theorem dX12_appendRecord_6 : decode cX12_appendRecord 6 = .ok (.imul, 1) := by decide +kernel
theorem dX12_appendRecord_7 : decode cX12_appendRecord 7 = .ok (.istore_n 3, 1) := by decide +kernel
theorem dX12_appendRecord_8 : decode cX12_appendRecord 8 = .ok (.iconst 0, 1) := by decide +kernel
theorem dX12_appendRecord_9 : decode cX12_appendRecord 9 = .ok (.istore 4, 2) := by decide +kernel
theorem dX12_appendRecord_11 : decode cX12_appendRecord 11 = .ok (.iload 4, 2) := by decide +kernel
theorem dX12_appendRecord_13 : decode cX12_appendRecord 13 = .ok (.aload_n 0, 1) := by decide +kernel
theorem dX12_appendRecord_14 : decode cX12_appendRecord 14 = .ok (.iload_n 2, 1) := by decide +kernel
theorem dX12_appendRecord_15 : decode cX12_appendRecord 15 = .ok (.invokevirtual 173, 3) := by decide +kernel
theorem dX12_appendRecord_18 : decode cX12_appendRecord 18 = .ok (.if_icmp .ge 78, 3) := by decide +kernel
theorem dX12_appendRecord_21 : decode cX12_appendRecord 21 = .ok (.aload_n 0, 1) := by decide +kernel
theorem dX12_appendRecord_22 : decode cX12_appendRecord 22 = .ok (.iload_n 2, 1) := by decide +kernel
theorem dX12_appendRecord_23 : decode cX12_appendRecord 23 = .ok (.iload 4, 2) := by decide +kernel
theorem dX12_appendRecord_25 : decode cX12_appendRecord 25 = .ok (.invokevirtual 177, 3) := by decide +kernel
theorem dX12_appendRecord_28 : decode cX12_appendRecord 28 = .ok (.istore 5, 2) := by decide +kernel
theorem dX12_appendRecord_30 : decode cX12_appendRecord 30 = .ok (.aload_n 0, 1) := by decide +kernel
theorem dX12_appendRecord_31 : decode cX12_appendRecord 31 = .ok (.iload 5, 2) := by decide +kernel
theorem dX12_appendRecord_33 : decode cX12_appendRecord 33 = .ok (.invokevirtual 206, 3) := by decide +kernel
theorem dX12_appendRecord_36 : decode cX12_appendRecord 36 = .ok (.ifCond .ne 6, 3) := by decide +kernel
theorem dX12_appendRecord_39 : decode cX12_appendRecord 39 = .ok (.goto 51, 3) := by decide +kernel
theorem dX12_appendRecord_42 : decode cX12_appendRecord 42 = .ok (.bipush 8, 2) := by decide +kernel
theorem dX12_appendRecord_44 : decode cX12_appendRecord 44 = .ok (.iload 5, 2) := by decide +kernel
theorem dX12_appendRecord_46 : decode cX12_appendRecord 46 = .ok (.invokestatic 195, 3) := by decide +kernel
theorem dX12_appendRecord_49 : decode cX12_appendRecord 49 = .ok (.imul, 1) := by decide +kernel
theorem dX12_appendRecord_50 : decode cX12_appendRecord 50 = .ok (.bipush 8, 2) := by decide +kernel
theorem dX12_appendRecord_52 : decode cX12_appendRecord 52 = .ok (.isub, 1) := by decide +kernel
theorem dX12_appendRecord_53 : decode cX12_appendRecord 53 = .ok (.istore 6, 2) := by decide +kernel
theorem dX12_appendRecord_55 : decode cX12_appendRecord 55 = .ok (.iload 6, 2) := by decide +kernel
theorem dX12_appendRecord_57 : decode cX12_appendRecord 57 = .ok (.ifCond .lt 33, 3) := by decide +kernel
theorem dX12_appendRecord_60 : decode cX12_appendRecord 60 = .ok (.aload_n 0, 1) := by decide +kernel
theorem dX12_appendRecord_61 : decode cX12_appendRecord 61 = .ok (.getfield 33, 3) := by decide +kernel
theorem dX12_appendRecord_64 : decode cX12_appendRecord 64 = .ok (.iload_n 3, 1) := by decide +kernel
theorem dX12_appendRecord_65 : decode cX12_appendRecord 65 = .ok (.aload_n 0, 1) := by decide +kernel
theorem dX12_appendRecord_66 : decode cX12_appendRecord 66 = .ok (.iload_n 1, 1) := by decide +kernel
theorem dX12_appendRecord_67 : decode cX12_appendRecord 67 = .ok (.iload 5, 2) := by decide +kernel
theorem dX12_appendRecord_69 : decode cX12_appendRecord 69 = .ok (.invokevirtual 214, 3) := by decide +kernel
theorem dX12_appendRecord_72 : decode cX12_appendRecord 72 = .ok (.iload 6, 2) := by decide +kernel
theorem dX12_appendRecord_74 : decode cX12_appendRecord 74 = .ok (.lshr, 1) := by decide +kernel
theorem dX12_appendRecord_75 : decode cX12_appendRecord 75 = .ok (.ldc2_w 218, 3) := by decide +kernel
theorem dX12_appendRecord_78 : decode cX12_appendRecord 78 = .ok (.land, 1) := by decide +kernel
theorem dX12_appendRecord_79 : decode cX12_appendRecord 79 = .ok (.l2i, 1) := by decide +kernel
theorem dX12_appendRecord_80 : decode cX12_appendRecord 80 = .ok (.iastore, 1) := by decide +kernel
theorem dX12_appendRecord_81 : decode cX12_appendRecord 81 = .ok (.iinc 3 1, 3) := by decide +kernel
theorem dX12_appendRecord_84 : decode cX12_appendRecord 84 = .ok (.iinc 6 (-8), 3) := by decide +kernel
theorem dX12_appendRecord_87 : decode cX12_appendRecord 87 = .ok (.goto (-32), 3) := by decide +kernel
theorem dX12_appendRecord_90 : decode cX12_appendRecord 90 = .ok (.iinc 4 1, 3) := by decide +kernel
theorem dX12_appendRecord_93 : decode cX12_appendRecord 93 = .ok (.goto (-82), 3) := by decide +kernel
theorem dX12_appendRecord_96 : decode cX12_appendRecord 96 = .ok (.aload_n 0, 1) := by decide +kernel
theorem dX12_appendRecord_97 : decode cX12_appendRecord 97 = .ok (.getfield 30, 3) := by decide +kernel
theorem dX12_appendRecord_100 : decode cX12_appendRecord 100 = .ok (.aload_n 0, 1) := by decide +kernel
theorem dX12_appendRecord_101 : decode cX12_appendRecord 101 = .ok (.getfield 136, 3) := by decide +kernel
theorem dX12_appendRecord_104 : decode cX12_appendRecord 104 = .ok (.iload_n 2, 1) := by decide +kernel
theorem dX12_appendRecord_105 : decode cX12_appendRecord 105 = .ok (.iastore, 1) := by decide +kernel
theorem dX12_appendRecord_106 : decode cX12_appendRecord 106 = .ok (.aload_n 0, 1) := by decide +kernel
theorem dX12_appendRecord_107 : decode cX12_appendRecord 107 = .ok (.dup, 1) := by decide +kernel
theorem dX12_appendRecord_108 : decode cX12_appendRecord 108 = .ok (.getfield 136, 3) := by decide +kernel
theorem dX12_appendRecord_111 : decode cX12_appendRecord 111 = .ok (.iconst 1, 1) := by decide +kernel
theorem dX12_appendRecord_112 : decode cX12_appendRecord 112 = .ok (.iadd, 1) := by decide +kernel
theorem dX12_appendRecord_113 : decode cX12_appendRecord 113 = .ok (.putfield 136, 3) := by decide +kernel
theorem dX12_appendRecord_116 : decode cX12_appendRecord 116 = .ok (.return_, 1) := by decide +kernel

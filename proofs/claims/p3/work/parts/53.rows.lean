set_option maxRecDepth 20000 in
theorem ggX12_putTemplates_X12_due : GoodIn wsX12_putTemplates wsX12_due := goodIn_ca (goodIn_r _ [8, 9, 10, 2, 11, 12, 13, 14, 15, 7, 16, 17, 18, 19, 20, 21, 22, 23, 24, 25, 26, 27, 28, 53, 54, 55, 56, 57, 58, 59, 60, 61, 62, 63, 64, 65, 66, 67, 68, 69, 70, 71, 72, 73, 74, 75, 76, 77, 78, 79, 80, 81, 82, 83, 84, 85, 86, 87, 88, 89, 90, 91, 92, 93, 94, 95, 96, 97, 98, 99, 100, 101, 102, 103, 104, 105, 106] rfl (by decide +kernel)) (goodIn_sub (fun _ h => List.mem_cons_of_mem _ (List.mem_append_right _ h)) (by decide +kernel))
set_option maxRecDepth 20000 in
theorem gX12_putTemplates_X12_due : GoodIn wsX12_putTemplates (wsV RX12 209 RX12 yX12_due wsX12_due) := goodIn_app (goodIn_of _ (by decide +kernel)) ggX12_putTemplates_X12_due
set_option maxRecDepth 20000 in
theorem ggX12_putTemplates_X12_put : GoodIn wsX12_putTemplates wsX12_put := goodIn_ca (goodIn_r _ [32, 33, 1, 34, 53, 54, 55, 56, 57, 58, 59, 60, 61, 62, 63, 64, 65, 66, 67, 68, 69, 70, 71, 72, 73, 74, 75, 76, 77, 78, 79, 80, 81, 82, 83, 84, 85, 86, 87, 88, 89, 90, 91, 92, 93, 94, 95, 96, 97, 98, 99, 100, 101, 102, 103, 104, 105, 106] rfl (by decide +kernel)) (goodIn_sub (fun _ h => List.mem_cons_of_mem _ (List.mem_append_right _ h)) (by decide +kernel))
set_option maxRecDepth 20000 in
theorem gX12_putTemplates_X12_put : GoodIn wsX12_putTemplates (wsV RX12 283 RX12 yX12_put wsX12_put) := goodIn_app (goodIn_of _ (by decide +kernel)) ggX12_putTemplates_X12_put
set_option maxRecDepth 20000 in
theorem ggX12_putTemplates_X12_putTemplate : GoodIn wsX12_putTemplates wsX12_putTemplate := goodIn_ca (goodIn_r _ [38, 9, 10, 12, 11, 29, 30, 31, 7, 32, 33, 1, 34, 13, 14, 15, 16, 2, 17, 18, 19, 20, 21, 22, 23, 24, 25, 26, 27, 28, 39, 40, 41, 42, 43, 44, 45, 46, 47, 48, 53, 54, 55, 56, 57, 58, 59, 60, 61, 62, 63, 64, 65, 66, 67, 68, 69, 70, 71, 72, 73, 74, 75, 76, 77, 78, 79, 80, 81, 82, 83, 84, 85, 86, 87, 88, 89, 90, 91, 92, 93, 94, 95, 96, 97, 98, 99, 100, 101, 102, 103, 104, 105, 106] rfl (by decide +kernel)) (goodIn_sub (fun _ h => List.mem_cons_of_mem _ (List.mem_append_right _ h)) (by decide +kernel))
set_option maxRecDepth 20000 in
theorem gX12_putTemplates_X12_putTemplate : GoodIn wsX12_putTemplates (wsV RX12 292 RX12 yX12_putTemplate wsX12_putTemplate) := goodIn_app (goodIn_of _ (by decide +kernel)) ggX12_putTemplates_X12_putTemplate
set_option maxRecDepth 20000 in
theorem ggX12_putTemplates_X12_putAt : GoodIn wsX12_putTemplates wsX12_putAt := goodIn_ca (goodIn_r _ [52, 33, 53, 54, 55, 56, 57, 58, 59, 60, 61, 62, 63, 64, 65, 66, 67, 68, 69, 70, 71, 72, 73, 74, 75, 76, 77, 78, 79, 80, 81, 82, 83, 84, 85, 86, 87, 88, 89, 90, 91, 92, 93, 94, 95, 96, 97, 98, 99, 100, 101, 102, 103, 104, 105, 106] rfl (by decide +kernel)) (goodIn_sub (fun _ h => List.mem_cons_of_mem _ (List.mem_append_right _ h)) (by decide +kernel))
set_option maxRecDepth 20000 in
theorem gX12_putTemplates_X12_putAt : GoodIn wsX12_putTemplates (wsV RX12 295 RX12 yX12_putAt wsX12_putAt) := goodIn_app (goodIn_of _ (by decide +kernel)) ggX12_putTemplates_X12_putAt
theorem dX12_putTemplates_0 : decode cX12_putTemplates 0 = .ok (.aload_n 0, 1) := by decide +kernel
theorem dX12_putTemplates_1 : decode cX12_putTemplates 1 = .ok (.getfield 280, 3) := by decide +kernel
theorem dX12_putTemplates_4 : decode cX12_putTemplates 4 = .ok (.istore_n 1, 1) := by decide +kernel
theorem dX12_putTemplates_5 : decode cX12_putTemplates 5 = .ok (.iconst 0, 1) := by decide +kernel
theorem dX12_putTemplates_6 : decode cX12_putTemplates 6 = .ok (.istore_n 2, 1) := by decide +kernel
theorem dX12_putTemplates_7 : decode cX12_putTemplates 7 = .ok (.iload_n 2, 1) := by decide +kernel
theorem dX12_putTemplates_8 : decode cX12_putTemplates 8 = .ok (.aload_n 0, 1) := by decide +kernel
theorem dX12_putTemplates_9 : decode cX12_putTemplates 9 = .ok (.getfield 17, 3) := by decide +kernel
theorem dX12_putTemplates_12 : decode cX12_putTemplates 12 = .ok (.bipush 10, 2) := by decide +kernel
theorem dX12_putTemplates_14 : decode cX12_putTemplates 14 = .ok (.iaload, 1) := by decide +kernel
theorem dX12_putTemplates_15 : decode cX12_putTemplates 15 = .ok (.if_icmp .ge 41, 3) := by decide +kernel
theorem dX12_putTemplates_18 : decode cX12_putTemplates 18 = .ok (.aload_n 0, 1) := by decide +kernel
theorem dX12_putTemplates_19 : decode cX12_putTemplates 19 = .ok (.iload_n 2, 1) := by decide +kernel
theorem dX12_putTemplates_20 : decode cX12_putTemplates 20 = .ok (.invokevirtual 209, 3) := by decide +kernel
theorem dX12_putTemplates_23 : decode cX12_putTemplates 23 = .ok (.ifCond .ne 6, 3) := by decide +kernel
theorem dX12_putTemplates_26 : decode cX12_putTemplates 26 = .ok (.goto 24, 3) := by decide +kernel
theorem dX12_putTemplates_29 : decode cX12_putTemplates 29 = .ok (.aload_n 0, 1) := by decide +kernel
theorem dX12_putTemplates_30 : decode cX12_putTemplates 30 = .ok (.getfield 280, 3) := by decide +kernel
theorem dX12_putTemplates_33 : decode cX12_putTemplates 33 = .ok (.iload_n 1, 1) := by decide +kernel
theorem dX12_putTemplates_34 : decode cX12_putTemplates 34 = .ok (.if_icmp .ne 11, 3) := by decide +kernel
theorem dX12_putTemplates_37 : decode cX12_putTemplates 37 = .ok (.aload_n 0, 1) := by decide +kernel
theorem dX12_putTemplates_38 : decode cX12_putTemplates 38 = .ok (.ldc2_w 290, 3) := by decide +kernel
theorem dX12_putTemplates_41 : decode cX12_putTemplates 41 = .ok (.iconst 4, 1) := by decide +kernel
theorem dX12_putTemplates_42 : decode cX12_putTemplates 42 = .ok (.invokevirtual 283, 3) := by decide +kernel
theorem dX12_putTemplates_45 : decode cX12_putTemplates 45 = .ok (.aload_n 0, 1) := by decide +kernel
theorem dX12_putTemplates_46 : decode cX12_putTemplates 46 = .ok (.iload_n 2, 1) := by decide +kernel
theorem dX12_putTemplates_47 : decode cX12_putTemplates 47 = .ok (.invokevirtual 292, 3) := by decide +kernel
theorem dX12_putTemplates_50 : decode cX12_putTemplates 50 = .ok (.iinc 2 1, 3) := by decide +kernel
theorem dX12_putTemplates_53 : decode cX12_putTemplates 53 = .ok (.goto (-46), 3) := by decide +kernel
theorem dX12_putTemplates_56 : decode cX12_putTemplates 56 = .ok (.aload_n 0, 1) := by decide +kernel
theorem dX12_putTemplates_57 : decode cX12_putTemplates 57 = .ok (.getfield 280, 3) := by decide +kernel
theorem dX12_putTemplates_60 : decode cX12_putTemplates 60 = .ok (.iload_n 1, 1) := by decide +kernel
theorem dX12_putTemplates_61 : decode cX12_putTemplates 61 = .ok (.if_icmp .le 16, 3) := by decide +kernel
theorem dX12_putTemplates_64 : decode cX12_putTemplates 64 = .ok (.aload_n 0, 1) := by decide +kernel
theorem dX12_putTemplates_65 : decode cX12_putTemplates 65 = .ok (.iload_n 1, 1) := by decide +kernel
theorem dX12_putTemplates_66 : decode cX12_putTemplates 66 = .ok (.iconst 2, 1) := by decide +kernel
theorem dX12_putTemplates_67 : decode cX12_putTemplates 67 = .ok (.iadd, 1) := by decide +kernel
theorem dX12_putTemplates_68 : decode cX12_putTemplates 68 = .ok (.aload_n 0, 1) := by decide +kernel
theorem dX12_putTemplates_69 : decode cX12_putTemplates 69 = .ok (.getfield 280, 3) := by decide +kernel
theorem dX12_putTemplates_72 : decode cX12_putTemplates 72 = .ok (.iload_n 1, 1) := by decide +kernel
theorem dX12_putTemplates_73 : decode cX12_putTemplates 73 = .ok (.isub, 1) := by decide +kernel
theorem dX12_putTemplates_74 : decode cX12_putTemplates 74 = .ok (.invokevirtual 295, 3) := by decide +kernel
theorem dX12_putTemplates_77 : decode cX12_putTemplates 77 = .ok (.return_, 1) := by decide +kernel
set_option maxRecDepth 20000 in
theorem ggX12_putRecords_X12_recordLengthOf : GoodIn wsX12_putRecords wsX12_recordLengthOf := goodIn_ca (goodIn_r _ [10, 11, 12, 13, 9, 14, 4, 15, 16, 17, 18, 19, 20, 21, 22, 23, 24, 25, 26, 27, 28, 29, 40, 41, 42, 43, 44, 45, 46, 47, 48, 49, 50, 51, 52, 53, 54, 55, 56, 57, 58, 59, 60, 61, 62, 63, 64, 65, 66, 67, 68, 69, 70, 71, 72, 73, 74, 75, 76, 77, 78, 79, 80, 81, 82, 83, 84, 85, 86, 87, 88, 89, 90, 91, 92, 93] rfl (by decide +kernel)) (goodIn_sub (fun _ h => List.mem_cons_of_mem _ (List.mem_append_right _ h)) (by decide +kernel))
set_option maxRecDepth 20000 in
theorem gX12_putRecords_X12_recordLengthOf : GoodIn wsX12_putRecords (wsV RX12 198 RX12 yX12_recordLengthOf wsX12_recordLengthOf) := goodIn_app (goodIn_of _ (by decide +kernel)) ggX12_putRecords_X12_recordLengthOf
set_option maxRecDepth 20000 in
theorem ggX12_putRecords_X12_put : GoodIn wsX12_putRecords wsX12_put := goodIn_ca (goodIn_r _ [33, 34, 3, 35, 40, 41, 42, 43, 44, 45, 46, 47, 48, 49, 50, 51, 52, 53, 54, 55, 56, 57, 58, 59, 60, 61, 62, 63, 64, 65, 66, 67, 68, 69, 70, 71, 72, 73, 74, 75, 76, 77, 78, 79, 80, 81, 82, 83, 84, 85, 86, 87, 88, 89, 90, 91, 92, 93] rfl (by decide +kernel)) (goodIn_sub (fun _ h => List.mem_cons_of_mem _ (List.mem_append_right _ h)) (by decide +kernel))
set_option maxRecDepth 20000 in
theorem gX12_putRecords_X12_put : GoodIn wsX12_putRecords (wsV RX12 283 RX12 yX12_put wsX12_put) := goodIn_app (goodIn_of _ (by decide +kernel)) ggX12_putRecords_X12_put
set_option maxRecDepth 20000 in
theorem ggX12_putRecords_X12_putAt : GoodIn wsX12_putRecords wsX12_putAt := goodIn_ca (goodIn_r _ [39, 34, 40, 41, 42, 43, 44, 45, 46, 47, 48, 49, 50, 51, 52, 53, 54, 55, 56, 57, 58, 59, 60, 61, 62, 63, 64, 65, 66, 67, 68, 69, 70, 71, 72, 73, 74, 75, 76, 77, 78, 79, 80, 81, 82, 83, 84, 85, 86, 87, 88, 89, 90, 91, 92, 93] rfl (by decide +kernel)) (goodIn_sub (fun _ h => List.mem_cons_of_mem _ (List.mem_append_right _ h)) (by decide +kernel))
set_option maxRecDepth 20000 in
theorem gX12_putRecords_X12_putAt : GoodIn wsX12_putRecords (wsV RX12 295 RX12 yX12_putAt wsX12_putAt) := goodIn_app (goodIn_of _ (by decide +kernel)) ggX12_putRecords_X12_putAt
theorem dX12_putRecords_0 : decode cX12_putRecords 0 = .ok (.iconst (-1), 1) := by decide +kernel
theorem dX12_putRecords_1 : decode cX12_putRecords 1 = .ok (.istore_n 2, 1) := by decide +kernel
theorem dX12_putRecords_2 : decode cX12_putRecords 2 = .ok (.iload_n 1, 1) := by decide +kernel
theorem dX12_putRecords_3 : decode cX12_putRecords 3 = .ok (.istore_n 3, 1) := by decide +kernel
theorem dX12_putRecords_4 : decode cX12_putRecords 4 = .ok (.iconst 1, 1) := by decide +kernel
theorem dX12_putRecords_5 : decode cX12_putRecords 5 = .ok (.istore 4, 2) := by decide +kernel
theorem dX12_putRecords_7 : decode cX12_putRecords 7 = .ok (.iload 4, 2) := by decide +kernel
theorem dX12_putRecords_9 : decode cX12_putRecords 9 = .ok (.ifCond .eq 176, 3) := by decide +kernel
theorem dX12_putRecords_12 : decode cX12_putRecords 12 = .ok (.iload_n 3, 1) := by decide +kernel
theorem dX12_putRecords_13 : decode cX12_putRecords 13 = .ok (.aload_n 0, 1) := by decide +kernel
theorem dX12_putRecords_14 : decode cX12_putRecords 14 = .ok (.getfield 136, 3) := by decide +kernel
theorem dX12_putRecords_17 : decode cX12_putRecords 17 = .ok (.if_icmp .ge 168, 3) := by decide +kernel
theorem dX12_putRecords_20 : decode cX12_putRecords 20 = .ok (.aload_n 0, 1) := by decide +kernel
theorem dX12_putRecords_21 : decode cX12_putRecords 21 = .ok (.getfield 30, 3) := by decide +kernel
theorem dX12_putRecords_24 : decode cX12_putRecords 24 = .ok (.iload_n 3, 1) := by decide +kernel
theorem dX12_putRecords_25 : decode cX12_putRecords 25 = .ok (.iaload, 1) := by decide +kernel
theorem dX12_putRecords_26 : decode cX12_putRecords 26 = .ok (.istore 5, 2) := by decide +kernel
theorem dX12_putRecords_28 : decode cX12_putRecords 28 = .ok (.iload_n 2, 1) := by decide +kernel
theorem dX12_putRecords_29 : decode cX12_putRecords 29 = .ok (.iconst (-1), 1) := by decide +kernel
theorem dX12_putRecords_30 : decode cX12_putRecords 30 = .ok (.if_icmp .eq 16, 3) := by decide +kernel
theorem dX12_putRecords_33 : decode cX12_putRecords 33 = .ok (.iload 5, 2) := by decide +kernel
theorem dX12_putRecords_35 : decode cX12_putRecords 35 = .ok (.aload_n 0, 1) := by decide +kernel
theorem dX12_putRecords_36 : decode cX12_putRecords 36 = .ok (.getfield 30, 3) := by decide +kernel
theorem dX12_putRecords_39 : decode cX12_putRecords 39 = .ok (.iload_n 3, 1) := by decide +kernel
theorem dX12_putRecords_40 : decode cX12_putRecords 40 = .ok (.iconst 1, 1) := by decide +kernel
theorem dX12_putRecords_41 : decode cX12_putRecords 41 = .ok (.isub, 1) := by decide +kernel
theorem dX12_putRecords_42 : decode cX12_putRecords 42 = .ok (.iaload, 1) := by decide +kernel
theorem dX12_putRecords_43 : decode cX12_putRecords 43 = .ok (.if_icmp .eq 7, 3) := by decide +kernel
theorem dX12_putRecords_46 : decode cX12_putRecords 46 = .ok (.iconst 1, 1) := by decide +kernel
theorem dX12_putRecords_47 : decode cX12_putRecords 47 = .ok (.goto 4, 3) := by decide +kernel
theorem dX12_putRecords_50 : decode cX12_putRecords 50 = .ok (.iconst 0, 1) := by decide +kernel
theorem dX12_putRecords_51 : decode cX12_putRecords 51 = .ok (.istore 6, 2) := by decide +kernel
theorem dX12_putRecords_53 : decode cX12_putRecords 53 = .ok (.aload_n 0, 1) := by decide +kernel
theorem dX12_putRecords_54 : decode cX12_putRecords 54 = .ok (.iload 5, 2) := by decide +kernel
theorem dX12_putRecords_56 : decode cX12_putRecords 56 = .ok (.invokevirtual 198, 3) := by decide +kernel
theorem dX12_putRecords_59 : decode cX12_putRecords 59 = .ok (.istore 7, 2) := by decide +kernel
theorem dX12_putRecords_61 : decode cX12_putRecords 61 = .ok (.aload_n 0, 1) := by decide +kernel
theorem dX12_putRecords_62 : decode cX12_putRecords 62 = .ok (.getfield 280, 3) := by decide +kernel
theorem dX12_putRecords_65 : decode cX12_putRecords 65 = .ok (.iload 7, 2) := by decide +kernel
theorem dX12_putRecords_67 : decode cX12_putRecords 67 = .ok (.iadd, 1) := by decide +kernel
theorem dX12_putRecords_68 : decode cX12_putRecords 68 = .ok (.iload 6, 2) := by decide +kernel
theorem dX12_putRecords_70 : decode cX12_putRecords 70 = .ok (.ifCond .eq 7, 3) := by decide +kernel
theorem dX12_putRecords_73 : decode cX12_putRecords 73 = .ok (.iconst 4, 1) := by decide +kernel
theorem dX12_putRecords_74 : decode cX12_putRecords 74 = .ok (.goto 4, 3) := by decide +kernel
theorem dX12_putRecords_77 : decode cX12_putRecords 77 = .ok (.iconst 0, 1) := by decide +kernel
theorem dX12_putRecords_78 : decode cX12_putRecords 78 = .ok (.iadd, 1) := by decide +kernel
theorem dX12_putRecords_79 : decode cX12_putRecords 79 = .ok (.aload_n 0, 1) := by decide +kernel
theorem dX12_putRecords_80 : decode cX12_putRecords 80 = .ok (.getfield 17, 3) := by decide +kernel
theorem dX12_putRecords_83 : decode cX12_putRecords 83 = .ok (.bipush 7, 2) := by decide +kernel
theorem dX12_putRecords_85 : decode cX12_putRecords 85 = .ok (.iaload, 1) := by decide +kernel
theorem dX12_putRecords_86 : decode cX12_putRecords 86 = .ok (.if_icmp .gt 7, 3) := by decide +kernel
theorem dX12_putRecords_89 : decode cX12_putRecords 89 = .ok (.iconst 1, 1) := by decide +kernel
theorem dX12_putRecords_90 : decode cX12_putRecords 90 = .ok (.goto 4, 3) := by decide +kernel
theorem dX12_putRecords_93 : decode cX12_putRecords 93 = .ok (.iconst 0, 1) := by decide +kernel
theorem dX12_putRecords_94 : decode cX12_putRecords 94 = .ok (.istore 4, 2) := by decide +kernel
theorem dX12_putRecords_96 : decode cX12_putRecords 96 = .ok (.iload 4, 2) := by decide +kernel
theorem dX12_putRecords_98 : decode cX12_putRecords 98 = .ok (.ifCond .ne 6, 3) := by decide +kernel
theorem dX12_putRecords_101 : decode cX12_putRecords 101 = .ok (.goto (-94), 3) := by decide +kernel
theorem dX12_putRecords_104 : decode cX12_putRecords 104 = .ok (.iload 6, 2) := by decide +kernel
theorem dX12_putRecords_106 : decode cX12_putRecords 106 = .ok (.ifCond .eq 26, 3) := by decide +kernel
theorem dX12_putRecords_109 : decode cX12_putRecords 109 = .ok (.aload_n 0, 1) := by decide +kernel
theorem dX12_putRecords_110 : decode cX12_putRecords 110 = .ok (.getfield 280, 3) := by decide +kernel
theorem dX12_putRecords_113 : decode cX12_putRecords 113 = .ok (.istore_n 2, 1) := by decide +kernel
theorem dX12_putRecords_114 : decode cX12_putRecords 114 = .ok (.aload_n 0, 1) := by decide +kernel
theorem dX12_putRecords_115 : decode cX12_putRecords 115 = .ok (.sipush 256, 3) := by decide +kernel
theorem dX12_putRecords_118 : decode cX12_putRecords 118 = .ok (.iload 5, 2) := by decide +kernel
theorem dX12_putRecords_120 : decode cX12_putRecords 120 = .ok (.iadd, 1) := by decide +kernel
theorem dX12_putRecords_121 : decode cX12_putRecords 121 = .ok (.i2l, 1) := by decide +kernel
theorem dX12_putRecords_122 : decode cX12_putRecords 122 = .ok (.iconst 2, 1) := by decide +kernel
theorem dX12_putRecords_123 : decode cX12_putRecords 123 = .ok (.invokevirtual 283, 3) := by decide +kernel
theorem dX12_putRecords_126 : decode cX12_putRecords 126 = .ok (.aload_n 0, 1) := by decide +kernel
theorem dX12_putRecords_127 : decode cX12_putRecords 127 = .ok (.lconst 0, 1) := by decide +kernel
theorem dX12_putRecords_128 : decode cX12_putRecords 128 = .ok (.iconst 2, 1) := by decide +kernel
theorem dX12_putRecords_129 : decode cX12_putRecords 129 = .ok (.invokevirtual 283, 3) := by decide +kernel
theorem dX12_putRecords_132 : decode cX12_putRecords 132 = .ok (.iconst 0, 1) := by decide +kernel
theorem dX12_putRecords_133 : decode cX12_putRecords 133 = .ok (.istore 8, 2) := by decide +kernel
theorem dX12_putRecords_135 : decode cX12_putRecords 135 = .ok (.iload 8, 2) := by decide +kernel
theorem dX12_putRecords_137 : decode cX12_putRecords 137 = .ok (.iload 7, 2) := by decide +kernel
theorem dX12_putRecords_139 : decode cX12_putRecords 139 = .ok (.if_icmp .ge 27, 3) := by decide +kernel
theorem dX12_putRecords_142 : decode cX12_putRecords 142 = .ok (.aload_n 0, 1) := by decide +kernel
theorem dX12_putRecords_143 : decode cX12_putRecords 143 = .ok (.aload_n 0, 1) := by decide +kernel
theorem dX12_putRecords_144 : decode cX12_putRecords 144 = .ok (.getfield 33, 3) := by decide +kernel
theorem dX12_putRecords_147 : decode cX12_putRecords 147 = .ok (.bipush 30, 2) := by decide +kernel
theorem dX12_putRecords_149 : decode cX12_putRecords 149 = .ok (.iload_n 3, 1) := by decide +kernel
theorem dX12_putRecords_150 : decode cX12_putRecords 150 = .ok (.imul, 1) := by decide +kernel
theorem dX12_putRecords_151 : decode cX12_putRecords 151 = .ok (.iload 8, 2) := by decide +kernel
theorem dX12_putRecords_153 : decode cX12_putRecords 153 = .ok (.iadd, 1) := by decide +kernel
theorem dX12_putRecords_154 : decode cX12_putRecords 154 = .ok (.iaload, 1) := by decide +kernel
theorem dX12_putRecords_155 : decode cX12_putRecords 155 = .ok (.i2l, 1) := by decide +kernel
theorem dX12_putRecords_156 : decode cX12_putRecords 156 = .ok (.iconst 1, 1) := by decide +kernel
theorem dX12_putRecords_157 : decode cX12_putRecords 157 = .ok (.invokevirtual 283, 3) := by decide +kernel
theorem dX12_putRecords_160 : decode cX12_putRecords 160 = .ok (.iinc 8 1, 3) := by decide +kernel
theorem dX12_putRecords_163 : decode cX12_putRecords 163 = .ok (.goto (-28), 3) := by decide +kernel
theorem dX12_putRecords_166 : decode cX12_putRecords 166 = .ok (.aload_n 0, 1) := by decide +kernel
theorem dX12_putRecords_167 : decode cX12_putRecords 167 = .ok (.iload_n 2, 1) := by decide +kernel
theorem dX12_putRecords_168 : decode cX12_putRecords 168 = .ok (.iconst 2, 1) := by decide +kernel
theorem dX12_putRecords_169 : decode cX12_putRecords 169 = .ok (.iadd, 1) := by decide +kernel
theorem dX12_putRecords_170 : decode cX12_putRecords 170 = .ok (.aload_n 0, 1) := by decide +kernel
theorem dX12_putRecords_171 : decode cX12_putRecords 171 = .ok (.getfield 280, 3) := by decide +kernel
theorem dX12_putRecords_174 : decode cX12_putRecords 174 = .ok (.iload_n 2, 1) := by decide +kernel
theorem dX12_putRecords_175 : decode cX12_putRecords 175 = .ok (.isub, 1) := by decide +kernel
theorem dX12_putRecords_176 : decode cX12_putRecords 176 = .ok (.invokevirtual 295, 3) := by decide +kernel
theorem dX12_putRecords_179 : decode cX12_putRecords 179 = .ok (.iinc 3 1, 3) := by decide +kernel
theorem dX12_putRecords_182 : decode cX12_putRecords 182 = .ok (.goto (-175), 3) := by decide +kernel
theorem dX12_putRecords_185 : decode cX12_putRecords 185 = .ok (.iload_n 3, 1) := by decide +kernel
theorem dX12_putRecords_186 : decode cX12_putRecords 186 = .ok (.ireturn, 1) := by decide +kernel
theorem dX12_enqueue_0 : decode cX12_enqueue 0 = .ok (.aload_n 0, 1) := by decide +kernel
theorem dX12_enqueue_1 : decode cX12_enqueue 1 = .ok (.getfield 139, 3) := by decide +kernel
theorem dX12_enqueue_4 : decode cX12_enqueue 4 = .ok (.bipush 12, 2) := by decide +kernel
theorem dX12_enqueue_6 : decode cX12_enqueue 6 = .ok (.if_icmp .ne 14, 3) := by decide +kernel
theorem dX12_enqueue_9 : decode cX12_enqueue 9 = .ok (.aload_n 0, 1) := by decide +kernel
theorem dX12_enqueue_10 : decode cX12_enqueue 10 = .ok (.dup, 1) := by decide +kernel
theorem dX12_enqueue_11 : decode cX12_enqueue 11 = .ok (.getfield 130, 3) := by decide +kernel
theorem dX12_enqueue_14 : decode cX12_enqueue 14 = .ok (.iconst 1, 1) := by decide +kernel
theorem dX12_enqueue_15 : decode cX12_enqueue 15 = .ok (.iadd, 1) := by decide +kernel
theorem dX12_enqueue_16 : decode cX12_enqueue 16 = .ok (.putfield 130, 3) := by decide +kernel
theorem dX12_enqueue_19 : decode cX12_enqueue 19 = .ok (.return_, 1) := by decide +kernel
theorem dX12_enqueue_20 : decode cX12_enqueue 20 = .ok (.iconst 0, 1) := by decide +kernel
theorem dX12_enqueue_21 : decode cX12_enqueue 21 = .ok (.istore_n 1, 1) := by decide +kernel
theorem dX12_enqueue_22 : decode cX12_enqueue 22 = .ok (.iload_n 1, 1) := by decide +kernel
theorem dX12_enqueue_23 : decode cX12_enqueue 23 = .ok (.aload_n 0, 1) := by decide +kernel
theorem dX12_enqueue_24 : decode cX12_enqueue 24 = .ok (.getfield 280, 3) := by decide +kernel
theorem dX12_enqueue_27 : decode cX12_enqueue 27 = .ok (.if_icmp .ge 30, 3) := by decide +kernel
theorem dX12_enqueue_30 : decode cX12_enqueue 30 = .ok (.aload_n 0, 1) := by decide +kernel
theorem dX12_enqueue_31 : decode cX12_enqueue 31 = .ok (.getfield 39, 3) := by decide +kernel
theorem dX12_enqueue_34 : decode cX12_enqueue 34 = .ok (.sipush 600, 3) := by decide +kernel
theorem dX12_enqueue_37 : decode cX12_enqueue 37 = .ok (.aload_n 0, 1) := by decide +kernel
theorem dX12_enqueue_38 : decode cX12_enqueue 38 = .ok (.getfield 139, 3) := by decide +kernel
theorem dX12_enqueue_41 : decode cX12_enqueue 41 = .ok (.imul, 1) := by decide +kernel
theorem dX12_enqueue_42 : decode cX12_enqueue 42 = .ok (.iload_n 1, 1) := by decide +kernel
theorem dX12_enqueue_43 : decode cX12_enqueue 43 = .ok (.iadd, 1) := by decide +kernel
theorem dX12_enqueue_44 : decode cX12_enqueue 44 = .ok (.aload_n 0, 1) := by decide +kernel
theorem dX12_enqueue_45 : decode cX12_enqueue 45 = .ok (.getfield 36, 3) := by decide +kernel
theorem dX12_enqueue_48 : decode cX12_enqueue 48 = .ok (.iload_n 1, 1) := by decide +kernel
theorem dX12_enqueue_49 : decode cX12_enqueue 49 = .ok (.iaload, 1) := by decide +kernel
theorem dX12_enqueue_50 : decode cX12_enqueue 50 = .ok (.iastore, 1) := by decide +kernel
theorem dX12_enqueue_51 : decode cX12_enqueue 51 = .ok (.iinc 1 1, 3) := by decide +kernel
theorem dX12_enqueue_54 : decode cX12_enqueue 54 = .ok (.goto (-32), 3) := by decide +kernel
theorem dX12_enqueue_57 : decode cX12_enqueue 57 = .ok (.aload_n 0, 1) := by decide +kernel
theorem dX12_enqueue_58 : decode cX12_enqueue 58 = .ok (.getfield 42, 3) := by decide +kernel
theorem dX12_enqueue_61 : decode cX12_enqueue 61 = .ok (.aload_n 0, 1) := by decide +kernel
theorem dX12_enqueue_62 : decode cX12_enqueue 62 = .ok (.getfield 139, 3) := by decide +kernel
theorem dX12_enqueue_65 : decode cX12_enqueue 65 = .ok (.aload_n 0, 1) := by decide +kernel
theorem dX12_enqueue_66 : decode cX12_enqueue 66 = .ok (.getfield 280, 3) := by decide +kernel
theorem dX12_enqueue_69 : decode cX12_enqueue 69 = .ok (.iastore, 1) := by decide +kernel
theorem dX12_enqueue_70 : decode cX12_enqueue 70 = .ok (.aload_n 0, 1) := by decide +kernel
theorem dX12_enqueue_71 : decode cX12_enqueue 71 = .ok (.dup, 1) := by decide +kernel
theorem dX12_enqueue_72 : decode cX12_enqueue 72 = .ok (.getfield 139, 3) := by decide +kernel
theorem dX12_enqueue_75 : decode cX12_enqueue 75 = .ok (.iconst 1, 1) := by decide +kernel
theorem dX12_enqueue_76 : decode cX12_enqueue 76 = .ok (.iadd, 1) := by decide +kernel
theorem dX12_enqueue_77 : decode cX12_enqueue 77 = .ok (.putfield 139, 3) := by decide +kernel
theorem dX12_enqueue_80 : decode cX12_enqueue 80 = .ok (.return_, 1) := by decide +kernel

set_option maxRecDepth 20000 in
theorem ggX0_readSets_X5_intAt : GoodIn wsX0_readSets wsX5_intAt := goodIn_ca (goodIn_r _ [7, 8, 9, 10, 6, 11, 12, 13, 125, 126] rfl (by decide +kernel)) (goodIn_sub (fun _ h => List.mem_cons_of_mem _ (List.mem_append_right _ h)) (by decide +kernel))
set_option maxRecDepth 20000 in
theorem gX0_readSets_X5_intAt : GoodIn wsX0_readSets (wsV RX0 92 RX5 yX5_intAt wsX5_intAt) := goodIn_app (goodIn_of _ (by decide +kernel)) ggX0_readSets_X5_intAt
set_option maxRecDepth 20000 in
theorem ggX0_readSets_X0_readTemplates : GoodIn wsX0_readSets wsX0_readTemplates := goodIn_ca (goodIn_r _ [18, 19, 20, 21, 3, 4, 5, 6, 7, 8, 9, 10, 11, 12, 13, 22, 23, 24, 17, 25, 26, 27, 28, 29, 30, 31, 32, 33, 34, 35, 36, 37, 38, 39, 40, 41, 42, 43, 44, 45, 46, 47, 48, 49, 50, 51, 52, 53, 54, 55, 56, 57, 127, 128, 129, 130, 131, 132, 133, 134, 135, 136, 137, 138, 125, 126, 139, 140, 141, 142] rfl (by decide +kernel)) (goodIn_sub (fun _ h => List.mem_cons_of_mem _ (List.mem_append_right _ h)) (by decide +kernel))
set_option maxRecDepth 20000 in
theorem gX0_readSets_X0_readTemplates : GoodIn wsX0_readSets (wsV RX0 118 RX0 yX0_readTemplates wsX0_readTemplates) := goodIn_app (goodIn_of _ (by decide +kernel)) ggX0_readSets_X0_readTemplates
set_option maxRecDepth 20000 in
theorem ggX0_readSets_X0_readData : GoodIn wsX0_readSets wsX0_readData := goodIn_ca (goodIn_r _ [61, 2, 19, 62, 63, 64, 65, 17, 66, 67, 68, 69, 70, 71, 26, 21, 72, 73, 74, 75, 76, 77, 78, 79, 80, 81, 82, 83, 84, 85, 86, 87, 88, 54, 55, 30, 56, 32, 47, 89, 9, 10, 6, 11, 12, 13, 90, 91, 92, 93, 94, 95, 96, 97, 98, 99, 100, 101, 102, 103, 104, 105, 106, 107, 108, 109, 110, 111, 112, 113, 114, 115, 116, 117, 118, 119, 120, 121, 122, 123, 124, 127, 128, 129, 130, 131, 132, 133, 134, 135, 136, 137, 138, 139, 140, 141, 142, 143, 144, 145, 146, 147, 148, 125, 126, 149, 150, 151, 152, 153] rfl (by decide +kernel)) (goodIn_sub (fun _ h => List.mem_cons_of_mem _ (List.mem_append_right _ h)) (by decide +kernel))
set_option maxRecDepth 20000 in
theorem gX0_readSets_X0_readData : GoodIn wsX0_readSets (wsV RX0 122 RX0 yX0_readData wsX0_readData) := goodIn_app (goodIn_of _ (by decide +kernel)) ggX0_readSets_X0_readData
theorem dX0_readSets_0 : decode cX0_readSets 0 = .ok (.iconst 0, 1) := by decide +kernel
theorem dX0_readSets_1 : decode cX0_readSets 1 = .ok (.istore_n 3, 1) := by decide +kernel
theorem dX0_readSets_2 : decode cX0_readSets 2 = .ok (.bipush 16, 2) := by decide +kernel
theorem dX0_readSets_4 : decode cX0_readSets 4 = .ok (.istore 4, 2) := by decide +kernel
theorem dX0_readSets_6 : decode cX0_readSets 6 = .ok (.iconst 0, 1) := by decide +kernel
theorem dX0_readSets_7 : decode cX0_readSets 7 = .ok (.istore 5, 2) := by decide +kernel
theorem dX0_readSets_9 : decode cX0_readSets 9 = .ok (.iload 5, 2) := by decide +kernel
theorem dX0_readSets_11 : decode cX0_readSets 11 = .ok (.sipush 700, 3) := by decide +kernel
theorem dX0_readSets_14 : decode cX0_readSets 14 = .ok (.if_icmp .gt 149, 3) := by decide +kernel
theorem dX0_readSets_17 : decode cX0_readSets 17 = .ok (.iload 4, 2) := by decide +kernel
theorem dX0_readSets_19 : decode cX0_readSets 19 = .ok (.aload_n 1, 1) := by decide +kernel
theorem dX0_readSets_20 : decode cX0_readSets 20 = .ok (.getfield 87, 3) := by decide +kernel
theorem dX0_readSets_23 : decode cX0_readSets 23 = .ok (.if_icmp .ge 140, 3) := by decide +kernel
theorem dX0_readSets_26 : decode cX0_readSets 26 = .ok (.aload_n 1, 1) := by decide +kernel
theorem dX0_readSets_27 : decode cX0_readSets 27 = .ok (.getfield 87, 3) := by decide +kernel
theorem dX0_readSets_30 : decode cX0_readSets 30 = .ok (.iload 4, 2) := by decide +kernel
theorem dX0_readSets_32 : decode cX0_readSets 32 = .ok (.isub, 1) := by decide +kernel
theorem dX0_readSets_33 : decode cX0_readSets 33 = .ok (.istore 6, 2) := by decide +kernel
theorem dX0_readSets_35 : decode cX0_readSets 35 = .ok (.iload 6, 2) := by decide +kernel
theorem dX0_readSets_37 : decode cX0_readSets 37 = .ok (.iconst 4, 1) := by decide +kernel
theorem dX0_readSets_38 : decode cX0_readSets 38 = .ok (.if_icmp .ge 7, 3) := by decide +kernel
theorem dX0_readSets_41 : decode cX0_readSets 41 = .ok (.iconst 0, 1) := by decide +kernel
theorem dX0_readSets_42 : decode cX0_readSets 42 = .ok (.goto 12, 3) := by decide +kernel
theorem dX0_readSets_45 : decode cX0_readSets 45 = .ok (.aload_n 1, 1) := by decide +kernel
theorem dX0_readSets_46 : decode cX0_readSets 46 = .ok (.iload 4, 2) := by decide +kernel
theorem dX0_readSets_48 : decode cX0_readSets 48 = .ok (.iconst 2, 1) := by decide +kernel
theorem dX0_readSets_49 : decode cX0_readSets 49 = .ok (.iadd, 1) := by decide +kernel
theorem dX0_readSets_50 : decode cX0_readSets 50 = .ok (.iconst 2, 1) := by decide +kernel
theorem dX0_readSets_51 : decode cX0_readSets 51 = .ok (.invokevirtual 92, 3) := by decide +kernel
theorem dX0_readSets_54 : decode cX0_readSets 54 = .ok (.istore 7, 2) := by decide +kernel
theorem dX0_readSets_56 : decode cX0_readSets 56 = .ok (.iload 7, 2) := by decide +kernel
theorem dX0_readSets_58 : decode cX0_readSets 58 = .ok (.iconst 4, 1) := by decide +kernel
theorem dX0_readSets_59 : decode cX0_readSets 59 = .ok (.if_icmp .lt 10, 3) := by decide +kernel
theorem dX0_readSets_62 : decode cX0_readSets 62 = .ok (.iload 7, 2) := by decide +kernel
theorem dX0_readSets_64 : decode cX0_readSets 64 = .ok (.iload 6, 2) := by decide +kernel
theorem dX0_readSets_66 : decode cX0_readSets 66 = .ok (.if_icmp .le 15, 3) := by decide +kernel
theorem dX0_readSets_69 : decode cX0_readSets 69 = .ok (.aload_n 0, 1) := by decide +kernel
theorem dX0_readSets_70 : decode cX0_readSets 70 = .ok (.getfield 32, 3) := by decide +kernel
theorem dX0_readSets_73 : decode cX0_readSets 73 = .ok (.iconst 4, 1) := by decide +kernel
theorem dX0_readSets_74 : decode cX0_readSets 74 = .ok (.dup2, 1) := by decide +kernel
theorem dX0_readSets_75 : decode cX0_readSets 75 = .ok (.laload, 1) := by decide +kernel
theorem dX0_readSets_76 : decode cX0_readSets 76 = .ok (.lconst 1, 1) := by decide +kernel
theorem dX0_readSets_77 : decode cX0_readSets 77 = .ok (.ladd, 1) := by decide +kernel
theorem dX0_readSets_78 : decode cX0_readSets 78 = .ok (.lastore, 1) := by decide +kernel
theorem dX0_readSets_79 : decode cX0_readSets 79 = .ok (.iload_n 3, 1) := by decide +kernel
theorem dX0_readSets_80 : decode cX0_readSets 80 = .ok (.ireturn, 1) := by decide +kernel
theorem dX0_readSets_81 : decode cX0_readSets 81 = .ok (.aload_n 1, 1) := by decide +kernel
theorem dX0_readSets_82 : decode cX0_readSets 82 = .ok (.iload 4, 2) := by decide +kernel
theorem dX0_readSets_84 : decode cX0_readSets 84 = .ok (.iconst 2, 1) := by decide +kernel
theorem dX0_readSets_85 : decode cX0_readSets 85 = .ok (.invokevirtual 92, 3) := by decide +kernel
theorem dX0_readSets_88 : decode cX0_readSets 88 = .ok (.istore 8, 2) := by decide +kernel
theorem dX0_readSets_90 : decode cX0_readSets 90 = .ok (.iload 4, 2) := by decide +kernel
theorem dX0_readSets_92 : decode cX0_readSets 92 = .ok (.iconst 4, 1) := by decide +kernel
theorem dX0_readSets_93 : decode cX0_readSets 93 = .ok (.iadd, 1) := by decide +kernel
theorem dX0_readSets_94 : decode cX0_readSets 94 = .ok (.istore 9, 2) := by decide +kernel
theorem dX0_readSets_96 : decode cX0_readSets 96 = .ok (.iload 4, 2) := by decide +kernel
theorem dX0_readSets_98 : decode cX0_readSets 98 = .ok (.iload 7, 2) := by decide +kernel
theorem dX0_readSets_100 : decode cX0_readSets 100 = .ok (.iadd, 1) := by decide +kernel
theorem dX0_readSets_101 : decode cX0_readSets 101 = .ok (.istore 4, 2) := by decide +kernel
theorem dX0_readSets_103 : decode cX0_readSets 103 = .ok (.iload 8, 2) := by decide +kernel
theorem dX0_readSets_105 : decode cX0_readSets 105 = .ok (.iconst 2, 1) := by decide +kernel
theorem dX0_readSets_106 : decode cX0_readSets 106 = .ok (.if_icmp .ne 16, 3) := by decide +kernel
theorem dX0_readSets_109 : decode cX0_readSets 109 = .ok (.aload_n 0, 1) := by decide +kernel
theorem dX0_readSets_110 : decode cX0_readSets 110 = .ok (.aload_n 1, 1) := by decide +kernel
theorem dX0_readSets_111 : decode cX0_readSets 111 = .ok (.iload 9, 2) := by decide +kernel
theorem dX0_readSets_113 : decode cX0_readSets 113 = .ok (.iload 4, 2) := by decide +kernel
theorem dX0_readSets_115 : decode cX0_readSets 115 = .ok (.iload_n 2, 1) := by decide +kernel
theorem dX0_readSets_116 : decode cX0_readSets 116 = .ok (.invokevirtual 118, 3) := by decide +kernel
theorem dX0_readSets_119 : decode cX0_readSets 119 = .ok (.goto 38, 3) := by decide +kernel
theorem dX0_readSets_122 : decode cX0_readSets 122 = .ok (.iload 8, 2) := by decide +kernel
theorem dX0_readSets_124 : decode cX0_readSets 124 = .ok (.sipush 256, 3) := by decide +kernel
theorem dX0_readSets_127 : decode cX0_readSets 127 = .ok (.if_icmp .lt 30, 3) := by decide +kernel
theorem dX0_readSets_130 : decode cX0_readSets 130 = .ok (.iload 8, 2) := by decide +kernel
theorem dX0_readSets_132 : decode cX0_readSets 132 = .ok (.sipush 260, 3) := by decide +kernel
theorem dX0_readSets_135 : decode cX0_readSets 135 = .ok (.if_icmp .ge 22, 3) := by decide +kernel
theorem dX0_readSets_138 : decode cX0_readSets 138 = .ok (.iload_n 3, 1) := by decide +kernel
theorem dX0_readSets_139 : decode cX0_readSets 139 = .ok (.aload_n 0, 1) := by decide +kernel
theorem dX0_readSets_140 : decode cX0_readSets 140 = .ok (.aload_n 1, 1) := by decide +kernel
theorem dX0_readSets_141 : decode cX0_readSets 141 = .ok (.iload 9, 2) := by decide +kernel
theorem dX0_readSets_143 : decode cX0_readSets 143 = .ok (.iload 4, 2) := by decide +kernel
theorem dX0_readSets_145 : decode cX0_readSets 145 = .ok (.iload 8, 2) := by decide +kernel
theorem dX0_readSets_147 : decode cX0_readSets 147 = .ok (.sipush 256, 3) := by decide +kernel
theorem dX0_readSets_150 : decode cX0_readSets 150 = .ok (.isub, 1) := by decide +kernel
theorem dX0_readSets_151 : decode cX0_readSets 151 = .ok (.iload_n 2, 1) := by decide +kernel
theorem dX0_readSets_152 : decode cX0_readSets 152 = .ok (.invokevirtual 122, 3) := by decide +kernel
theorem dX0_readSets_155 : decode cX0_readSets 155 = .ok (.iadd, 1) := by decide +kernel
theorem dX0_readSets_156 : decode cX0_readSets 156 = .ok (.istore_n 3, 1) := by decide +kernel
theorem dX0_readSets_157 : decode cX0_readSets 157 = .ok (.iinc 5 1, 3) := by decide +kernel
theorem dX0_readSets_160 : decode cX0_readSets 160 = .ok (.goto (-151), 3) := by decide +kernel
theorem dX0_readSets_163 : decode cX0_readSets 163 = .ok (.iload_n 3, 1) := by decide +kernel
theorem dX0_readSets_164 : decode cX0_readSets 164 = .ok (.ireturn, 1) := by decide +kernel
set_option maxRecDepth 20000 in
theorem ggX0_readTemplates_X5_intAt : GoodIn wsX0_readTemplates wsX5_intAt := goodIn_ca (goodIn_r _ [8, 9, 10, 11, 7, 12, 13, 14, 64, 65] rfl (by decide +kernel)) (goodIn_sub (fun _ h => List.mem_cons_of_mem _ (List.mem_append_right _ h)) (by decide +kernel))
set_option maxRecDepth 20000 in
theorem gX0_readTemplates_X5_intAt : GoodIn wsX0_readTemplates (wsV RX0 92 RX5 yX5_intAt wsX5_intAt) := goodIn_app (goodIn_of _ (by decide +kernel)) ggX0_readTemplates_X5_intAt
set_option maxRecDepth 20000 in
theorem ggX0_readTemplates_X0_readCandidate : GoodIn wsX0_readTemplates wsX0_readCandidate := goodIn_ca (goodIn_r _ [19, 2, 20, 21, 22, 23, 24, 25, 26, 27, 28, 4, 5, 6, 7, 8, 9, 10, 11, 12, 13, 14, 29, 30, 31, 32, 33, 34, 35, 36, 37, 38, 39, 40, 41, 52, 53, 54, 55, 56, 57, 58, 59, 60, 61, 62, 63, 66, 67, 68, 69, 64, 65] rfl (by decide +kernel)) (goodIn_sub (fun _ h => List.mem_cons_of_mem _ (List.mem_append_right _ h)) (by decide +kernel))
set_option maxRecDepth 20000 in
theorem gX0_readTemplates_X0_readCandidate : GoodIn wsX0_readTemplates (wsV RX0 126 RX0 yX0_readCandidate wsX0_readCandidate) := goodIn_app (goodIn_of _ (by decide +kernel)) ggX0_readTemplates_X0_readCandidate
set_option maxRecDepth 20000 in
theorem ggX0_readTemplates_X10_copyFrom : GoodIn wsX0_readTemplates wsX10_copyFrom := goodIn_ca (goodIn_r _ [45, 26, 46, 22, 23, 24, 25, 27, 28, 47, 48, 49, 50, 41, 51, 38, 39, 40, 66, 67, 68, 69] rfl (by decide +kernel)) (goodIn_sub (fun _ h => List.mem_cons_of_mem _ (List.mem_append_right _ h)) (by decide +kernel))
set_option maxRecDepth 20000 in
theorem gX0_readTemplates_X10_copyFrom : GoodIn wsX0_readTemplates (wsV RX0 130 RX10 yX10_copyFrom wsX10_copyFrom) := goodIn_app (goodIn_of _ (by decide +kernel)) ggX0_readTemplates_X10_copyFrom
theorem dX0_readTemplates_0 : decode cX0_readTemplates 0 = .ok (.iload_n 2, 1) := by decide +kernel
theorem dX0_readTemplates_1 : decode cX0_readTemplates 1 = .ok (.istore 5, 2) := by decide +kernel
theorem dX0_readTemplates_3 : decode cX0_readTemplates 3 = .ok (.iconst 0, 1) := by decide +kernel
theorem dX0_readTemplates_4 : decode cX0_readTemplates 4 = .ok (.istore 6, 2) := by decide +kernel
theorem dX0_readTemplates_6 : decode cX0_readTemplates 6 = .ok (.iload 6, 2) := by decide +kernel
theorem dX0_readTemplates_8 : decode cX0_readTemplates 8 = .ok (.sipush 700, 3) := by decide +kernel
theorem dX0_readTemplates_11 : decode cX0_readTemplates 11 = .ok (.if_icmp .gt 115, 3) := by decide +kernel
theorem dX0_readTemplates_14 : decode cX0_readTemplates 14 = .ok (.iload_n 3, 1) := by decide +kernel
theorem dX0_readTemplates_15 : decode cX0_readTemplates 15 = .ok (.iload 5, 2) := by decide +kernel
theorem dX0_readTemplates_17 : decode cX0_readTemplates 17 = .ok (.isub, 1) := by decide +kernel
theorem dX0_readTemplates_18 : decode cX0_readTemplates 18 = .ok (.iconst 4, 1) := by decide +kernel
theorem dX0_readTemplates_19 : decode cX0_readTemplates 19 = .ok (.if_icmp .lt 107, 3) := by decide +kernel
theorem dX0_readTemplates_22 : decode cX0_readTemplates 22 = .ok (.aload_n 1, 1) := by decide +kernel
theorem dX0_readTemplates_23 : decode cX0_readTemplates 23 = .ok (.iload 5, 2) := by decide +kernel
theorem dX0_readTemplates_25 : decode cX0_readTemplates 25 = .ok (.iconst 2, 1) := by decide +kernel
theorem dX0_readTemplates_26 : decode cX0_readTemplates 26 = .ok (.invokevirtual 92, 3) := by decide +kernel
theorem dX0_readTemplates_29 : decode cX0_readTemplates 29 = .ok (.sipush 256, 3) := by decide +kernel
theorem dX0_readTemplates_32 : decode cX0_readTemplates 32 = .ok (.isub, 1) := by decide +kernel
theorem dX0_readTemplates_33 : decode cX0_readTemplates 33 = .ok (.istore 7, 2) := by decide +kernel
theorem dX0_readTemplates_35 : decode cX0_readTemplates 35 = .ok (.aload_n 1, 1) := by decide +kernel
theorem dX0_readTemplates_36 : decode cX0_readTemplates 36 = .ok (.iload 5, 2) := by decide +kernel
theorem dX0_readTemplates_38 : decode cX0_readTemplates 38 = .ok (.iconst 2, 1) := by decide +kernel
theorem dX0_readTemplates_39 : decode cX0_readTemplates 39 = .ok (.iadd, 1) := by decide +kernel
theorem dX0_readTemplates_40 : decode cX0_readTemplates 40 = .ok (.iconst 2, 1) := by decide +kernel
theorem dX0_readTemplates_41 : decode cX0_readTemplates 41 = .ok (.invokevirtual 92, 3) := by decide +kernel
theorem dX0_readTemplates_44 : decode cX0_readTemplates 44 = .ok (.istore 8, 2) := by decide +kernel
theorem dX0_readTemplates_46 : decode cX0_readTemplates 46 = .ok (.iinc 5 4, 3) := by decide +kernel
theorem dX0_readTemplates_49 : decode cX0_readTemplates 49 = .ok (.iload 7, 2) := by decide +kernel
theorem dX0_readTemplates_51 : decode cX0_readTemplates 51 = .ok (.ifCond .lt 20, 3) := by decide +kernel
theorem dX0_readTemplates_54 : decode cX0_readTemplates 54 = .ok (.iload 7, 2) := by decide +kernel
theorem dX0_readTemplates_56 : decode cX0_readTemplates 56 = .ok (.iconst 4, 1) := by decide +kernel
theorem dX0_readTemplates_57 : decode cX0_readTemplates 57 = .ok (.if_icmp .ge 14, 3) := by decide +kernel
theorem dX0_readTemplates_60 : decode cX0_readTemplates 60 = .ok (.iconst 4, 1) := by decide +kernel
theorem dX0_readTemplates_61 : decode cX0_readTemplates 61 = .ok (.iload 8, 2) := by decide +kernel
theorem dX0_readTemplates_63 : decode cX0_readTemplates 63 = .ok (.imul, 1) := by decide +kernel
theorem dX0_readTemplates_64 : decode cX0_readTemplates 64 = .ok (.iload_n 3, 1) := by decide +kernel
theorem dX0_readTemplates_65 : decode cX0_readTemplates 65 = .ok (.iload 5, 2) := by decide +kernel
theorem dX0_readTemplates_67 : decode cX0_readTemplates 67 = .ok (.isub, 1) := by decide +kernel
theorem dX0_readTemplates_68 : decode cX0_readTemplates 68 = .ok (.if_icmp .le 4, 3) := by decide +kernel
theorem dX0_readTemplates_71 : decode cX0_readTemplates 71 = .ok (.return_, 1) := by decide +kernel
theorem dX0_readTemplates_72 : decode cX0_readTemplates 72 = .ok (.aload_n 0, 1) := by decide +kernel
theorem dX0_readTemplates_73 : decode cX0_readTemplates 73 = .ok (.aload_n 1, 1) := by decide +kernel
theorem dX0_readTemplates_74 : decode cX0_readTemplates 74 = .ok (.iload 5, 2) := by decide +kernel
theorem dX0_readTemplates_76 : decode cX0_readTemplates 76 = .ok (.iload 8, 2) := by decide +kernel
theorem dX0_readTemplates_78 : decode cX0_readTemplates 78 = .ok (.invokevirtual 126, 3) := by decide +kernel
theorem dX0_readTemplates_81 : decode cX0_readTemplates 81 = .ok (.ifCond .ne 4, 3) := by decide +kernel
theorem dX0_readTemplates_84 : decode cX0_readTemplates 84 = .ok (.return_, 1) := by decide +kernel
theorem dX0_readTemplates_85 : decode cX0_readTemplates 85 = .ok (.aload_n 0, 1) := by decide +kernel
theorem dX0_readTemplates_86 : decode cX0_readTemplates 86 = .ok (.getfield 11, 3) := by decide +kernel
theorem dX0_readTemplates_89 : decode cX0_readTemplates 89 = .ok (.iload 7, 2) := by decide +kernel
theorem dX0_readTemplates_91 : decode cX0_readTemplates 91 = .ok (.aaload, 1) := by decide +kernel
theorem dX0_readTemplates_92 : decode cX0_readTemplates 92 = .ok (.aload_n 0, 1) := by decide +kernel
theorem dX0_readTemplates_93 : decode cX0_readTemplates 93 = .ok (.getfield 22, 3) := by decide +kernel
theorem dX0_readTemplates_96 : decode cX0_readTemplates 96 = .ok (.sipush 511, 3) := by decide +kernel
theorem dX0_readTemplates_99 : decode cX0_readTemplates 99 = .ok (.invokevirtual 130, 3) := by decide +kernel
theorem dX0_readTemplates_102 : decode cX0_readTemplates 102 = .ok (.aload_n 0, 1) := by decide +kernel
theorem dX0_readTemplates_103 : decode cX0_readTemplates 103 = .ok (.getfield 17, 3) := by decide +kernel
theorem dX0_readTemplates_106 : decode cX0_readTemplates 106 = .ok (.iload 7, 2) := by decide +kernel
theorem dX0_readTemplates_108 : decode cX0_readTemplates 108 = .ok (.iload 4, 2) := by decide +kernel
theorem dX0_readTemplates_110 : decode cX0_readTemplates 110 = .ok (.iastore, 1) := by decide +kernel
theorem dX0_readTemplates_111 : decode cX0_readTemplates 111 = .ok (.iload 5, 2) := by decide +kernel
theorem dX0_readTemplates_113 : decode cX0_readTemplates 113 = .ok (.iconst 4, 1) := by decide +kernel
theorem dX0_readTemplates_114 : decode cX0_readTemplates 114 = .ok (.iload 8, 2) := by decide +kernel
theorem dX0_readTemplates_116 : decode cX0_readTemplates 116 = .ok (.imul, 1) := by decide +kernel
theorem dX0_readTemplates_117 : decode cX0_readTemplates 117 = .ok (.iadd, 1) := by decide +kernel
theorem dX0_readTemplates_118 : decode cX0_readTemplates 118 = .ok (.istore 5, 2) := by decide +kernel
theorem dX0_readTemplates_120 : decode cX0_readTemplates 120 = .ok (.iinc 6 1, 3) := by decide +kernel
theorem dX0_readTemplates_123 : decode cX0_readTemplates 123 = .ok (.goto (-117), 3) := by decide +kernel
theorem dX0_readTemplates_126 : decode cX0_readTemplates 126 = .ok (.return_, 1) := by decide +kernel
set_option maxRecDepth 20000 in
theorem ggX0_readCandidate_X10_clear : GoodIn wsX0_readCandidate wsX10_clear := goodIn_r _ [7, 8, 9, 10, 47, 48, 49, 50] rfl (by decide +kernel)
set_option maxRecDepth 20000 in
theorem gX0_readCandidate_X10_clear : GoodIn wsX0_readCandidate (wsV RX0 70 RX10 yX10_clear wsX10_clear) := goodIn_app (goodIn_of _ (by decide +kernel)) ggX0_readCandidate_X10_clear
set_option maxRecDepth 20000 in
theorem ggX0_readCandidate_X5_intAt : GoodIn wsX0_readCandidate wsX5_intAt := goodIn_ca (goodIn_r _ [15, 16, 17, 18, 14, 19, 20, 21, 51, 52] rfl (by decide +kernel)) (goodIn_sub (fun _ h => List.mem_cons_of_mem _ (List.mem_append_right _ h)) (by decide +kernel))
set_option maxRecDepth 20000 in
theorem gX0_readCandidate_X5_intAt : GoodIn wsX0_readCandidate (wsV RX0 92 RX5 yX5_intAt wsX5_intAt) := goodIn_app (goodIn_of _ (by decide +kernel)) ggX0_readCandidate_X5_intAt
set_option maxRecDepth 20000 in
theorem ggX0_readCandidate_X11_lengthOf : GoodIn wsX0_readCandidate wsX11_lengthOf := goodIn_ca (goodIn_r _ [24, 25] rfl (by decide +kernel)) (goodIn_sub (fun _ h => List.mem_cons_of_mem _ (List.mem_append_right _ h)) (by decide +kernel))
set_option maxRecDepth 20000 in
theorem gX0_readCandidate_X11_lengthOf_n134 : GoodIn wsX0_readCandidate (wsX11_lengthOf) := ggX0_readCandidate_X11_lengthOf
set_option maxRecDepth 20000 in
theorem ggX0_readCandidate_X10_has : GoodIn wsX0_readCandidate wsX10_has := goodIn_r _ [29, 9, 47, 48, 49, 50] rfl (by decide +kernel)
set_option maxRecDepth 20000 in
theorem gX0_readCandidate_X10_has : GoodIn wsX0_readCandidate (wsV RX0 137 RX10 yX10_has wsX10_has) := goodIn_app (goodIn_of _ (by decide +kernel)) ggX0_readCandidate_X10_has
set_option maxRecDepth 20000 in
theorem ggX0_readCandidate_X10_addField : GoodIn wsX0_readCandidate wsX10_addField := goodIn_ca (goodIn_r _ [33, 8, 9, 34, 10, 47, 48, 49, 50] rfl (by decide +kernel)) (goodIn_sub (fun _ h => List.mem_cons_of_mem _ (List.mem_append_right _ h)) (by decide +kernel))
set_option maxRecDepth 20000 in
theorem gX0_readCandidate_X10_addField : GoodIn wsX0_readCandidate (wsV RX0 141 RX10 yX10_addField wsX10_addField) := goodIn_app (goodIn_of _ (by decide +kernel)) ggX0_readCandidate_X10_addField
theorem dX0_readCandidate_0 : decode cX0_readCandidate 0 = .ok (.aload_n 0, 1) := by decide +kernel
theorem dX0_readCandidate_1 : decode cX0_readCandidate 1 = .ok (.getfield 22, 3) := by decide +kernel
theorem dX0_readCandidate_4 : decode cX0_readCandidate 4 = .ok (.invokevirtual 70, 3) := by decide +kernel
theorem dX0_readCandidate_7 : decode cX0_readCandidate 7 = .ok (.iconst 0, 1) := by decide +kernel
theorem dX0_readCandidate_8 : decode cX0_readCandidate 8 = .ok (.istore 4, 2) := by decide +kernel
theorem dX0_readCandidate_10 : decode cX0_readCandidate 10 = .ok (.iload 4, 2) := by decide +kernel
theorem dX0_readCandidate_12 : decode cX0_readCandidate 12 = .ok (.iload_n 3, 1) := by decide +kernel
theorem dX0_readCandidate_13 : decode cX0_readCandidate 13 = .ok (.if_icmp .ge 77, 3) := by decide +kernel
theorem dX0_readCandidate_16 : decode cX0_readCandidate 16 = .ok (.aload_n 1, 1) := by decide +kernel
theorem dX0_readCandidate_17 : decode cX0_readCandidate 17 = .ok (.iload_n 2, 1) := by decide +kernel
theorem dX0_readCandidate_18 : decode cX0_readCandidate 18 = .ok (.iconst 4, 1) := by decide +kernel
theorem dX0_readCandidate_19 : decode cX0_readCandidate 19 = .ok (.iload 4, 2) := by decide +kernel
theorem dX0_readCandidate_21 : decode cX0_readCandidate 21 = .ok (.imul, 1) := by decide +kernel
theorem dX0_readCandidate_22 : decode cX0_readCandidate 22 = .ok (.iadd, 1) := by decide +kernel
theorem dX0_readCandidate_23 : decode cX0_readCandidate 23 = .ok (.iconst 2, 1) := by decide +kernel
theorem dX0_readCandidate_24 : decode cX0_readCandidate 24 = .ok (.invokevirtual 92, 3) := by decide +kernel
theorem dX0_readCandidate_27 : decode cX0_readCandidate 27 = .ok (.istore 5, 2) := by decide +kernel
theorem dX0_readCandidate_29 : decode cX0_readCandidate 29 = .ok (.aload_n 1, 1) := by decide +kernel
theorem dX0_readCandidate_30 : decode cX0_readCandidate 30 = .ok (.iload_n 2, 1) := by decide +kernel
theorem dX0_readCandidate_31 : decode cX0_readCandidate 31 = .ok (.iconst 4, 1) := by decide +kernel
theorem dX0_readCandidate_32 : decode cX0_readCandidate 32 = .ok (.iload 4, 2) := by decide +kernel
theorem dX0_readCandidate_34 : decode cX0_readCandidate 34 = .ok (.imul, 1) := by decide +kernel
theorem dX0_readCandidate_35 : decode cX0_readCandidate 35 = .ok (.iadd, 1) := by decide +kernel
theorem dX0_readCandidate_36 : decode cX0_readCandidate 36 = .ok (.iconst 2, 1) := by decide +kernel
theorem dX0_readCandidate_37 : decode cX0_readCandidate 37 = .ok (.iadd, 1) := by decide +kernel
theorem dX0_readCandidate_38 : decode cX0_readCandidate 38 = .ok (.iconst 2, 1) := by decide +kernel
theorem dX0_readCandidate_39 : decode cX0_readCandidate 39 = .ok (.invokevirtual 92, 3) := by decide +kernel
theorem dX0_readCandidate_42 : decode cX0_readCandidate 42 = .ok (.istore 6, 2) := by decide +kernel
theorem dX0_readCandidate_44 : decode cX0_readCandidate 44 = .ok (.iload 5, 2) := by decide +kernel
theorem dX0_readCandidate_46 : decode cX0_readCandidate 46 = .ok (.bipush 9, 2) := by decide +kernel
theorem dX0_readCandidate_48 : decode cX0_readCandidate 48 = .ok (.if_icmp .ge 25, 3) := by decide +kernel
theorem dX0_readCandidate_51 : decode cX0_readCandidate 51 = .ok (.iload 6, 2) := by decide +kernel
theorem dX0_readCandidate_53 : decode cX0_readCandidate 53 = .ok (.iload 5, 2) := by decide +kernel
theorem dX0_readCandidate_55 : decode cX0_readCandidate 55 = .ok (.invokestatic 134, 3) := by decide +kernel
theorem dX0_readCandidate_58 : decode cX0_readCandidate 58 = .ok (.if_icmp .ne 15, 3) := by decide +kernel
theorem dX0_readCandidate_61 : decode cX0_readCandidate 61 = .ok (.aload_n 0, 1) := by decide +kernel
theorem dX0_readCandidate_62 : decode cX0_readCandidate 62 = .ok (.getfield 22, 3) := by decide +kernel
theorem dX0_readCandidate_65 : decode cX0_readCandidate 65 = .ok (.iload 5, 2) := by decide +kernel
theorem dX0_readCandidate_67 : decode cX0_readCandidate 67 = .ok (.invokevirtual 137, 3) := by decide +kernel
theorem dX0_readCandidate_70 : decode cX0_readCandidate 70 = .ok (.ifCond .eq 5, 3) := by decide +kernel
theorem dX0_readCandidate_73 : decode cX0_readCandidate 73 = .ok (.iconst 0, 1) := by decide +kernel
theorem dX0_readCandidate_74 : decode cX0_readCandidate 74 = .ok (.ireturn, 1) := by decide +kernel
theorem dX0_readCandidate_75 : decode cX0_readCandidate 75 = .ok (.aload_n 0, 1) := by decide +kernel
theorem dX0_readCandidate_76 : decode cX0_readCandidate 76 = .ok (.getfield 22, 3) := by decide +kernel
theorem dX0_readCandidate_79 : decode cX0_readCandidate 79 = .ok (.iload 5, 2) := by decide +kernel
theorem dX0_readCandidate_81 : decode cX0_readCandidate 81 = .ok (.invokevirtual 141, 3) := by decide +kernel
theorem dX0_readCandidate_84 : decode cX0_readCandidate 84 = .ok (.iinc 4 1, 3) := by decide +kernel
theorem dX0_readCandidate_87 : decode cX0_readCandidate 87 = .ok (.goto (-77), 3) := by decide +kernel
theorem dX0_readCandidate_90 : decode cX0_readCandidate 90 = .ok (.aload_n 0, 1) := by decide +kernel
theorem dX0_readCandidate_91 : decode cX0_readCandidate 91 = .ok (.getfield 22, 3) := by decide +kernel
theorem dX0_readCandidate_94 : decode cX0_readCandidate 94 = .ok (.getfield 67, 3) := by decide +kernel
theorem dX0_readCandidate_97 : decode cX0_readCandidate 97 = .ok (.ifCond .le 7, 3) := by decide +kernel
theorem dX0_readCandidate_100 : decode cX0_readCandidate 100 = .ok (.iconst 1, 1) := by decide +kernel
theorem dX0_readCandidate_101 : decode cX0_readCandidate 101 = .ok (.goto 4, 3) := by decide +kernel
theorem dX0_readCandidate_104 : decode cX0_readCandidate 104 = .ok (.iconst 0, 1) := by decide +kernel
theorem dX0_readCandidate_105 : decode cX0_readCandidate 105 = .ok (.ireturn, 1) := by decide +kernel
set_option maxRecDepth 20000 in
theorem ggX0_readData_X0_isUsable : GoodIn wsX0_readData wsX0_isUsable := goodIn_ca (goodIn_r _ [8, 9, 10, 11, 12, 7, 13, 2, 14, 15, 16, 17, 18, 19, 20, 21, 81, 82, 83, 84, 85, 86, 87, 88, 89, 90, 91, 92, 93, 94, 95, 96, 97, 98, 99, 100, 101, 102] rfl (by decide +kernel)) (goodIn_sub (fun _ h => List.mem_cons_of_mem _ (List.mem_append_right _ h)) (by decide +kernel))
set_option maxRecDepth 20000 in
theorem gX0_readData_X0_isUsable : GoodIn wsX0_readData (wsV RX0 83 RX0 yX0_isUsable wsX0_isUsable) := goodIn_app (goodIn_of _ (by decide +kernel)) ggX0_readData_X0_isUsable
set_option maxRecDepth 20000 in
theorem ggX0_readData_X0_decode : GoodIn wsX0_readData wsX0_decode := goodIn_ca (goodIn_r _ [25, 26, 14, 27, 1, 9, 28, 29, 30, 31, 32, 33, 34, 35, 36, 37, 38, 39, 40, 41, 42, 43, 44, 45, 46, 47, 48, 49, 50, 51, 52, 53, 54, 55, 56, 57, 58, 59, 60, 61, 62, 63, 64, 65, 16, 17, 18, 19, 20, 21, 66, 67, 7, 68, 69, 70, 71, 72, 73, 74, 75, 76, 77, 78, 79, 80, 81, 82, 83, 84, 85, 86, 87, 88, 89, 90, 91, 92, 93, 94, 95, 96, 103, 104, 105, 106, 107, 108, 109, 97, 98, 99, 100, 101, 102] rfl (by decide +kernel)) (goodIn_sub (fun _ h => List.mem_cons_of_mem _ (List.mem_append_right _ h)) (by decide +kernel))
set_option maxRecDepth 20000 in
theorem gX0_readData_X0_decode : GoodIn wsX0_readData (wsV RX0 148 RX0 yX0_decode wsX0_decode) := goodIn_app (goodIn_of _ (by decide +kernel)) ggX0_readData_X0_decode
theorem dX0_readData_0 : decode cX0_readData 0 = .ok (.iload 4, 2) := by decide +kernel
theorem dX0_readData_2 : decode cX0_readData 2 = .ok (.ifCond .lt 20, 3) := by decide +kernel
theorem dX0_readData_5 : decode cX0_readData 5 = .ok (.iload 4, 2) := by decide +kernel
theorem dX0_readData_7 : decode cX0_readData 7 = .ok (.iconst 4, 1) := by decide +kernel
theorem dX0_readData_8 : decode cX0_readData 8 = .ok (.if_icmp .ge 14, 3) := by decide +kernel
theorem dX0_readData_11 : decode cX0_readData 11 = .ok (.aload_n 0, 1) := by decide +kernel
theorem dX0_readData_12 : decode cX0_readData 12 = .ok (.iload 4, 2) := by decide +kernel
theorem dX0_readData_14 : decode cX0_readData 14 = .ok (.iload 5, 2) := by decide +kernel
theorem dX0_readData_16 : decode cX0_readData 16 = .ok (.invokevirtual 83, 3) := by decide +kernel
theorem dX0_readData_19 : decode cX0_readData 19 = .ok (.ifCond .ne 15, 3) := by decide +kernel
theorem dX0_readData_22 : decode cX0_readData 22 = .ok (.aload_n 0, 1) := by decide +kernel
theorem dX0_readData_23 : decode cX0_readData 23 = .ok (.getfield 32, 3) := by decide +kernel
theorem dX0_readData_26 : decode cX0_readData 26 = .ok (.iconst 3, 1) := by decide +kernel
theorem dX0_readData_27 : decode cX0_readData 27 = .ok (.dup2, 1) := by decide +kernel
theorem dX0_readData_28 : decode cX0_readData 28 = .ok (.laload, 1) := by decide +kernel
theorem dX0_readData_29 : decode cX0_readData 29 = .ok (.lconst 1, 1) := by decide +kernel
theorem dX0_readData_30 : decode cX0_readData 30 = .ok (.ladd, 1) := by decide +kernel
theorem dX0_readData_31 : decode cX0_readData 31 = .ok (.lastore, 1) := by decide +kernel
theorem dX0_readData_32 : decode cX0_readData 32 = .ok (.iconst 0, 1) := by decide +kernel
theorem dX0_readData_33 : decode cX0_readData 33 = .ok (.ireturn, 1) := by decide +kernel
theorem dX0_readData_34 : decode cX0_readData 34 = .ok (.aload_n 0, 1) := by decide +kernel
theorem dX0_readData_35 : decode cX0_readData 35 = .ok (.getfield 11, 3) := by decide +kernel
theorem dX0_readData_38 : decode cX0_readData 38 = .ok (.iload 4, 2) := by decide +kernel
theorem dX0_readData_40 : decode cX0_readData 40 = .ok (.aaload, 1) := by decide +kernel
theorem dX0_readData_41 : decode cX0_readData 41 = .ok (.astore 6, 2) := by decide +kernel
theorem dX0_readData_43 : decode cX0_readData 43 = .ok (.iconst 0, 1) := by decide +kernel
theorem dX0_readData_44 : decode cX0_readData 44 = .ok (.istore 7, 2) := by decide +kernel
theorem dX0_readData_46 : decode cX0_readData 46 = .ok (.iload_n 2, 1) := by decide +kernel
theorem dX0_readData_47 : decode cX0_readData 47 = .ok (.istore 8, 2) := by decide +kernel
theorem dX0_readData_49 : decode cX0_readData 49 = .ok (.aload 6, 2) := by decide +kernel
theorem dX0_readData_51 : decode cX0_readData 51 = .ok (.getfield 145, 3) := by decide +kernel
theorem dX0_readData_54 : decode cX0_readData 54 = .ok (.ifCond .le 40, 3) := by decide +kernel
theorem dX0_readData_57 : decode cX0_readData 57 = .ok (.iload_n 3, 1) := by decide +kernel
theorem dX0_readData_58 : decode cX0_readData 58 = .ok (.iload 8, 2) := by decide +kernel
theorem dX0_readData_60 : decode cX0_readData 60 = .ok (.isub, 1) := by decide +kernel
theorem dX0_readData_61 : decode cX0_readData 61 = .ok (.aload 6, 2) := by decide +kernel
theorem dX0_readData_63 : decode cX0_readData 63 = .ok (.getfield 145, 3) := by decide +kernel
theorem dX0_readData_66 : decode cX0_readData 66 = .ok (.if_icmp .lt 28, 3) := by decide +kernel
theorem dX0_readData_69 : decode cX0_readData 69 = .ok (.aload_n 0, 1) := by decide +kernel
theorem dX0_readData_70 : decode cX0_readData 70 = .ok (.aload_n 1, 1) := by decide +kernel
theorem dX0_readData_71 : decode cX0_readData 71 = .ok (.iload 8, 2) := by decide +kernel
theorem dX0_readData_73 : decode cX0_readData 73 = .ok (.aload 6, 2) := by decide +kernel
theorem dX0_readData_75 : decode cX0_readData 75 = .ok (.invokevirtual 148, 3) := by decide +kernel
theorem dX0_readData_78 : decode cX0_readData 78 = .ok (.iinc 7 1, 3) := by decide +kernel
theorem dX0_readData_81 : decode cX0_readData 81 = .ok (.iload 8, 2) := by decide +kernel
theorem dX0_readData_83 : decode cX0_readData 83 = .ok (.aload 6, 2) := by decide +kernel
theorem dX0_readData_85 : decode cX0_readData 85 = .ok (.getfield 145, 3) := by decide +kernel
theorem dX0_readData_88 : decode cX0_readData 88 = .ok (.iadd, 1) := by decide +kernel
theorem dX0_readData_89 : decode cX0_readData 89 = .ok (.istore 8, 2) := by decide +kernel
theorem dX0_readData_91 : decode cX0_readData 91 = .ok (.goto (-42), 3) := by decide +kernel
theorem dX0_readData_94 : decode cX0_readData 94 = .ok (.aload_n 0, 1) := by decide +kernel
theorem dX0_readData_95 : decode cX0_readData 95 = .ok (.getfield 32, 3) := by decide +kernel
theorem dX0_readData_98 : decode cX0_readData 98 = .ok (.bipush 7, 2) := by decide +kernel
theorem dX0_readData_100 : decode cX0_readData 100 = .ok (.dup2, 1) := by decide +kernel
theorem dX0_readData_101 : decode cX0_readData 101 = .ok (.laload, 1) := by decide +kernel
theorem dX0_readData_102 : decode cX0_readData 102 = .ok (.iload 7, 2) := by decide +kernel
theorem dX0_readData_104 : decode cX0_readData 104 = .ok (.i2l, 1) := by decide +kernel
theorem dX0_readData_105 : decode cX0_readData 105 = .ok (.ladd, 1) := by decide +kernel
theorem dX0_readData_106 : decode cX0_readData 106 = .ok (.lastore, 1) := by decide +kernel
theorem dX0_readData_107 : decode cX0_readData 107 = .ok (.iload 7, 2) := by decide +kernel
theorem dX0_readData_109 : decode cX0_readData 109 = .ok (.ireturn, 1) := by decide +kernel
set_option maxRecDepth 20000 in
theorem ggX0_decode_J7_fill_d0a16 : GoodIn wsX0_decode wsJ7_fill_d0a16 := goodIn_r _ [9] rfl (by decide +kernel)
set_option maxRecDepth 20000 in
theorem gX0_decode_J7_fill_d0a16 : GoodIn wsX0_decode (va_wsS RX0 57 yJ7_fill_d0a16 wsJ7_fill_d0a16) := goodIn_app (goodIn_of _ (by decide +kernel)) ggX0_decode_J7_fill_d0a16
set_option maxRecDepth 20000 in
theorem ggX0_decode_X10_field : GoodIn wsX0_decode wsX10_field := goodIn_ca (goodIn_r _ [14, 15, 16, 78, 79, 80, 81] rfl (by decide +kernel)) (goodIn_sub (fun _ h => List.mem_cons_of_mem _ (List.mem_append_right _ h)) (by decide +kernel))
set_option maxRecDepth 20000 in
theorem gX0_decode_X10_field : GoodIn wsX0_decode (wsV RX0 152 RX10 yX10_field wsX10_field) := goodIn_app (goodIn_of _ (by decide +kernel)) ggX0_decode_X10_field
set_option maxRecDepth 20000 in
theorem ggX0_decode_X5_numberAt : GoodIn wsX0_decode wsX5_numberAt := goodIn_ca (goodIn_r _ [21, 22, 23, 82, 83] rfl (by decide +kernel)) (goodIn_sub (fun _ h => List.mem_cons_of_mem _ (List.mem_append_right _ h)) (by decide +kernel))
set_option maxRecDepth 20000 in
theorem gX0_decode_X5_numberAt : GoodIn wsX0_decode (wsV RX0 158 RX5 yX5_numberAt wsX5_numberAt) := goodIn_app (goodIn_of _ (by decide +kernel)) ggX0_decode_X5_numberAt
set_option maxRecDepth 20000 in
theorem ggX0_decode_X3_keyOf : GoodIn wsX0_decode wsX3_keyOf := goodIn_r _ [27, 28, 29] rfl (by decide +kernel)
set_option maxRecDepth 20000 in
theorem gX0_decode_X3_keyOf : GoodIn wsX0_decode (va_wsS RX0 162 yX3_keyOf wsX3_keyOf) := goodIn_app (goodIn_of _ (by decide +kernel)) ggX0_decode_X3_keyOf
set_option maxRecDepth 20000 in
theorem ggX0_decode_X9_indexOrNew : GoodIn wsX0_decode wsX9_indexOrNew := goodIn_ca (goodIn_r _ [34, 35, 36, 37, 38, 39, 40, 41, 42, 33, 43, 84, 85, 86, 87, 88] rfl (by decide +kernel)) (goodIn_sub (fun _ h => List.mem_cons_of_mem _ (List.mem_append_right _ h)) (by decide +kernel))
set_option maxRecDepth 20000 in
theorem gX0_decode_X9_indexOrNew : GoodIn wsX0_decode (wsV RX0 168 RX9 yX9_indexOrNew wsX9_indexOrNew) := goodIn_app (goodIn_of _ (by decide +kernel)) ggX0_decode_X9_indexOrNew
set_option maxRecDepth 20000 in
theorem ggX0_decode_X1_get : GoodIn wsX0_decode wsX1_get := goodIn_ca (goodIn_r _ [48, 49, 89, 90, 91, 92, 93, 94] rfl (by decide +kernel)) (goodIn_sub (fun _ h => List.mem_cons_of_mem _ (List.mem_append_right _ h)) (by decide +kernel))
set_option maxRecDepth 20000 in
theorem gX0_decode_X1_get : GoodIn wsX0_decode (wsV RX0 77 RX1 yX1_get wsX1_get) := goodIn_app (goodIn_of _ (by decide +kernel)) ggX0_decode_X1_get
set_option maxRecDepth 20000 in
theorem ggX0_decode_X0_rateOfBits : GoodIn wsX0_decode wsX0_rateOfBits := goodIn_r _ [53, 54, 55, 56, 57, 58, 59, 60, 61] rfl (by decide +kernel)
set_option maxRecDepth 20000 in
theorem gX0_decode_X0_rateOfBits : GoodIn wsX0_decode (va_wsS RX0 174 yX0_rateOfBits wsX0_rateOfBits) := goodIn_app (goodIn_of _ (by decide +kernel)) ggX0_decode_X0_rateOfBits
set_option maxRecDepth 20000 in
theorem ggX0_decode_X9_add : GoodIn wsX0_decode wsX9_add := goodIn_ca (goodIn_r _ [65, 35, 37, 38, 39, 84, 85, 86, 87, 88] rfl (by decide +kernel)) (goodIn_sub (fun _ h => List.mem_cons_of_mem _ (List.mem_append_right _ h)) (by decide +kernel))
set_option maxRecDepth 20000 in
theorem gX0_decode_X9_add : GoodIn wsX0_decode (wsV RX0 177 RX9 yX9_add wsX9_add) := goodIn_app (goodIn_of _ (by decide +kernel)) ggX0_decode_X9_add
theorem dX0_decode_0 : decode cX0_decode 0 = .ok (.aload_n 0, 1) := by decide +kernel
theorem dX0_decode_1 : decode cX0_decode 1 = .ok (.getfield 36, 3) := by decide +kernel
theorem dX0_decode_4 : decode cX0_decode 4 = .ok (.lconst 0, 1) := by decide +kernel
theorem dX0_decode_5 : decode cX0_decode 5 = .ok (.invokestatic 57, 3) := by decide +kernel
theorem dX0_decode_8 : decode cX0_decode 8 = .ok (.iload_n 2, 1) := by decide +kernel
theorem dX0_decode_9 : decode cX0_decode 9 = .ok (.istore 4, 2) := by decide +kernel
theorem dX0_decode_11 : decode cX0_decode 11 = .ok (.iconst 0, 1) := by decide +kernel
theorem dX0_decode_12 : decode cX0_decode 12 = .ok (.istore 5, 2) := by decide +kernel
theorem dX0_decode_14 : decode cX0_decode 14 = .ok (.iload 5, 2) := by decide +kernel
theorem dX0_decode_16 : decode cX0_decode 16 = .ok (.aload_n 3, 1) := by decide +kernel
theorem dX0_decode_17 : decode cX0_decode 17 = .ok (.getfield 67, 3) := by decide +kernel
theorem dX0_decode_20 : decode cX0_decode 20 = .ok (.if_icmp .ge 59, 3) := by decide +kernel
theorem dX0_decode_23 : decode cX0_decode 23 = .ok (.aload_n 3, 1) := by decide +kernel
theorem dX0_decode_24 : decode cX0_decode 24 = .ok (.iload 5, 2) := by decide +kernel
theorem dX0_decode_26 : decode cX0_decode 26 = .ok (.invokevirtual 152, 3) := by decide +kernel
theorem dX0_decode_29 : decode cX0_decode 29 = .ok (.istore 6, 2) := by decide +kernel
theorem dX0_decode_31 : decode cX0_decode 31 = .ok (.iload 6, 2) := by decide +kernel
theorem dX0_decode_33 : decode cX0_decode 33 = .ok (.ifCond .lt 40, 3) := by decide +kernel
theorem dX0_decode_36 : decode cX0_decode 36 = .ok (.iload 6, 2) := by decide +kernel
theorem dX0_decode_38 : decode cX0_decode 38 = .ok (.bipush 9, 2) := by decide +kernel
theorem dX0_decode_40 : decode cX0_decode 40 = .ok (.if_icmp .ge 33, 3) := by decide +kernel
theorem dX0_decode_43 : decode cX0_decode 43 = .ok (.aload_n 0, 1) := by decide +kernel
theorem dX0_decode_44 : decode cX0_decode 44 = .ok (.getfield 36, 3) := by decide +kernel
theorem dX0_decode_47 : decode cX0_decode 47 = .ok (.iload 6, 2) := by decide +kernel
theorem dX0_decode_49 : decode cX0_decode 49 = .ok (.aload_n 1, 1) := by decide +kernel
theorem dX0_decode_50 : decode cX0_decode 50 = .ok (.iload 4, 2) := by decide +kernel
theorem dX0_decode_52 : decode cX0_decode 52 = .ok (.getstatic 155, 3) := by decide +kernel
theorem dX0_decode_55 : decode cX0_decode 55 = .ok (.iload 6, 2) := by decide +kernel
theorem dX0_decode_57 : decode cX0_decode 57 = .ok (.iaload, 1) := by decide +kernel
theorem dX0_decode_58 : decode cX0_decode 58 = .ok (.invokevirtual 158, 3) := by decide +kernel
theorem dX0_decode_61 : decode cX0_decode 61 = .ok (.lastore, 1) := by decide +kernel
theorem dX0_decode_62 : decode cX0_decode 62 = .ok (.iload 4, 2) := by decide +kernel
theorem dX0_decode_64 : decode cX0_decode 64 = .ok (.getstatic 155, 3) := by decide +kernel
theorem dX0_decode_67 : decode cX0_decode 67 = .ok (.iload 6, 2) := by decide +kernel
theorem dX0_decode_69 : decode cX0_decode 69 = .ok (.iaload, 1) := by decide +kernel
theorem dX0_decode_70 : decode cX0_decode 70 = .ok (.iadd, 1) := by decide +kernel
theorem dX0_decode_71 : decode cX0_decode 71 = .ok (.istore 4, 2) := by decide +kernel
theorem dX0_decode_73 : decode cX0_decode 73 = .ok (.iinc 5 1, 3) := by decide +kernel
theorem dX0_decode_76 : decode cX0_decode 76 = .ok (.goto (-62), 3) := by decide +kernel
theorem dX0_decode_79 : decode cX0_decode 79 = .ok (.aload_n 0, 1) := by decide +kernel
theorem dX0_decode_80 : decode cX0_decode 80 = .ok (.getfield 36, 3) := by decide +kernel
theorem dX0_decode_83 : decode cX0_decode 83 = .ok (.iconst 0, 1) := by decide +kernel
theorem dX0_decode_84 : decode cX0_decode 84 = .ok (.laload, 1) := by decide +kernel
theorem dX0_decode_85 : decode cX0_decode 85 = .ok (.l2i, 1) := by decide +kernel
theorem dX0_decode_86 : decode cX0_decode 86 = .ok (.aload_n 0, 1) := by decide +kernel
theorem dX0_decode_87 : decode cX0_decode 87 = .ok (.getfield 36, 3) := by decide +kernel
theorem dX0_decode_90 : decode cX0_decode 90 = .ok (.iconst 1, 1) := by decide +kernel
theorem dX0_decode_91 : decode cX0_decode 91 = .ok (.laload, 1) := by decide +kernel
theorem dX0_decode_92 : decode cX0_decode 92 = .ok (.l2i, 1) := by decide +kernel
theorem dX0_decode_93 : decode cX0_decode 93 = .ok (.aload_n 0, 1) := by decide +kernel
theorem dX0_decode_94 : decode cX0_decode 94 = .ok (.getfield 36, 3) := by decide +kernel
theorem dX0_decode_97 : decode cX0_decode 97 = .ok (.iconst 2, 1) := by decide +kernel
theorem dX0_decode_98 : decode cX0_decode 98 = .ok (.laload, 1) := by decide +kernel
theorem dX0_decode_99 : decode cX0_decode 99 = .ok (.l2i, 1) := by decide +kernel
theorem dX0_decode_100 : decode cX0_decode 100 = .ok (.aload_n 0, 1) := by decide +kernel
theorem dX0_decode_101 : decode cX0_decode 101 = .ok (.getfield 36, 3) := by decide +kernel
theorem dX0_decode_104 : decode cX0_decode 104 = .ok (.iconst 3, 1) := by decide +kernel
theorem dX0_decode_105 : decode cX0_decode 105 = .ok (.laload, 1) := by decide +kernel
theorem dX0_decode_106 : decode cX0_decode 106 = .ok (.l2i, 1) := by decide +kernel
theorem dX0_decode_107 : decode cX0_decode 107 = .ok (.invokestatic 162, 3) := by decide +kernel
theorem dX0_decode_110 : decode cX0_decode 110 = .ok (.lstore 5, 2) := by decide +kernel
theorem dX0_decode_112 : decode cX0_decode 112 = .ok (.aload_n 0, 1) := by decide +kernel
theorem dX0_decode_113 : decode cX0_decode 113 = .ok (.getfield 53, 3) := by decide +kernel
theorem dX0_decode_116 : decode cX0_decode 116 = .ok (.lload 5, 2) := by decide +kernel
theorem dX0_decode_118 : decode cX0_decode 118 = .ok (.invokevirtual 168, 3) := by decide +kernel
theorem dX0_decode_121 : decode cX0_decode 121 = .ok (.istore 7, 2) := by decide +kernel
theorem dX0_decode_123 : decode cX0_decode 123 = .ok (.iload 7, 2) := by decide +kernel
theorem dX0_decode_125 : decode cX0_decode 125 = .ok (.iconst (-1), 1) := by decide +kernel
theorem dX0_decode_126 : decode cX0_decode 126 = .ok (.if_icmp .ne 15, 3) := by decide +kernel
theorem dX0_decode_129 : decode cX0_decode 129 = .ok (.aload_n 0, 1) := by decide +kernel
theorem dX0_decode_130 : decode cX0_decode 130 = .ok (.getfield 32, 3) := by decide +kernel
theorem dX0_decode_133 : decode cX0_decode 133 = .ok (.bipush 6, 2) := by decide +kernel
theorem dX0_decode_135 : decode cX0_decode 135 = .ok (.dup2, 1) := by decide +kernel
theorem dX0_decode_136 : decode cX0_decode 136 = .ok (.laload, 1) := by decide +kernel
theorem dX0_decode_137 : decode cX0_decode 137 = .ok (.lconst 1, 1) := by decide +kernel
theorem dX0_decode_138 : decode cX0_decode 138 = .ok (.ladd, 1) := by decide +kernel
theorem dX0_decode_139 : decode cX0_decode 139 = .ok (.lastore, 1) := by decide +kernel
theorem dX0_decode_140 : decode cX0_decode 140 = .ok (.return_, 1) := by decide +kernel
theorem dX0_decode_141 : decode cX0_decode 141 = .ok (.aload_n 0, 1) := by decide +kernel
theorem dX0_decode_142 : decode cX0_decode 142 = .ok (.getfield 36, 3) := by decide +kernel
theorem dX0_decode_145 : decode cX0_decode 145 = .ok (.bipush 8, 2) := by decide +kernel
theorem dX0_decode_147 : decode cX0_decode 147 = .ok (.laload, 1) := by decide +kernel
theorem dX0_decode_148 : decode cX0_decode 148 = .ok (.l2i, 1) := by decide +kernel
theorem dX0_decode_149 : decode cX0_decode 149 = .ok (.aload_n 0, 1) := by decide +kernel
theorem dX0_decode_150 : decode cX0_decode 150 = .ok (.getfield 49, 3) := by decide +kernel
theorem dX0_decode_153 : decode cX0_decode 153 = .ok (.bipush 8, 2) := by decide +kernel
theorem dX0_decode_155 : decode cX0_decode 155 = .ok (.invokevirtual 77, 3) := by decide +kernel
theorem dX0_decode_158 : decode cX0_decode 158 = .ok (.invokestatic 174, 3) := by decide +kernel
theorem dX0_decode_161 : decode cX0_decode 161 = .ok (.istore 8, 2) := by decide +kernel
theorem dX0_decode_163 : decode cX0_decode 163 = .ok (.aload_n 0, 1) := by decide +kernel
theorem dX0_decode_164 : decode cX0_decode 164 = .ok (.getfield 53, 3) := by decide +kernel
theorem dX0_decode_167 : decode cX0_decode 167 = .ok (.iload 7, 2) := by decide +kernel
theorem dX0_decode_169 : decode cX0_decode 169 = .ok (.aload_n 0, 1) := by decide +kernel
theorem dX0_decode_170 : decode cX0_decode 170 = .ok (.getfield 36, 3) := by decide +kernel
theorem dX0_decode_173 : decode cX0_decode 173 = .ok (.iconst 4, 1) := by decide +kernel
theorem dX0_decode_174 : decode cX0_decode 174 = .ok (.laload, 1) := by decide +kernel
theorem dX0_decode_175 : decode cX0_decode 175 = .ok (.aload_n 0, 1) := by decide +kernel
theorem dX0_decode_176 : decode cX0_decode 176 = .ok (.getfield 36, 3) := by decide +kernel
theorem dX0_decode_179 : decode cX0_decode 179 = .ok (.iconst 5, 1) := by decide +kernel
theorem dX0_decode_180 : decode cX0_decode 180 = .ok (.laload, 1) := by decide +kernel
theorem dX0_decode_181 : decode cX0_decode 181 = .ok (.iload 8, 2) := by decide +kernel
theorem dX0_decode_183 : decode cX0_decode 183 = .ok (.invokevirtual 177, 3) := by decide +kernel
theorem dX0_decode_186 : decode cX0_decode 186 = .ok (.return_, 1) := by decide +kernel
theorem dX0_rateOfBits_0 : decode cX0_rateOfBits 0 = .ok (.iload_n 0, 1) := by decide +kernel
theorem dX0_rateOfBits_1 : decode cX0_rateOfBits 1 = .ok (.ifCond .le 9, 3) := by decide +kernel
theorem dX0_rateOfBits_4 : decode cX0_rateOfBits 4 = .ok (.iload_n 0, 1) := by decide +kernel
theorem dX0_rateOfBits_5 : decode cX0_rateOfBits 5 = .ok (.ldc 181, 2) := by decide +kernel
theorem dX0_rateOfBits_7 : decode cX0_rateOfBits 7 = .ok (.if_icmp .le 5, 3) := by decide +kernel
theorem dX0_rateOfBits_10 : decode cX0_rateOfBits 10 = .ok (.iload_n 1, 1) := by decide +kernel
theorem dX0_rateOfBits_11 : decode cX0_rateOfBits 11 = .ok (.ireturn, 1) := by decide +kernel
theorem dX0_rateOfBits_12 : decode cX0_rateOfBits 12 = .ok (.iload_n 0, 1) := by decide +kernel
theorem dX0_rateOfBits_13 : decode cX0_rateOfBits 13 = .ok (.bipush 23, 2) := by decide +kernel
theorem dX0_rateOfBits_15 : decode cX0_rateOfBits 15 = .ok (.ishr, 1) := by decide +kernel
theorem dX0_rateOfBits_16 : decode cX0_rateOfBits 16 = .ok (.istore_n 2, 1) := by decide +kernel
theorem dX0_rateOfBits_17 : decode cX0_rateOfBits 17 = .ok (.iload_n 2, 1) := by decide +kernel
theorem dX0_rateOfBits_18 : decode cX0_rateOfBits 18 = .ok (.bipush 117, 2) := by decide +kernel
theorem dX0_rateOfBits_20 : decode cX0_rateOfBits 20 = .ok (.if_icmp .ge 7, 3) := by decide +kernel
theorem dX0_rateOfBits_23 : decode cX0_rateOfBits 23 = .ok (.sipush 1024, 3) := by decide +kernel
theorem dX0_rateOfBits_26 : decode cX0_rateOfBits 26 = .ok (.ireturn, 1) := by decide +kernel
theorem dX0_rateOfBits_27 : decode cX0_rateOfBits 27 = .ok (.iload_n 0, 1) := by decide +kernel
theorem dX0_rateOfBits_28 : decode cX0_rateOfBits 28 = .ok (.ldc 182, 2) := by decide +kernel
theorem dX0_rateOfBits_30 : decode cX0_rateOfBits 30 = .ok (.iand, 1) := by decide +kernel
theorem dX0_rateOfBits_31 : decode cX0_rateOfBits 31 = .ok (.ldc 183, 2) := by decide +kernel
theorem dX0_rateOfBits_33 : decode cX0_rateOfBits 33 = .ok (.ior, 1) := by decide +kernel
theorem dX0_rateOfBits_34 : decode cX0_rateOfBits 34 = .ok (.istore_n 3, 1) := by decide +kernel
theorem dX0_rateOfBits_35 : decode cX0_rateOfBits 35 = .ok (.iload_n 3, 1) := by decide +kernel
theorem dX0_rateOfBits_36 : decode cX0_rateOfBits 36 = .ok (.i2f, 1) := by decide +kernel
theorem dX0_rateOfBits_37 : decode cX0_rateOfBits 37 = .ok (.lconst 1, 1) := by decide +kernel
theorem dX0_rateOfBits_38 : decode cX0_rateOfBits 38 = .ok (.sipush 150, 3) := by decide +kernel
theorem dX0_rateOfBits_41 : decode cX0_rateOfBits 41 = .ok (.iload_n 2, 1) := by decide +kernel
theorem dX0_rateOfBits_42 : decode cX0_rateOfBits 42 = .ok (.isub, 1) := by decide +kernel
theorem dX0_rateOfBits_43 : decode cX0_rateOfBits 43 = .ok (.lshl, 1) := by decide +kernel
theorem dX0_rateOfBits_44 : decode cX0_rateOfBits 44 = .ok (.l2f, 1) := by decide +kernel
theorem dX0_rateOfBits_45 : decode cX0_rateOfBits 45 = .ok (.fdiv, 1) := by decide +kernel
theorem dX0_rateOfBits_46 : decode cX0_rateOfBits 46 = .ok (.fstore 4, 2) := by decide +kernel
theorem dX0_rateOfBits_48 : decode cX0_rateOfBits 48 = .ok (.fload 4, 2) := by decide +kernel
theorem dX0_rateOfBits_50 : decode cX0_rateOfBits 50 = .ok (.fconst 0, 1) := by decide +kernel
theorem dX0_rateOfBits_51 : decode cX0_rateOfBits 51 = .ok (.fcmp .l, 1) := by decide +kernel
theorem dX0_rateOfBits_52 : decode cX0_rateOfBits 52 = .ok (.ifCond .le 20, 3) := by decide +kernel
theorem dX0_rateOfBits_55 : decode cX0_rateOfBits 55 = .ok (.sipush 1024, 3) := by decide +kernel
theorem dX0_rateOfBits_58 : decode cX0_rateOfBits 58 = .ok (.fconst 1, 1) := by decide +kernel
theorem dX0_rateOfBits_59 : decode cX0_rateOfBits 59 = .ok (.fload 4, 2) := by decide +kernel
theorem dX0_rateOfBits_61 : decode cX0_rateOfBits 61 = .ok (.fdiv, 1) := by decide +kernel
theorem dX0_rateOfBits_62 : decode cX0_rateOfBits 62 = .ok (.ldc 184, 2) := by decide +kernel
theorem dX0_rateOfBits_64 : decode cX0_rateOfBits 64 = .ok (.fadd, 1) := by decide +kernel
theorem dX0_rateOfBits_65 : decode cX0_rateOfBits 65 = .ok (.f2i, 1) := by decide +kernel
theorem dX0_rateOfBits_66 : decode cX0_rateOfBits 66 = .ok (.invokestatic 185, 3) := by decide +kernel
theorem dX0_rateOfBits_69 : decode cX0_rateOfBits 69 = .ok (.goto 4, 3) := by decide +kernel
theorem dX0_rateOfBits_72 : decode cX0_rateOfBits 72 = .ok (.iload_n 1, 1) := by decide +kernel
theorem dX0_rateOfBits_73 : decode cX0_rateOfBits 73 = .ok (.ireturn, 1) := by decide +kernel
theorem dX3_keyOf_0 : decode cX3_keyOf 0 = .ok (.iload_n 0, 1) := by decide +kernel
theorem dX3_keyOf_1 : decode cX3_keyOf 1 = .ok (.ifCond .lt 21, 3) := by decide +kernel
theorem dX3_keyOf_4 : decode cX3_keyOf 4 = .ok (.iload_n 0, 1) := by decide +kernel
theorem dX3_keyOf_5 : decode cX3_keyOf 5 = .ok (.sipush 255, 3) := by decide +kernel
theorem dX3_keyOf_8 : decode cX3_keyOf 8 = .ok (.if_icmp .gt 14, 3) := by decide +kernel
theorem dX3_keyOf_11 : decode cX3_keyOf 11 = .ok (.iload_n 1, 1) := by decide +kernel
theorem dX3_keyOf_12 : decode cX3_keyOf 12 = .ok (.ifCond .lt 10, 3) := by decide +kernel
theorem dX3_keyOf_15 : decode cX3_keyOf 15 = .ok (.iload_n 1, 1) := by decide +kernel
theorem dX3_keyOf_16 : decode cX3_keyOf 16 = .ok (.sipush 255, 3) := by decide +kernel
theorem dX3_keyOf_19 : decode cX3_keyOf 19 = .ok (.if_icmp .le 7, 3) := by decide +kernel
theorem dX3_keyOf_22 : decode cX3_keyOf 22 = .ok (.ldc2_w 28, 3) := by decide +kernel
theorem dX3_keyOf_25 : decode cX3_keyOf 25 = .ok (.lreturn, 1) := by decide +kernel
theorem dX3_keyOf_26 : decode cX3_keyOf 26 = .ok (.iload_n 2, 1) := by decide +kernel
theorem dX3_keyOf_27 : decode cX3_keyOf 27 = .ok (.ifCond .lt 20, 3) := by decide +kernel
theorem dX3_keyOf_30 : decode cX3_keyOf 30 = .ok (.iload_n 2, 1) := by decide +kernel
theorem dX3_keyOf_31 : decode cX3_keyOf 31 = .ok (.ldc 30, 2) := by decide +kernel
theorem dX3_keyOf_33 : decode cX3_keyOf 33 = .ok (.if_icmp .gt 14, 3) := by decide +kernel
theorem dX3_keyOf_36 : decode cX3_keyOf 36 = .ok (.iload_n 3, 1) := by decide +kernel
theorem dX3_keyOf_37 : decode cX3_keyOf 37 = .ok (.ifCond .lt 10, 3) := by decide +kernel
theorem dX3_keyOf_40 : decode cX3_keyOf 40 = .ok (.iload_n 3, 1) := by decide +kernel
theorem dX3_keyOf_41 : decode cX3_keyOf 41 = .ok (.sipush 255, 3) := by decide +kernel
theorem dX3_keyOf_44 : decode cX3_keyOf 44 = .ok (.if_icmp .le 7, 3) := by decide +kernel
theorem dX3_keyOf_47 : decode cX3_keyOf 47 = .ok (.ldc2_w 28, 3) := by decide +kernel
theorem dX3_keyOf_50 : decode cX3_keyOf 50 = .ok (.lreturn, 1) := by decide +kernel
theorem dX3_keyOf_51 : decode cX3_keyOf 51 = .ok (.iload_n 0, 1) := by decide +kernel
theorem dX3_keyOf_52 : decode cX3_keyOf 52 = .ok (.i2l, 1) := by decide +kernel
theorem dX3_keyOf_53 : decode cX3_keyOf 53 = .ok (.bipush 32, 2) := by decide +kernel
theorem dX3_keyOf_55 : decode cX3_keyOf 55 = .ok (.lshl, 1) := by decide +kernel
theorem dX3_keyOf_56 : decode cX3_keyOf 56 = .ok (.iload_n 1, 1) := by decide +kernel
theorem dX3_keyOf_57 : decode cX3_keyOf 57 = .ok (.i2l, 1) := by decide +kernel
theorem dX3_keyOf_58 : decode cX3_keyOf 58 = .ok (.bipush 24, 2) := by decide +kernel
theorem dX3_keyOf_60 : decode cX3_keyOf 60 = .ok (.lshl, 1) := by decide +kernel
theorem dX3_keyOf_61 : decode cX3_keyOf 61 = .ok (.lor, 1) := by decide +kernel
theorem dX3_keyOf_62 : decode cX3_keyOf 62 = .ok (.iload_n 2, 1) := by decide +kernel
theorem dX3_keyOf_63 : decode cX3_keyOf 63 = .ok (.i2l, 1) := by decide +kernel
theorem dX3_keyOf_64 : decode cX3_keyOf 64 = .ok (.bipush 8, 2) := by decide +kernel
theorem dX3_keyOf_66 : decode cX3_keyOf 66 = .ok (.lshl, 1) := by decide +kernel
theorem dX3_keyOf_67 : decode cX3_keyOf 67 = .ok (.lor, 1) := by decide +kernel
theorem dX3_keyOf_68 : decode cX3_keyOf 68 = .ok (.iload_n 3, 1) := by decide +kernel
theorem dX3_keyOf_69 : decode cX3_keyOf 69 = .ok (.i2l, 1) := by decide +kernel
theorem dX3_keyOf_70 : decode cX3_keyOf 70 = .ok (.lor, 1) := by decide +kernel
theorem dX3_keyOf_71 : decode cX3_keyOf 71 = .ok (.lreturn, 1) := by decide +kernel

set_option maxRecDepth 20000 in
theorem ggX12_keyOf_X12_isSame : GoodIn wsX12_keyOf wsX12_isSame := goodIn_ca (goodIn_r _ [6] (by decide +kernel) (by decide +kernel)) (goodIn_sub (fun _ h => List.mem_cons_of_mem _ (List.mem_append_right _ h)) (by decide +kernel))
set_option maxRecDepth 20000 in
theorem gX12_keyOf_X12_isSame : GoodIn wsX12_keyOf (va_wsS RX12 386 yX12_isSame wsX12_isSame) := goodIn_app (goodIn_of _ (by decide +kernel)) ggX12_keyOf_X12_isSame
theorem dX12_keyOf_0 : decode cX12_keyOf 0 = .ok (.iconst 0, 1) := by decide +kernel
theorem dX12_keyOf_1 : decode cX12_keyOf 1 = .ok (.istore 9, 2) := by decide +kernel
theorem dX12_keyOf_3 : decode cX12_keyOf 3 = .ok (.iload 9, 2) := by decide +kernel
theorem dX12_keyOf_5 : decode cX12_keyOf 5 = .ok (.aload_n 0, 1) := by decide +kernel
theorem dX12_keyOf_6 : decode cX12_keyOf 6 = .ok (.getfield 148, 3) := by decide +kernel
theorem dX12_keyOf_9 : decode cX12_keyOf 9 = .ok (.if_icmp .ge 30, 3) := by decide +kernel
theorem dX12_keyOf_12 : decode cX12_keyOf 12 = .ok (.aload_n 0, 1) := by decide +kernel
theorem dX12_keyOf_13 : decode cX12_keyOf 13 = .ok (.getfield 69, 3) := by decide +kernel
theorem dX12_keyOf_16 : decode cX12_keyOf 16 = .ok (.iload 9, 2) := by decide +kernel
theorem dX12_keyOf_18 : decode cX12_keyOf 18 = .ok (.lload_n 1, 1) := by decide +kernel
theorem dX12_keyOf_19 : decode cX12_keyOf 19 = .ok (.lload_n 3, 1) := by decide +kernel
theorem dX12_keyOf_20 : decode cX12_keyOf 20 = .ok (.lload 5, 2) := by decide +kernel
theorem dX12_keyOf_22 : decode cX12_keyOf 22 = .ok (.lload 7, 2) := by decide +kernel
theorem dX12_keyOf_24 : decode cX12_keyOf 24 = .ok (.invokestatic 386, 3) := by decide +kernel
theorem dX12_keyOf_27 : decode cX12_keyOf 27 = .ok (.ifCond .eq 6, 3) := by decide +kernel
theorem dX12_keyOf_30 : decode cX12_keyOf 30 = .ok (.iload 9, 2) := by decide +kernel
theorem dX12_keyOf_32 : decode cX12_keyOf 32 = .ok (.ireturn, 1) := by decide +kernel
theorem dX12_keyOf_33 : decode cX12_keyOf 33 = .ok (.iinc 9 1, 3) := by decide +kernel
theorem dX12_keyOf_36 : decode cX12_keyOf 36 = .ok (.goto (-33), 3) := by decide +kernel
theorem dX12_keyOf_39 : decode cX12_keyOf 39 = .ok (.iconst (-1), 1) := by decide +kernel
theorem dX12_keyOf_40 : decode cX12_keyOf 40 = .ok (.ireturn, 1) := by decide +kernel
set_option maxRecDepth 20000 in
theorem ggX12_trueKeyOf_X12_isSame : GoodIn wsX12_trueKeyOf wsX12_isSame := goodIn_ca (goodIn_r _ [6] (by decide +kernel) (by decide +kernel)) (goodIn_sub (fun _ h => List.mem_cons_of_mem _ (List.mem_append_right _ h)) (by decide +kernel))
set_option maxRecDepth 20000 in
theorem gX12_trueKeyOf_X12_isSame : GoodIn wsX12_trueKeyOf (va_wsS RX12 386 yX12_isSame wsX12_isSame) := goodIn_app (goodIn_of _ (by decide +kernel)) ggX12_trueKeyOf_X12_isSame
theorem dX12_trueKeyOf_0 : decode cX12_trueKeyOf 0 = .ok (.iconst 0, 1) := by decide +kernel
theorem dX12_trueKeyOf_1 : decode cX12_trueKeyOf 1 = .ok (.istore 5, 2) := by decide +kernel
theorem dX12_trueKeyOf_3 : decode cX12_trueKeyOf 3 = .ok (.iload 5, 2) := by decide +kernel
theorem dX12_trueKeyOf_5 : decode cX12_trueKeyOf 5 = .ok (.aload_n 0, 1) := by decide +kernel
theorem dX12_trueKeyOf_6 : decode cX12_trueKeyOf 6 = .ok (.getfield 145, 3) := by decide +kernel
theorem dX12_trueKeyOf_9 : decode cX12_trueKeyOf 9 = .ok (.if_icmp .ge 33, 3) := by decide +kernel
theorem dX12_trueKeyOf_12 : decode cX12_trueKeyOf 12 = .ok (.aload_n 0, 1) := by decide +kernel
theorem dX12_trueKeyOf_13 : decode cX12_trueKeyOf 13 = .ok (.getfield 82, 3) := by decide +kernel
theorem dX12_trueKeyOf_16 : decode cX12_trueKeyOf 16 = .ok (.iload 5, 2) := by decide +kernel
theorem dX12_trueKeyOf_18 : decode cX12_trueKeyOf 18 = .ok (.iload_n 1, 1) := by decide +kernel
theorem dX12_trueKeyOf_19 : decode cX12_trueKeyOf 19 = .ok (.i2l, 1) := by decide +kernel
theorem dX12_trueKeyOf_20 : decode cX12_trueKeyOf 20 = .ok (.iload_n 2, 1) := by decide +kernel
theorem dX12_trueKeyOf_21 : decode cX12_trueKeyOf 21 = .ok (.i2l, 1) := by decide +kernel
theorem dX12_trueKeyOf_22 : decode cX12_trueKeyOf 22 = .ok (.iload_n 3, 1) := by decide +kernel
theorem dX12_trueKeyOf_23 : decode cX12_trueKeyOf 23 = .ok (.i2l, 1) := by decide +kernel
theorem dX12_trueKeyOf_24 : decode cX12_trueKeyOf 24 = .ok (.iload 4, 2) := by decide +kernel
theorem dX12_trueKeyOf_26 : decode cX12_trueKeyOf 26 = .ok (.i2l, 1) := by decide +kernel
theorem dX12_trueKeyOf_27 : decode cX12_trueKeyOf 27 = .ok (.invokestatic 386, 3) := by decide +kernel
theorem dX12_trueKeyOf_30 : decode cX12_trueKeyOf 30 = .ok (.ifCond .eq 6, 3) := by decide +kernel
theorem dX12_trueKeyOf_33 : decode cX12_trueKeyOf 33 = .ok (.iload 5, 2) := by decide +kernel
theorem dX12_trueKeyOf_35 : decode cX12_trueKeyOf 35 = .ok (.ireturn, 1) := by decide +kernel
theorem dX12_trueKeyOf_36 : decode cX12_trueKeyOf 36 = .ok (.iinc 5 1, 3) := by decide +kernel
theorem dX12_trueKeyOf_39 : decode cX12_trueKeyOf 39 = .ok (.goto (-36), 3) := by decide +kernel
theorem dX12_trueKeyOf_42 : decode cX12_trueKeyOf 42 = .ok (.iconst (-1), 1) := by decide +kernel
theorem dX12_trueKeyOf_43 : decode cX12_trueKeyOf 43 = .ok (.ireturn, 1) := by decide +kernel
set_option maxRecDepth 20000 in
theorem ggX12_remember_X12_trueKeyOf : GoodIn wsX12_remember wsX12_trueKeyOf := goodIn_ca (goodIn_r _ [8, 1, 2, 9, 10, 7, 11, 12, 13, 14, 15, 16, 17, 18, 19, 20, 21, 22, 23, 24, 25, 26, 27, 28, 29, 30, 31, 32, 33, 34, 35, 36, 37, 38, 39, 40, 41, 42, 43, 44, 45, 46, 47, 48, 49, 50, 51, 52, 53, 54, 55, 56, 57, 58, 59, 60, 61, 62, 63, 64, 65] (by decide +kernel) (by decide +kernel)) (goodIn_sub (fun _ h => List.mem_cons_of_mem _ (List.mem_append_right _ h)) (by decide +kernel))
set_option maxRecDepth 20000 in
theorem gX12_remember_X12_trueKeyOf : GoodIn wsX12_remember (wsV RX12 434 RX12 yX12_trueKeyOf wsX12_trueKeyOf) := goodIn_app (goodIn_of _ (by decide +kernel)) ggX12_remember_X12_trueKeyOf
theorem dX12_remember_0 : decode cX12_remember 0 = .ok (.aload_n 0, 1) := by decide +kernel
theorem dX12_remember_1 : decode cX12_remember 1 = .ok (.iload_n 1, 1) := by decide +kernel
theorem dX12_remember_2 : decode cX12_remember 2 = .ok (.iload_n 2, 1) := by decide +kernel
theorem dX12_remember_3 : decode cX12_remember 3 = .ok (.iload_n 3, 1) := by decide +kernel
theorem dX12_remember_4 : decode cX12_remember 4 = .ok (.iload 4, 2) := by decide +kernel
theorem dX12_remember_6 : decode cX12_remember 6 = .ok (.invokevirtual 434, 3) := by decide +kernel
theorem dX12_remember_9 : decode cX12_remember 9 = .ok (.istore 6, 2) := by decide +kernel
theorem dX12_remember_11 : decode cX12_remember 11 = .ok (.iload 6, 2) := by decide +kernel
theorem dX12_remember_13 : decode cX12_remember 13 = .ok (.iconst (-1), 1) := by decide +kernel
theorem dX12_remember_14 : decode cX12_remember 14 = .ok (.if_icmp .ne 13, 3) := by decide +kernel
theorem dX12_remember_17 : decode cX12_remember 17 = .ok (.aload_n 0, 1) := by decide +kernel
theorem dX12_remember_18 : decode cX12_remember 18 = .ok (.getfield 145, 3) := by decide +kernel
theorem dX12_remember_21 : decode cX12_remember 21 = .ok (.bipush 24, 2) := by decide +kernel
theorem dX12_remember_23 : decode cX12_remember 23 = .ok (.if_icmp .ne 4, 3) := by decide +kernel
theorem dX12_remember_26 : decode cX12_remember 26 = .ok (.return_, 1) := by decide +kernel
theorem dX12_remember_27 : decode cX12_remember 27 = .ok (.iload 6, 2) := by decide +kernel
theorem dX12_remember_29 : decode cX12_remember 29 = .ok (.iconst (-1), 1) := by decide +kernel
theorem dX12_remember_30 : decode cX12_remember 30 = .ok (.if_icmp .ne 88, 3) := by decide +kernel
theorem dX12_remember_33 : decode cX12_remember 33 = .ok (.aload_n 0, 1) := by decide +kernel
theorem dX12_remember_34 : decode cX12_remember 34 = .ok (.getfield 145, 3) := by decide +kernel
theorem dX12_remember_37 : decode cX12_remember 37 = .ok (.istore 6, 2) := by decide +kernel
theorem dX12_remember_39 : decode cX12_remember 39 = .ok (.aload_n 0, 1) := by decide +kernel
theorem dX12_remember_40 : decode cX12_remember 40 = .ok (.dup, 1) := by decide +kernel
theorem dX12_remember_41 : decode cX12_remember 41 = .ok (.getfield 145, 3) := by decide +kernel
theorem dX12_remember_44 : decode cX12_remember 44 = .ok (.iconst 1, 1) := by decide +kernel
theorem dX12_remember_45 : decode cX12_remember 45 = .ok (.iadd, 1) := by decide +kernel
theorem dX12_remember_46 : decode cX12_remember 46 = .ok (.putfield 145, 3) := by decide +kernel
theorem dX12_remember_49 : decode cX12_remember 49 = .ok (.aload_n 0, 1) := by decide +kernel
theorem dX12_remember_50 : decode cX12_remember 50 = .ok (.getfield 82, 3) := by decide +kernel
theorem dX12_remember_53 : decode cX12_remember 53 = .ok (.iconst 4, 1) := by decide +kernel
theorem dX12_remember_54 : decode cX12_remember 54 = .ok (.iload 6, 2) := by decide +kernel
theorem dX12_remember_56 : decode cX12_remember 56 = .ok (.imul, 1) := by decide +kernel
theorem dX12_remember_57 : decode cX12_remember 57 = .ok (.iload_n 1, 1) := by decide +kernel
theorem dX12_remember_58 : decode cX12_remember 58 = .ok (.iastore, 1) := by decide +kernel
theorem dX12_remember_59 : decode cX12_remember 59 = .ok (.aload_n 0, 1) := by decide +kernel
theorem dX12_remember_60 : decode cX12_remember 60 = .ok (.getfield 82, 3) := by decide +kernel
theorem dX12_remember_63 : decode cX12_remember 63 = .ok (.iconst 4, 1) := by decide +kernel
theorem dX12_remember_64 : decode cX12_remember 64 = .ok (.iload 6, 2) := by decide +kernel
theorem dX12_remember_66 : decode cX12_remember 66 = .ok (.imul, 1) := by decide +kernel
theorem dX12_remember_67 : decode cX12_remember 67 = .ok (.iconst 1, 1) := by decide +kernel
theorem dX12_remember_68 : decode cX12_remember 68 = .ok (.iadd, 1) := by decide +kernel
theorem dX12_remember_69 : decode cX12_remember 69 = .ok (.iload_n 2, 1) := by decide +kernel
theorem dX12_remember_70 : decode cX12_remember 70 = .ok (.iastore, 1) := by decide +kernel
theorem dX12_remember_71 : decode cX12_remember 71 = .ok (.aload_n 0, 1) := by decide +kernel
theorem dX12_remember_72 : decode cX12_remember 72 = .ok (.getfield 82, 3) := by decide +kernel
theorem dX12_remember_75 : decode cX12_remember 75 = .ok (.iconst 4, 1) := by decide +kernel
theorem dX12_remember_76 : decode cX12_remember 76 = .ok (.iload 6, 2) := by decide +kernel
theorem dX12_remember_78 : decode cX12_remember 78 = .ok (.imul, 1) := by decide +kernel
theorem dX12_remember_79 : decode cX12_remember 79 = .ok (.iconst 2, 1) := by decide +kernel
theorem dX12_remember_80 : decode cX12_remember 80 = .ok (.iadd, 1) := by decide +kernel
theorem dX12_remember_81 : decode cX12_remember 81 = .ok (.iload_n 3, 1) := by decide +kernel
theorem dX12_remember_82 : decode cX12_remember 82 = .ok (.iastore, 1) := by decide +kernel
theorem dX12_remember_83 : decode cX12_remember 83 = .ok (.aload_n 0, 1) := by decide +kernel
theorem dX12_remember_84 : decode cX12_remember 84 = .ok (.getfield 82, 3) := by decide +kernel
theorem dX12_remember_87 : decode cX12_remember 87 = .ok (.iconst 4, 1) := by decide +kernel
theorem dX12_remember_88 : decode cX12_remember 88 = .ok (.iload 6, 2) := by decide +kernel
theorem dX12_remember_90 : decode cX12_remember 90 = .ok (.imul, 1) := by decide +kernel
theorem dX12_remember_91 : decode cX12_remember 91 = .ok (.iconst 3, 1) := by decide +kernel
theorem dX12_remember_92 : decode cX12_remember 92 = .ok (.iadd, 1) := by decide +kernel
theorem dX12_remember_93 : decode cX12_remember 93 = .ok (.iload 4, 2) := by decide +kernel
theorem dX12_remember_95 : decode cX12_remember 95 = .ok (.iastore, 1) := by decide +kernel
theorem dX12_remember_96 : decode cX12_remember 96 = .ok (.aload_n 0, 1) := by decide +kernel
theorem dX12_remember_97 : decode cX12_remember 97 = .ok (.getfield 85, 3) := by decide +kernel
theorem dX12_remember_100 : decode cX12_remember 100 = .ok (.iconst 2, 1) := by decide +kernel
theorem dX12_remember_101 : decode cX12_remember 101 = .ok (.iload 6, 2) := by decide +kernel
theorem dX12_remember_103 : decode cX12_remember 103 = .ok (.imul, 1) := by decide +kernel
theorem dX12_remember_104 : decode cX12_remember 104 = .ok (.lconst 0, 1) := by decide +kernel
theorem dX12_remember_105 : decode cX12_remember 105 = .ok (.lastore, 1) := by decide +kernel
theorem dX12_remember_106 : decode cX12_remember 106 = .ok (.aload_n 0, 1) := by decide +kernel
theorem dX12_remember_107 : decode cX12_remember 107 = .ok (.getfield 85, 3) := by decide +kernel
theorem dX12_remember_110 : decode cX12_remember 110 = .ok (.iconst 2, 1) := by decide +kernel
theorem dX12_remember_111 : decode cX12_remember 111 = .ok (.iload 6, 2) := by decide +kernel
theorem dX12_remember_113 : decode cX12_remember 113 = .ok (.imul, 1) := by decide +kernel
theorem dX12_remember_114 : decode cX12_remember 114 = .ok (.iconst 1, 1) := by decide +kernel
theorem dX12_remember_115 : decode cX12_remember 115 = .ok (.iadd, 1) := by decide +kernel
theorem dX12_remember_116 : decode cX12_remember 116 = .ok (.lconst 0, 1) := by decide +kernel
theorem dX12_remember_117 : decode cX12_remember 117 = .ok (.lastore, 1) := by decide +kernel
theorem dX12_remember_118 : decode cX12_remember 118 = .ok (.aload_n 0, 1) := by decide +kernel
theorem dX12_remember_119 : decode cX12_remember 119 = .ok (.getfield 85, 3) := by decide +kernel
theorem dX12_remember_122 : decode cX12_remember 122 = .ok (.iconst 2, 1) := by decide +kernel
theorem dX12_remember_123 : decode cX12_remember 123 = .ok (.iload 6, 2) := by decide +kernel
theorem dX12_remember_125 : decode cX12_remember 125 = .ok (.imul, 1) := by decide +kernel
theorem dX12_remember_126 : decode cX12_remember 126 = .ok (.dup2, 1) := by decide +kernel
theorem dX12_remember_127 : decode cX12_remember 127 = .ok (.laload, 1) := by decide +kernel
theorem dX12_remember_128 : decode cX12_remember 128 = .ok (.lconst 1, 1) := by decide +kernel
theorem dX12_remember_129 : decode cX12_remember 129 = .ok (.ladd, 1) := by decide +kernel
theorem dX12_remember_130 : decode cX12_remember 130 = .ok (.lastore, 1) := by decide +kernel
theorem dX12_remember_131 : decode cX12_remember 131 = .ok (.aload_n 0, 1) := by decide +kernel
theorem dX12_remember_132 : decode cX12_remember 132 = .ok (.getfield 85, 3) := by decide +kernel
theorem dX12_remember_135 : decode cX12_remember 135 = .ok (.iconst 2, 1) := by decide +kernel
theorem dX12_remember_136 : decode cX12_remember 136 = .ok (.iload 6, 2) := by decide +kernel
theorem dX12_remember_138 : decode cX12_remember 138 = .ok (.imul, 1) := by decide +kernel
theorem dX12_remember_139 : decode cX12_remember 139 = .ok (.iconst 1, 1) := by decide +kernel
theorem dX12_remember_140 : decode cX12_remember 140 = .ok (.iadd, 1) := by decide +kernel
theorem dX12_remember_141 : decode cX12_remember 141 = .ok (.dup2, 1) := by decide +kernel
theorem dX12_remember_142 : decode cX12_remember 142 = .ok (.laload, 1) := by decide +kernel
theorem dX12_remember_143 : decode cX12_remember 143 = .ok (.iload 5, 2) := by decide +kernel
theorem dX12_remember_145 : decode cX12_remember 145 = .ok (.i2l, 1) := by decide +kernel
theorem dX12_remember_146 : decode cX12_remember 146 = .ok (.ladd, 1) := by decide +kernel
theorem dX12_remember_147 : decode cX12_remember 147 = .ok (.lastore, 1) := by decide +kernel
theorem dX12_remember_148 : decode cX12_remember 148 = .ok (.return_, 1) := by decide +kernel

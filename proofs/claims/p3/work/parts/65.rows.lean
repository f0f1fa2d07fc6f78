set_option maxRecDepth 20000 in
theorem ggX12_key_X12_isKey : GoodIn wsX12_key wsX12_isKey := goodIn_r _ [8, 9, 10, 11, 7, 12, 17, 18, 19, 20, 21, 22, 23, 24, 25, 26, 27, 28, 29, 30, 31, 32, 33, 34, 35, 36, 37, 38, 39, 40, 41, 42, 43, 44, 45, 46, 47, 48, 49, 50, 51, 52, 53, 54, 55, 56, 57, 58, 59, 60, 61, 62, 63, 64, 65, 66, 67, 68, 69, 70] rfl (by decide +kernel)
set_option maxRecDepth 20000 in
theorem gX12_key_X12_isKey : GoodIn wsX12_key (wsV RX12 394 RX12 yX12_isKey wsX12_isKey) := goodIn_app (goodIn_of _ (by decide +kernel)) ggX12_key_X12_isKey
set_option maxRecDepth 20000 in
theorem ggX12_key_X12_throwsIf : GoodIn wsX12_key wsX12_throwsIf := goodIn_r _ [16, 1, 17, 18, 19, 20, 21, 22, 23, 24, 25, 26, 27, 28, 29, 30, 31, 32, 33, 34, 35, 36, 37, 38, 39, 40, 41, 42, 43, 44, 45, 46, 47, 48, 49, 50, 51, 52, 53, 54, 55, 56, 57, 58, 59, 60, 61, 62, 63, 64, 65, 66, 67, 68, 69, 70] rfl (by decide +kernel)
set_option maxRecDepth 20000 in
theorem gX12_key_X12_throwsIf : GoodIn wsX12_key (wsV RX12 185 RX12 yX12_throwsIf wsX12_throwsIf) := goodIn_app (goodIn_of _ (by decide +kernel)) ggX12_key_X12_throwsIf
set_option maxRecDepth 20000 in
theorem ggX12_key_X12_inRange : GoodIn wsX12_key wsX12_inRange := goodIn_r _ [12] rfl (by decide +kernel)
set_option maxRecDepth 20000 in
theorem gX12_key_X12_inRange : GoodIn wsX12_key (va_wsS RX12 169 yX12_inRange wsX12_inRange) := goodIn_app (goodIn_of _ (by decide +kernel)) ggX12_key_X12_inRange
theorem dX12_key_0 : decode cX12_key 0 = .ok (.aload_n 0, 1) := by decide +kernel
theorem dX12_key_1 : decode cX12_key 1 = .ok (.iconst 0, 1) := by decide +kernel
theorem dX12_key_2 : decode cX12_key 2 = .ok (.putfield 1, 3) := by decide +kernel
theorem dX12_key_5 : decode cX12_key 5 = .ok (.aload_n 0, 1) := by decide +kernel
theorem dX12_key_6 : decode cX12_key 6 = .ok (.aload_n 0, 1) := by decide +kernel
theorem dX12_key_7 : decode cX12_key 7 = .ok (.iload_n 1, 1) := by decide +kernel
theorem dX12_key_8 : decode cX12_key 8 = .ok (.invokevirtual 394, 3) := by decide +kernel
theorem dX12_key_11 : decode cX12_key 11 = .ok (.ifCond .ne 7, 3) := by decide +kernel
theorem dX12_key_14 : decode cX12_key 14 = .ok (.iconst 1, 1) := by decide +kernel
theorem dX12_key_15 : decode cX12_key 15 = .ok (.goto 4, 3) := by decide +kernel
theorem dX12_key_18 : decode cX12_key 18 = .ok (.iconst 0, 1) := by decide +kernel
theorem dX12_key_19 : decode cX12_key 19 = .ok (.iconst 1, 1) := by decide +kernel
theorem dX12_key_20 : decode cX12_key 20 = .ok (.invokevirtual 185, 3) := by decide +kernel
theorem dX12_key_23 : decode cX12_key 23 = .ok (.ifCond .ne 28, 3) := by decide +kernel
theorem dX12_key_26 : decode cX12_key 26 = .ok (.aload_n 0, 1) := by decide +kernel
theorem dX12_key_27 : decode cX12_key 27 = .ok (.iload_n 2, 1) := by decide +kernel
theorem dX12_key_28 : decode cX12_key 28 = .ok (.i2l, 1) := by decide +kernel
theorem dX12_key_29 : decode cX12_key 29 = .ok (.lconst 0, 1) := by decide +kernel
theorem dX12_key_30 : decode cX12_key 30 = .ok (.ldc2_w 337, 3) := by decide +kernel
theorem dX12_key_33 : decode cX12_key 33 = .ok (.invokestatic 169, 3) := by decide +kernel
theorem dX12_key_36 : decode cX12_key 36 = .ok (.ifCond .ne 7, 3) := by decide +kernel
theorem dX12_key_39 : decode cX12_key 39 = .ok (.iconst 1, 1) := by decide +kernel
theorem dX12_key_40 : decode cX12_key 40 = .ok (.goto 4, 3) := by decide +kernel
theorem dX12_key_43 : decode cX12_key 43 = .ok (.iconst 0, 1) := by decide +kernel
theorem dX12_key_44 : decode cX12_key 44 = .ok (.iconst 2, 1) := by decide +kernel
theorem dX12_key_45 : decode cX12_key 45 = .ok (.invokevirtual 185, 3) := by decide +kernel
theorem dX12_key_48 : decode cX12_key 48 = .ok (.ifCond .eq 7, 3) := by decide +kernel
theorem dX12_key_51 : decode cX12_key 51 = .ok (.iconst 0, 1) := by decide +kernel
theorem dX12_key_52 : decode cX12_key 52 = .ok (.goto 13, 3) := by decide +kernel
theorem dX12_key_55 : decode cX12_key 55 = .ok (.aload_n 0, 1) := by decide +kernel
theorem dX12_key_56 : decode cX12_key 56 = .ok (.getfield 69, 3) := by decide +kernel
theorem dX12_key_59 : decode cX12_key 59 = .ok (.iconst 4, 1) := by decide +kernel
theorem dX12_key_60 : decode cX12_key 60 = .ok (.iload_n 1, 1) := by decide +kernel
theorem dX12_key_61 : decode cX12_key 61 = .ok (.imul, 1) := by decide +kernel
theorem dX12_key_62 : decode cX12_key 62 = .ok (.iload_n 2, 1) := by decide +kernel
theorem dX12_key_63 : decode cX12_key 63 = .ok (.iadd, 1) := by decide +kernel
theorem dX12_key_64 : decode cX12_key 64 = .ok (.iaload, 1) := by decide +kernel
theorem dX12_key_65 : decode cX12_key 65 = .ok (.ireturn, 1) := by decide +kernel
set_option maxRecDepth 20000 in
theorem ggX12_root_Jxe99ae_doubleToLongBits_ccdee : GoodIn wsX12_root wsJxe99ae_doubleToLongBits_ccdee := goodIn_r _ [13, 14, 15, 16, 9, 17, 18, 19, 12, 20] rfl (by decide +kernel)
set_option maxRecDepth 20000 in
theorem gX12_root_Jxe99ae_doubleToLongBits_ccdee : GoodIn wsX12_root (va_wsS RX12 400 yJxe99ae_doubleToLongBits_ccdee wsJxe99ae_doubleToLongBits_ccdee) := goodIn_app (goodIn_of _ (by decide +kernel)) ggX12_root_Jxe99ae_doubleToLongBits_ccdee
theorem dX12_root_0 : decode cX12_root 0 = .ok (.dload_n 0, 1) := by decide +kernel
theorem dX12_root_1 : decode cX12_root 1 = .ok (.dconst 0, 1) := by decide +kernel
theorem dX12_root_2 : decode cX12_root 2 = .ok (.dcmp .l, 1) := by decide +kernel
theorem dX12_root_3 : decode cX12_root 3 = .ok (.ifCond .ne 5, 3) := by decide +kernel
theorem dX12_root_6 : decode cX12_root 6 = .ok (.dconst 0, 1) := by decide +kernel
theorem dX12_root_7 : decode cX12_root 7 = .ok (.dreturn, 1) := by decide +kernel
theorem dX12_root_8 : decode cX12_root 8 = .ok (.dload_n 0, 1) := by decide +kernel
theorem dX12_root_9 : decode cX12_root 9 = .ok (.invokestatic 400, 3) := by decide +kernel
theorem dX12_root_12 : decode cX12_root 12 = .ok (.lstore_n 2, 1) := by decide +kernel
theorem dX12_root_13 : decode cX12_root 13 = .ok (.lload_n 2, 1) := by decide +kernel
theorem dX12_root_14 : decode cX12_root 14 = .ok (.bipush 52, 2) := by decide +kernel
theorem dX12_root_16 : decode cX12_root 16 = .ok (.lshr, 1) := by decide +kernel
theorem dX12_root_17 : decode cX12_root 17 = .ok (.l2i, 1) := by decide +kernel
theorem dX12_root_18 : decode cX12_root 18 = .ok (.sipush 1075, 3) := by decide +kernel
theorem dX12_root_21 : decode cX12_root 21 = .ok (.isub, 1) := by decide +kernel
theorem dX12_root_22 : decode cX12_root 22 = .ok (.istore 4, 2) := by decide +kernel
theorem dX12_root_24 : decode cX12_root 24 = .ok (.lload_n 2, 1) := by decide +kernel
theorem dX12_root_25 : decode cX12_root 25 = .ok (.ldc2_w 406, 3) := by decide +kernel
theorem dX12_root_28 : decode cX12_root 28 = .ok (.land, 1) := by decide +kernel
theorem dX12_root_29 : decode cX12_root 29 = .ok (.ldc2_w 408, 3) := by decide +kernel
theorem dX12_root_32 : decode cX12_root 32 = .ok (.lor, 1) := by decide +kernel
theorem dX12_root_33 : decode cX12_root 33 = .ok (.lstore 5, 2) := by decide +kernel
theorem dX12_root_35 : decode cX12_root 35 = .ok (.iload 4, 2) := by decide +kernel
theorem dX12_root_37 : decode cX12_root 37 = .ok (.iconst 1, 1) := by decide +kernel
theorem dX12_root_38 : decode cX12_root 38 = .ok (.iand, 1) := by decide +kernel
theorem dX12_root_39 : decode cX12_root 39 = .ok (.iconst 1, 1) := by decide +kernel
theorem dX12_root_40 : decode cX12_root 40 = .ok (.if_icmp .ne 14, 3) := by decide +kernel
theorem dX12_root_43 : decode cX12_root 43 = .ok (.lload 5, 2) := by decide +kernel
theorem dX12_root_45 : decode cX12_root 45 = .ok (.ldc2_w 410, 3) := by decide +kernel
theorem dX12_root_48 : decode cX12_root 48 = .ok (.lmul, 1) := by decide +kernel
theorem dX12_root_49 : decode cX12_root 49 = .ok (.lstore 5, 2) := by decide +kernel
theorem dX12_root_51 : decode cX12_root 51 = .ok (.iinc 4 (-1), 3) := by decide +kernel
theorem dX12_root_54 : decode cX12_root 54 = .ok (.lconst 0, 1) := by decide +kernel
theorem dX12_root_55 : decode cX12_root 55 = .ok (.lstore 7, 2) := by decide +kernel
theorem dX12_root_57 : decode cX12_root 57 = .ok (.lconst 0, 1) := by decide +kernel
theorem dX12_root_58 : decode cX12_root 58 = .ok (.lstore 9, 2) := by decide +kernel
theorem dX12_root_60 : decode cX12_root 60 = .ok (.bipush 26, 2) := by decide +kernel
theorem dX12_root_62 : decode cX12_root 62 = .ok (.istore 11, 2) := by decide +kernel
theorem dX12_root_64 : decode cX12_root 64 = .ok (.iload 11, 2) := by decide +kernel
theorem dX12_root_66 : decode cX12_root 66 = .ok (.bipush (-27), 2) := by decide +kernel
theorem dX12_root_68 : decode cX12_root 68 = .ok (.if_icmp .lt 82, 3) := by decide +kernel
theorem dX12_root_71 : decode cX12_root 71 = .ok (.ldc2_w 412, 3) := by decide +kernel
theorem dX12_root_74 : decode cX12_root 74 = .ok (.lload 9, 2) := by decide +kernel
theorem dX12_root_76 : decode cX12_root 76 = .ok (.lmul, 1) := by decide +kernel
theorem dX12_root_77 : decode cX12_root 77 = .ok (.iload 11, 2) := by decide +kernel
theorem dX12_root_79 : decode cX12_root 79 = .ok (.ifCond .ge 7, 3) := by decide +kernel
theorem dX12_root_82 : decode cX12_root 82 = .ok (.lconst 0, 1) := by decide +kernel
theorem dX12_root_83 : decode cX12_root 83 = .ok (.goto 14, 3) := by decide +kernel
theorem dX12_root_86 : decode cX12_root 86 = .ok (.lload 5, 2) := by decide +kernel
theorem dX12_root_88 : decode cX12_root 88 = .ok (.iconst 2, 1) := by decide +kernel
theorem dX12_root_89 : decode cX12_root 89 = .ok (.iload 11, 2) := by decide +kernel
theorem dX12_root_91 : decode cX12_root 91 = .ok (.imul, 1) := by decide +kernel
theorem dX12_root_92 : decode cX12_root 92 = .ok (.lshr, 1) := by decide +kernel
theorem dX12_root_93 : decode cX12_root 93 = .ok (.ldc2_w 337, 3) := by decide +kernel
theorem dX12_root_96 : decode cX12_root 96 = .ok (.land, 1) := by decide +kernel
theorem dX12_root_97 : decode cX12_root 97 = .ok (.ladd, 1) := by decide +kernel
theorem dX12_root_98 : decode cX12_root 98 = .ok (.lstore 9, 2) := by decide +kernel
theorem dX12_root_100 : decode cX12_root 100 = .ok (.lload 7, 2) := by decide +kernel
theorem dX12_root_102 : decode cX12_root 102 = .ok (.ldc2_w 410, 3) := by decide +kernel
theorem dX12_root_105 : decode cX12_root 105 = .ok (.lmul, 1) := by decide +kernel
theorem dX12_root_106 : decode cX12_root 106 = .ok (.lstore 7, 2) := by decide +kernel
theorem dX12_root_108 : decode cX12_root 108 = .ok (.lload 9, 2) := by decide +kernel
theorem dX12_root_110 : decode cX12_root 110 = .ok (.ldc2_w 410, 3) := by decide +kernel
theorem dX12_root_113 : decode cX12_root 113 = .ok (.lload 7, 2) := by decide +kernel
theorem dX12_root_115 : decode cX12_root 115 = .ok (.lmul, 1) := by decide +kernel
theorem dX12_root_116 : decode cX12_root 116 = .ok (.lconst 1, 1) := by decide +kernel
theorem dX12_root_117 : decode cX12_root 117 = .ok (.ladd, 1) := by decide +kernel
theorem dX12_root_118 : decode cX12_root 118 = .ok (.lcmp, 1) := by decide +kernel
theorem dX12_root_119 : decode cX12_root 119 = .ok (.ifCond .ge 6, 3) := by decide +kernel
theorem dX12_root_122 : decode cX12_root 122 = .ok (.goto 22, 3) := by decide +kernel
theorem dX12_root_125 : decode cX12_root 125 = .ok (.lload 9, 2) := by decide +kernel
theorem dX12_root_127 : decode cX12_root 127 = .ok (.ldc2_w 410, 3) := by decide +kernel
theorem dX12_root_130 : decode cX12_root 130 = .ok (.lload 7, 2) := by decide +kernel
theorem dX12_root_132 : decode cX12_root 132 = .ok (.lmul, 1) := by decide +kernel
theorem dX12_root_133 : decode cX12_root 133 = .ok (.lconst 1, 1) := by decide +kernel
theorem dX12_root_134 : decode cX12_root 134 = .ok (.ladd, 1) := by decide +kernel
theorem dX12_root_135 : decode cX12_root 135 = .ok (.lsub, 1) := by decide +kernel
theorem dX12_root_136 : decode cX12_root 136 = .ok (.lstore 9, 2) := by decide +kernel
theorem dX12_root_138 : decode cX12_root 138 = .ok (.lload 7, 2) := by decide +kernel
theorem dX12_root_140 : decode cX12_root 140 = .ok (.lconst 1, 1) := by decide +kernel
theorem dX12_root_141 : decode cX12_root 141 = .ok (.ladd, 1) := by decide +kernel
theorem dX12_root_142 : decode cX12_root 142 = .ok (.lstore 7, 2) := by decide +kernel
theorem dX12_root_144 : decode cX12_root 144 = .ok (.iinc 11 (-1), 3) := by decide +kernel
theorem dX12_root_147 : decode cX12_root 147 = .ok (.goto (-83), 3) := by decide +kernel
theorem dX12_root_150 : decode cX12_root 150 = .ok (.lload 7, 2) := by decide +kernel
theorem dX12_root_152 : decode cX12_root 152 = .ok (.lconst 1, 1) := by decide +kernel
theorem dX12_root_153 : decode cX12_root 153 = .ok (.ladd, 1) := by decide +kernel
theorem dX12_root_154 : decode cX12_root 154 = .ok (.iconst 1, 1) := by decide +kernel
theorem dX12_root_155 : decode cX12_root 155 = .ok (.lshr, 1) := by decide +kernel
theorem dX12_root_156 : decode cX12_root 156 = .ok (.l2d, 1) := by decide +kernel
theorem dX12_root_157 : decode cX12_root 157 = .ok (.iload 4, 2) := by decide +kernel
theorem dX12_root_159 : decode cX12_root 159 = .ok (.iconst 2, 1) := by decide +kernel
theorem dX12_root_160 : decode cX12_root 160 = .ok (.idiv, 1) := by decide +kernel
theorem dX12_root_161 : decode cX12_root 161 = .ok (.bipush 26, 2) := by decide +kernel
theorem dX12_root_163 : decode cX12_root 163 = .ok (.isub, 1) := by decide +kernel
theorem dX12_root_164 : decode cX12_root 164 = .ok (.sipush 1023, 3) := by decide +kernel
theorem dX12_root_167 : decode cX12_root 167 = .ok (.iadd, 1) := by decide +kernel
theorem dX12_root_168 : decode cX12_root 168 = .ok (.i2l, 1) := by decide +kernel
theorem dX12_root_169 : decode cX12_root 169 = .ok (.bipush 52, 2) := by decide +kernel
theorem dX12_root_171 : decode cX12_root 171 = .ok (.lshl, 1) := by decide +kernel
theorem dX12_root_172 : decode cX12_root 172 = .ok (.invokestatic 414, 3) := by decide +kernel
theorem dX12_root_175 : decode cX12_root 175 = .ok (.dmul, 1) := by decide +kernel
theorem dX12_root_176 : decode cX12_root 176 = .ok (.dreturn, 1) := by decide +kernel
set_option maxRecDepth 20000 in
theorem ggX12_marginOf_X12_root : GoodIn wsX12_marginOf wsX12_root := goodIn_r _ [5, 6, 7, 8, 9, 10, 11, 12, 13, 14, 15, 16, 17, 18, 19, 20, 21, 22, 23, 24, 25] rfl (by decide +kernel)
set_option maxRecDepth 20000 in
theorem gX12_marginOf_X12_root : GoodIn wsX12_marginOf (va_wsS RX12 420 yX12_root wsX12_root) := goodIn_app (goodIn_of _ (by decide +kernel)) ggX12_marginOf_X12_root
theorem dX12_marginOf_0 : decode cX12_marginOf 0 = .ok (.ldc2_w 418, 3) := by decide +kernel
theorem dX12_marginOf_3 : decode cX12_marginOf 3 = .ok (.dload_n 0, 1) := by decide +kernel
theorem dX12_marginOf_4 : decode cX12_marginOf 4 = .ok (.invokestatic 420, 3) := by decide +kernel
theorem dX12_marginOf_7 : decode cX12_marginOf 7 = .ok (.dmul, 1) := by decide +kernel
theorem dX12_marginOf_8 : decode cX12_marginOf 8 = .ok (.dreturn, 1) := by decide +kernel
set_option maxRecDepth 20000 in
theorem ggX12_lowerOf_X12_marginOf : GoodIn wsX12_lowerOf wsX12_marginOf := goodIn_r _ [7, 8, 9, 10, 6, 11, 12, 13, 14, 15, 16, 17, 18, 19, 20, 21, 22, 23, 24, 25, 26, 27, 28, 29, 30, 31] rfl (by decide +kernel)
set_option maxRecDepth 20000 in
theorem gX12_lowerOf_X12_marginOf : GoodIn wsX12_lowerOf (va_wsS RX12 424 yX12_marginOf wsX12_marginOf) := goodIn_app (goodIn_of _ (by decide +kernel)) ggX12_lowerOf_X12_marginOf
theorem dX12_lowerOf_0 : decode cX12_lowerOf 0 = .ok (.aload_n 0, 1) := by decide +kernel
theorem dX12_lowerOf_1 : decode cX12_lowerOf 1 = .ok (.getfield 75, 3) := by decide +kernel
theorem dX12_lowerOf_4 : decode cX12_lowerOf 4 = .ok (.iconst 2, 1) := by decide +kernel
theorem dX12_lowerOf_5 : decode cX12_lowerOf 5 = .ok (.iload_n 1, 1) := by decide +kernel
theorem dX12_lowerOf_6 : decode cX12_lowerOf 6 = .ok (.imul, 1) := by decide +kernel
theorem dX12_lowerOf_7 : decode cX12_lowerOf 7 = .ok (.iload_n 2, 1) := by decide +kernel
theorem dX12_lowerOf_8 : decode cX12_lowerOf 8 = .ok (.iadd, 1) := by decide +kernel
theorem dX12_lowerOf_9 : decode cX12_lowerOf 9 = .ok (.laload, 1) := by decide +kernel
theorem dX12_lowerOf_10 : decode cX12_lowerOf 10 = .ok (.l2d, 1) := by decide +kernel
theorem dX12_lowerOf_11 : decode cX12_lowerOf 11 = .ok (.aload_n 0, 1) := by decide +kernel
theorem dX12_lowerOf_12 : decode cX12_lowerOf 12 = .ok (.getfield 78, 3) := by decide +kernel
theorem dX12_lowerOf_15 : decode cX12_lowerOf 15 = .ok (.iconst 2, 1) := by decide +kernel
theorem dX12_lowerOf_16 : decode cX12_lowerOf 16 = .ok (.iload_n 1, 1) := by decide +kernel
theorem dX12_lowerOf_17 : decode cX12_lowerOf 17 = .ok (.imul, 1) := by decide +kernel
theorem dX12_lowerOf_18 : decode cX12_lowerOf 18 = .ok (.iload_n 2, 1) := by decide +kernel
theorem dX12_lowerOf_19 : decode cX12_lowerOf 19 = .ok (.iadd, 1) := by decide +kernel
theorem dX12_lowerOf_20 : decode cX12_lowerOf 20 = .ok (.daload, 1) := by decide +kernel
theorem dX12_lowerOf_21 : decode cX12_lowerOf 21 = .ok (.invokestatic 424, 3) := by decide +kernel
theorem dX12_lowerOf_24 : decode cX12_lowerOf 24 = .ok (.dsub, 1) := by decide +kernel
theorem dX12_lowerOf_25 : decode cX12_lowerOf 25 = .ok (.dstore_n 3, 1) := by decide +kernel
theorem dX12_lowerOf_26 : decode cX12_lowerOf 26 = .ok (.aload_n 0, 1) := by decide +kernel
theorem dX12_lowerOf_27 : decode cX12_lowerOf 27 = .ok (.getfield 72, 3) := by decide +kernel
theorem dX12_lowerOf_30 : decode cX12_lowerOf 30 = .ok (.iconst 2, 1) := by decide +kernel
theorem dX12_lowerOf_31 : decode cX12_lowerOf 31 = .ok (.iload_n 1, 1) := by decide +kernel
theorem dX12_lowerOf_32 : decode cX12_lowerOf 32 = .ok (.imul, 1) := by decide +kernel
theorem dX12_lowerOf_33 : decode cX12_lowerOf 33 = .ok (.iload_n 2, 1) := by decide +kernel
theorem dX12_lowerOf_34 : decode cX12_lowerOf 34 = .ok (.iadd, 1) := by decide +kernel
theorem dX12_lowerOf_35 : decode cX12_lowerOf 35 = .ok (.laload, 1) := by decide +kernel
theorem dX12_lowerOf_36 : decode cX12_lowerOf 36 = .ok (.l2d, 1) := by decide +kernel
theorem dX12_lowerOf_37 : decode cX12_lowerOf 37 = .ok (.dstore 5, 2) := by decide +kernel
theorem dX12_lowerOf_39 : decode cX12_lowerOf 39 = .ok (.dload_n 3, 1) := by decide +kernel
theorem dX12_lowerOf_40 : decode cX12_lowerOf 40 = .ok (.dload 5, 2) := by decide +kernel
theorem dX12_lowerOf_42 : decode cX12_lowerOf 42 = .ok (.dcmp .l, 1) := by decide +kernel
theorem dX12_lowerOf_43 : decode cX12_lowerOf 43 = .ok (.ifCond .le 7, 3) := by decide +kernel
theorem dX12_lowerOf_46 : decode cX12_lowerOf 46 = .ok (.dload_n 3, 1) := by decide +kernel
theorem dX12_lowerOf_47 : decode cX12_lowerOf 47 = .ok (.goto 5, 3) := by decide +kernel
theorem dX12_lowerOf_50 : decode cX12_lowerOf 50 = .ok (.dload 5, 2) := by decide +kernel
theorem dX12_lowerOf_52 : decode cX12_lowerOf 52 = .ok (.dreturn, 1) := by decide +kernel
set_option maxRecDepth 20000 in
theorem ggX12_upperOf_X12_marginOf : GoodIn wsX12_upperOf wsX12_marginOf := goodIn_r _ [6, 7, 8, 9, 5, 10, 11, 12, 13, 14, 15, 16, 17, 18, 19, 20, 21, 22, 23, 24, 25, 26, 27, 28, 29, 30] rfl (by decide +kernel)
set_option maxRecDepth 20000 in
theorem gX12_upperOf_X12_marginOf : GoodIn wsX12_upperOf (va_wsS RX12 424 yX12_marginOf wsX12_marginOf) := goodIn_app (goodIn_of _ (by decide +kernel)) ggX12_upperOf_X12_marginOf
theorem dX12_upperOf_0 : decode cX12_upperOf 0 = .ok (.aload_n 0, 1) := by decide +kernel
theorem dX12_upperOf_1 : decode cX12_upperOf 1 = .ok (.getfield 75, 3) := by decide +kernel
theorem dX12_upperOf_4 : decode cX12_upperOf 4 = .ok (.iconst 2, 1) := by decide +kernel
theorem dX12_upperOf_5 : decode cX12_upperOf 5 = .ok (.iload_n 1, 1) := by decide +kernel
theorem dX12_upperOf_6 : decode cX12_upperOf 6 = .ok (.imul, 1) := by decide +kernel
theorem dX12_upperOf_7 : decode cX12_upperOf 7 = .ok (.iload_n 2, 1) := by decide +kernel
theorem dX12_upperOf_8 : decode cX12_upperOf 8 = .ok (.iadd, 1) := by decide +kernel
theorem dX12_upperOf_9 : decode cX12_upperOf 9 = .ok (.laload, 1) := by decide +kernel
theorem dX12_upperOf_10 : decode cX12_upperOf 10 = .ok (.l2d, 1) := by decide +kernel
theorem dX12_upperOf_11 : decode cX12_upperOf 11 = .ok (.aload_n 0, 1) := by decide +kernel
theorem dX12_upperOf_12 : decode cX12_upperOf 12 = .ok (.getfield 78, 3) := by decide +kernel
theorem dX12_upperOf_15 : decode cX12_upperOf 15 = .ok (.iconst 2, 1) := by decide +kernel
theorem dX12_upperOf_16 : decode cX12_upperOf 16 = .ok (.iload_n 1, 1) := by decide +kernel
theorem dX12_upperOf_17 : decode cX12_upperOf 17 = .ok (.imul, 1) := by decide +kernel
theorem dX12_upperOf_18 : decode cX12_upperOf 18 = .ok (.iload_n 2, 1) := by decide +kernel
theorem dX12_upperOf_19 : decode cX12_upperOf 19 = .ok (.iadd, 1) := by decide +kernel
theorem dX12_upperOf_20 : decode cX12_upperOf 20 = .ok (.daload, 1) := by decide +kernel
theorem dX12_upperOf_21 : decode cX12_upperOf 21 = .ok (.invokestatic 424, 3) := by decide +kernel
theorem dX12_upperOf_24 : decode cX12_upperOf 24 = .ok (.dadd, 1) := by decide +kernel
theorem dX12_upperOf_25 : decode cX12_upperOf 25 = .ok (.dreturn, 1) := by decide +kernel
set_option maxRecDepth 20000 in
theorem ggX12_lower_X12_isKey : GoodIn wsX12_lower wsX12_isKey := goodIn_r _ [6, 7, 8, 9, 5, 10, 52, 53, 54, 55, 56, 57, 58, 59, 60, 61, 62, 63, 64, 65, 66, 67, 68, 69, 70, 71, 72, 73, 74, 75, 76, 77, 78, 79, 80, 81, 82, 83, 84, 85, 86, 87, 88, 89, 90, 91, 92, 93, 94, 95, 96, 97, 98, 99, 100, 101, 102, 103, 104, 105] rfl (by decide +kernel)
set_option maxRecDepth 20000 in
theorem gX12_lower_X12_isKey : GoodIn wsX12_lower (wsV RX12 394 RX12 yX12_isKey wsX12_isKey) := goodIn_app (goodIn_of _ (by decide +kernel)) ggX12_lower_X12_isKey
set_option maxRecDepth 20000 in
theorem ggX12_lower_X12_throwsIf : GoodIn wsX12_lower wsX12_throwsIf := goodIn_r _ [14, 1, 52, 53, 54, 55, 56, 57, 58, 59, 60, 61, 62, 63, 64, 65, 66, 67, 68, 69, 70, 71, 72, 73, 74, 75, 76, 77, 78, 79, 80, 81, 82, 83, 84, 85, 86, 87, 88, 89, 90, 91, 92, 93, 94, 95, 96, 97, 98, 99, 100, 101, 102, 103, 104, 105] rfl (by decide +kernel)
set_option maxRecDepth 20000 in
theorem gX12_lower_X12_throwsIf : GoodIn wsX12_lower (wsV RX12 185 RX12 yX12_throwsIf wsX12_throwsIf) := goodIn_app (goodIn_of _ (by decide +kernel)) ggX12_lower_X12_throwsIf
set_option maxRecDepth 20000 in
theorem ggX12_lower_X12_isWhat : GoodIn wsX12_lower wsX12_isWhat := goodIn_r _ [17, 8, 9, 5, 10] rfl (by decide +kernel)
set_option maxRecDepth 20000 in
theorem gX12_lower_X12_isWhat : GoodIn wsX12_lower (va_wsS RX12 397 yX12_isWhat wsX12_isWhat) := goodIn_app (goodIn_of _ (by decide +kernel)) ggX12_lower_X12_isWhat
set_option maxRecDepth 20000 in
theorem ggX12_lower_X12_lowerOf : GoodIn wsX12_lower wsX12_lowerOf := goodIn_ca (goodIn_r _ [21, 22, 23, 24, 25, 26, 5, 27, 28, 29, 30, 31, 32, 33, 34, 35, 36, 37, 38, 39, 40, 41, 42, 43, 44, 45, 46, 47, 48, 49, 50, 51, 52, 53, 54, 55, 56, 57, 58, 59, 60, 61, 62, 63, 64, 65, 66, 67, 68, 69, 70, 71, 72, 73, 74, 75, 76, 77, 78, 79, 80, 81, 82, 83, 84, 85, 86, 87, 88, 89, 90, 91, 92, 93, 94, 95, 96, 97, 98, 99, 100, 101, 102, 103, 104, 105] rfl (by decide +kernel)) (goodIn_sub (fun _ h => List.mem_cons_of_mem _ (List.mem_append_right _ h)) (by decide +kernel))
set_option maxRecDepth 20000 in
theorem gX12_lower_X12_lowerOf : GoodIn wsX12_lower (wsV RX12 427 RX12 yX12_lowerOf wsX12_lowerOf) := goodIn_app (goodIn_of _ (by decide +kernel)) ggX12_lower_X12_lowerOf
theorem dX12_lower_0 : decode cX12_lower 0 = .ok (.aload_n 0, 1) := by decide +kernel
theorem dX12_lower_1 : decode cX12_lower 1 = .ok (.iconst 0, 1) := by decide +kernel
theorem dX12_lower_2 : decode cX12_lower 2 = .ok (.putfield 1, 3) := by decide +kernel
theorem dX12_lower_5 : decode cX12_lower 5 = .ok (.aload_n 0, 1) := by decide +kernel
theorem dX12_lower_6 : decode cX12_lower 6 = .ok (.aload_n 0, 1) := by decide +kernel
theorem dX12_lower_7 : decode cX12_lower 7 = .ok (.iload_n 1, 1) := by decide +kernel
theorem dX12_lower_8 : decode cX12_lower 8 = .ok (.invokevirtual 394, 3) := by decide +kernel
theorem dX12_lower_11 : decode cX12_lower 11 = .ok (.ifCond .ne 7, 3) := by decide +kernel
theorem dX12_lower_14 : decode cX12_lower 14 = .ok (.iconst 1, 1) := by decide +kernel
theorem dX12_lower_15 : decode cX12_lower 15 = .ok (.goto 4, 3) := by decide +kernel
theorem dX12_lower_18 : decode cX12_lower 18 = .ok (.iconst 0, 1) := by decide +kernel
theorem dX12_lower_19 : decode cX12_lower 19 = .ok (.iconst 1, 1) := by decide +kernel
theorem dX12_lower_20 : decode cX12_lower 20 = .ok (.invokevirtual 185, 3) := by decide +kernel
theorem dX12_lower_23 : decode cX12_lower 23 = .ok (.ifCond .ne 23, 3) := by decide +kernel
theorem dX12_lower_26 : decode cX12_lower 26 = .ok (.aload_n 0, 1) := by decide +kernel
theorem dX12_lower_27 : decode cX12_lower 27 = .ok (.iload_n 2, 1) := by decide +kernel
theorem dX12_lower_28 : decode cX12_lower 28 = .ok (.invokestatic 397, 3) := by decide +kernel
theorem dX12_lower_31 : decode cX12_lower 31 = .ok (.ifCond .ne 7, 3) := by decide +kernel
theorem dX12_lower_34 : decode cX12_lower 34 = .ok (.iconst 1, 1) := by decide +kernel
theorem dX12_lower_35 : decode cX12_lower 35 = .ok (.goto 4, 3) := by decide +kernel
theorem dX12_lower_38 : decode cX12_lower 38 = .ok (.iconst 0, 1) := by decide +kernel
theorem dX12_lower_39 : decode cX12_lower 39 = .ok (.iconst 2, 1) := by decide +kernel
theorem dX12_lower_40 : decode cX12_lower 40 = .ok (.invokevirtual 185, 3) := by decide +kernel
theorem dX12_lower_43 : decode cX12_lower 43 = .ok (.ifCond .eq 7, 3) := by decide +kernel
theorem dX12_lower_46 : decode cX12_lower 46 = .ok (.dconst 0, 1) := by decide +kernel
theorem dX12_lower_47 : decode cX12_lower 47 = .ok (.goto 9, 3) := by decide +kernel
theorem dX12_lower_50 : decode cX12_lower 50 = .ok (.aload_n 0, 1) := by decide +kernel
theorem dX12_lower_51 : decode cX12_lower 51 = .ok (.iload_n 1, 1) := by decide +kernel
theorem dX12_lower_52 : decode cX12_lower 52 = .ok (.iload_n 2, 1) := by decide +kernel
theorem dX12_lower_53 : decode cX12_lower 53 = .ok (.invokevirtual 427, 3) := by decide +kernel
theorem dX12_lower_56 : decode cX12_lower 56 = .ok (.dreturn, 1) := by decide +kernel
set_option maxRecDepth 20000 in
theorem ggX12_upper_X12_isKey : GoodIn wsX12_upper wsX12_isKey := goodIn_r _ [6, 7, 8, 9, 5, 10, 51, 52, 53, 54, 55, 56, 57, 58, 59, 60, 61, 62, 63, 64, 65, 66, 67, 68, 69, 70, 71, 72, 73, 74, 75, 76, 77, 78, 79, 80, 81, 82, 83, 84, 85, 86, 87, 88, 89, 90, 91, 92, 93, 94, 95, 96, 97, 98, 99, 100, 101, 102, 103, 104] rfl (by decide +kernel)
set_option maxRecDepth 20000 in
theorem gX12_upper_X12_isKey : GoodIn wsX12_upper (wsV RX12 394 RX12 yX12_isKey wsX12_isKey) := goodIn_app (goodIn_of _ (by decide +kernel)) ggX12_upper_X12_isKey
set_option maxRecDepth 20000 in
theorem ggX12_upper_X12_throwsIf : GoodIn wsX12_upper wsX12_throwsIf := goodIn_r _ [14, 1, 51, 52, 53, 54, 55, 56, 57, 58, 59, 60, 61, 62, 63, 64, 65, 66, 67, 68, 69, 70, 71, 72, 73, 74, 75, 76, 77, 78, 79, 80, 81, 82, 83, 84, 85, 86, 87, 88, 89, 90, 91, 92, 93, 94, 95, 96, 97, 98, 99, 100, 101, 102, 103, 104] rfl (by decide +kernel)
set_option maxRecDepth 20000 in
theorem gX12_upper_X12_throwsIf : GoodIn wsX12_upper (wsV RX12 185 RX12 yX12_throwsIf wsX12_throwsIf) := goodIn_app (goodIn_of _ (by decide +kernel)) ggX12_upper_X12_throwsIf
set_option maxRecDepth 20000 in
theorem ggX12_upper_X12_isWhat : GoodIn wsX12_upper wsX12_isWhat := goodIn_r _ [17, 8, 9, 5, 10] rfl (by decide +kernel)
set_option maxRecDepth 20000 in
theorem gX12_upper_X12_isWhat : GoodIn wsX12_upper (va_wsS RX12 397 yX12_isWhat wsX12_isWhat) := goodIn_app (goodIn_of _ (by decide +kernel)) ggX12_upper_X12_isWhat
set_option maxRecDepth 20000 in
theorem ggX12_upper_X12_upperOf : GoodIn wsX12_upper wsX12_upperOf := goodIn_ca (goodIn_r _ [21, 22, 23, 24, 25, 5, 26, 27, 28, 29, 30, 31, 32, 33, 34, 35, 36, 37, 38, 39, 40, 41, 42, 43, 44, 45, 46, 47, 48, 49, 50, 51, 52, 53, 54, 55, 56, 57, 58, 59, 60, 61, 62, 63, 64, 65, 66, 67, 68, 69, 70, 71, 72, 73, 74, 75, 76, 77, 78, 79, 80, 81, 82, 83, 84, 85, 86, 87, 88, 89, 90, 91, 92, 93, 94, 95, 96, 97, 98, 99, 100, 101, 102, 103, 104] rfl (by decide +kernel)) (goodIn_sub (fun _ h => List.mem_cons_of_mem _ (List.mem_append_right _ h)) (by decide +kernel))
set_option maxRecDepth 20000 in
theorem gX12_upper_X12_upperOf : GoodIn wsX12_upper (wsV RX12 431 RX12 yX12_upperOf wsX12_upperOf) := goodIn_app (goodIn_of _ (by decide +kernel)) ggX12_upper_X12_upperOf
theorem dX12_upper_0 : decode cX12_upper 0 = .ok (.aload_n 0, 1) := by decide +kernel
theorem dX12_upper_1 : decode cX12_upper 1 = .ok (.iconst 0, 1) := by decide +kernel
theorem dX12_upper_2 : decode cX12_upper 2 = .ok (.putfield 1, 3) := by decide +kernel
theorem dX12_upper_5 : decode cX12_upper 5 = .ok (.aload_n 0, 1) := by decide +kernel
theorem dX12_upper_6 : decode cX12_upper 6 = .ok (.aload_n 0, 1) := by decide +kernel
theorem dX12_upper_7 : decode cX12_upper 7 = .ok (.iload_n 1, 1) := by decide +kernel
theorem dX12_upper_8 : decode cX12_upper 8 = .ok (.invokevirtual 394, 3) := by decide +kernel
theorem dX12_upper_11 : decode cX12_upper 11 = .ok (.ifCond .ne 7, 3) := by decide +kernel
theorem dX12_upper_14 : decode cX12_upper 14 = .ok (.iconst 1, 1) := by decide +kernel
theorem dX12_upper_15 : decode cX12_upper 15 = .ok (.goto 4, 3) := by decide +kernel
theorem dX12_upper_18 : decode cX12_upper 18 = .ok (.iconst 0, 1) := by decide +kernel
theorem dX12_upper_19 : decode cX12_upper 19 = .ok (.iconst 1, 1) := by decide +kernel
theorem dX12_upper_20 : decode cX12_upper 20 = .ok (.invokevirtual 185, 3) := by decide +kernel
theorem dX12_upper_23 : decode cX12_upper 23 = .ok (.ifCond .ne 23, 3) := by decide +kernel
theorem dX12_upper_26 : decode cX12_upper 26 = .ok (.aload_n 0, 1) := by decide +kernel
theorem dX12_upper_27 : decode cX12_upper 27 = .ok (.iload_n 2, 1) := by decide +kernel
theorem dX12_upper_28 : decode cX12_upper 28 = .ok (.invokestatic 397, 3) := by decide +kernel
theorem dX12_upper_31 : decode cX12_upper 31 = .ok (.ifCond .ne 7, 3) := by decide +kernel
theorem dX12_upper_34 : decode cX12_upper 34 = .ok (.iconst 1, 1) := by decide +kernel
theorem dX12_upper_35 : decode cX12_upper 35 = .ok (.goto 4, 3) := by decide +kernel
theorem dX12_upper_38 : decode cX12_upper 38 = .ok (.iconst 0, 1) := by decide +kernel
theorem dX12_upper_39 : decode cX12_upper 39 = .ok (.iconst 2, 1) := by decide +kernel
theorem dX12_upper_40 : decode cX12_upper 40 = .ok (.invokevirtual 185, 3) := by decide +kernel
theorem dX12_upper_43 : decode cX12_upper 43 = .ok (.ifCond .eq 7, 3) := by decide +kernel
theorem dX12_upper_46 : decode cX12_upper 46 = .ok (.dconst 0, 1) := by decide +kernel
theorem dX12_upper_47 : decode cX12_upper 47 = .ok (.goto 9, 3) := by decide +kernel
theorem dX12_upper_50 : decode cX12_upper 50 = .ok (.aload_n 0, 1) := by decide +kernel
theorem dX12_upper_51 : decode cX12_upper 51 = .ok (.iload_n 1, 1) := by decide +kernel
theorem dX12_upper_52 : decode cX12_upper 52 = .ok (.iload_n 2, 1) := by decide +kernel
theorem dX12_upper_53 : decode cX12_upper 53 = .ok (.invokevirtual 431, 3) := by decide +kernel
theorem dX12_upper_56 : decode cX12_upper 56 = .ok (.dreturn, 1) := by decide +kernel

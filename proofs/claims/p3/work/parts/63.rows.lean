set_option maxRecDepth 20000 in
theorem ggX12_lossRate_X12_throwsIf : GoodIn wsX12_lossRate wsX12_throwsIf := goodIn_r _ [7, 1, 8, 9, 10, 11, 12, 13, 14, 15, 16, 17, 18, 19, 20, 21, 22, 23, 24, 25, 26, 27, 28, 29, 30, 31, 32, 33, 34, 35, 36, 37, 38, 39, 40, 41, 42, 43, 44, 45, 46, 47, 48, 49, 50, 51, 52, 53, 54, 55, 56, 57, 58, 59, 60, 61] rfl (by decide +kernel)
set_option maxRecDepth 20000 in
theorem gX12_lossRate_X12_throwsIf : GoodIn wsX12_lossRate (wsV RX12 185 RX12 yX12_throwsIf wsX12_throwsIf) := goodIn_app (goodIn_of _ (by decide +kernel)) ggX12_lossRate_X12_throwsIf
theorem dX12_lossRate_0 : decode cX12_lossRate 0 = .ok (.aload_n 0, 1) := by decide +kernel
theorem dX12_lossRate_1 : decode cX12_lossRate 1 = .ok (.iconst 0, 1) := by decide +kernel
theorem dX12_lossRate_2 : decode cX12_lossRate 2 = .ok (.putfield 1, 3) := by decide +kernel
theorem dX12_lossRate_5 : decode cX12_lossRate 5 = .ok (.aload_n 0, 1) := by decide +kernel
theorem dX12_lossRate_6 : decode cX12_lossRate 6 = .ok (.getfield 45, 3) := by decide +kernel
theorem dX12_lossRate_9 : decode cX12_lossRate 9 = .ok (.iconst 0, 1) := by decide +kernel
theorem dX12_lossRate_10 : decode cX12_lossRate 10 = .ok (.laload, 1) := by decide +kernel
theorem dX12_lossRate_11 : decode cX12_lossRate 11 = .ok (.aload_n 0, 1) := by decide +kernel
theorem dX12_lossRate_12 : decode cX12_lossRate 12 = .ok (.getfield 45, 3) := by decide +kernel
theorem dX12_lossRate_15 : decode cX12_lossRate 15 = .ok (.bipush 7, 2) := by decide +kernel
theorem dX12_lossRate_17 : decode cX12_lossRate 17 = .ok (.laload, 1) := by decide +kernel
theorem dX12_lossRate_18 : decode cX12_lossRate 18 = .ok (.ladd, 1) := by decide +kernel
theorem dX12_lossRate_19 : decode cX12_lossRate 19 = .ok (.lstore_n 1, 1) := by decide +kernel
theorem dX12_lossRate_20 : decode cX12_lossRate 20 = .ok (.aload_n 0, 1) := by decide +kernel
theorem dX12_lossRate_21 : decode cX12_lossRate 21 = .ok (.lload_n 1, 1) := by decide +kernel
theorem dX12_lossRate_22 : decode cX12_lossRate 22 = .ok (.lconst 0, 1) := by decide +kernel
theorem dX12_lossRate_23 : decode cX12_lossRate 23 = .ok (.lcmp, 1) := by decide +kernel
theorem dX12_lossRate_24 : decode cX12_lossRate 24 = .ok (.ifCond .ne 7, 3) := by decide +kernel
theorem dX12_lossRate_27 : decode cX12_lossRate 27 = .ok (.iconst 1, 1) := by decide +kernel
theorem dX12_lossRate_28 : decode cX12_lossRate 28 = .ok (.goto 4, 3) := by decide +kernel
theorem dX12_lossRate_31 : decode cX12_lossRate 31 = .ok (.iconst 0, 1) := by decide +kernel
theorem dX12_lossRate_32 : decode cX12_lossRate 32 = .ok (.iconst 1, 1) := by decide +kernel
theorem dX12_lossRate_33 : decode cX12_lossRate 33 = .ok (.invokevirtual 185, 3) := by decide +kernel
theorem dX12_lossRate_36 : decode cX12_lossRate 36 = .ok (.ifCond .eq 7, 3) := by decide +kernel
theorem dX12_lossRate_39 : decode cX12_lossRate 39 = .ok (.dconst 0, 1) := by decide +kernel
theorem dX12_lossRate_40 : decode cX12_lossRate 40 = .ok (.goto 13, 3) := by decide +kernel
theorem dX12_lossRate_43 : decode cX12_lossRate 43 = .ok (.aload_n 0, 1) := by decide +kernel
theorem dX12_lossRate_44 : decode cX12_lossRate 44 = .ok (.getfield 45, 3) := by decide +kernel
theorem dX12_lossRate_47 : decode cX12_lossRate 47 = .ok (.iconst 0, 1) := by decide +kernel
theorem dX12_lossRate_48 : decode cX12_lossRate 48 = .ok (.laload, 1) := by decide +kernel
theorem dX12_lossRate_49 : decode cX12_lossRate 49 = .ok (.l2d, 1) := by decide +kernel
theorem dX12_lossRate_50 : decode cX12_lossRate 50 = .ok (.lload_n 1, 1) := by decide +kernel
theorem dX12_lossRate_51 : decode cX12_lossRate 51 = .ok (.l2d, 1) := by decide +kernel
theorem dX12_lossRate_52 : decode cX12_lossRate 52 = .ok (.ddiv, 1) := by decide +kernel
theorem dX12_lossRate_53 : decode cX12_lossRate 53 = .ok (.dreturn, 1) := by decide +kernel
theorem dX12_get_0 : decode cX12_get 0 = .ok (.lconst 0, 1) := by decide +kernel
theorem dX12_get_1 : decode cX12_get 1 = .ok (.lstore_n 3, 1) := by decide +kernel
theorem dX12_get_2 : decode cX12_get 2 = .ok (.iload_n 1, 1) := by decide +kernel
theorem dX12_get_3 : decode cX12_get 3 = .ok (.istore 5, 2) := by decide +kernel
theorem dX12_get_5 : decode cX12_get 5 = .ok (.iload 5, 2) := by decide +kernel
theorem dX12_get_7 : decode cX12_get 7 = .ok (.iload_n 1, 1) := by decide +kernel
theorem dX12_get_8 : decode cX12_get 8 = .ok (.iload_n 2, 1) := by decide +kernel
theorem dX12_get_9 : decode cX12_get 9 = .ok (.iadd, 1) := by decide +kernel
theorem dX12_get_10 : decode cX12_get 10 = .ok (.if_icmp .ge 23, 3) := by decide +kernel
theorem dX12_get_13 : decode cX12_get 13 = .ok (.lload_n 3, 1) := by decide +kernel
theorem dX12_get_14 : decode cX12_get 14 = .ok (.bipush 8, 2) := by decide +kernel
theorem dX12_get_16 : decode cX12_get 16 = .ok (.lshl, 1) := by decide +kernel
theorem dX12_get_17 : decode cX12_get 17 = .ok (.aload_n 0, 1) := by decide +kernel
theorem dX12_get_18 : decode cX12_get 18 = .ok (.getfield 36, 3) := by decide +kernel
theorem dX12_get_21 : decode cX12_get 21 = .ok (.iload 5, 2) := by decide +kernel
theorem dX12_get_23 : decode cX12_get 23 = .ok (.iaload, 1) := by decide +kernel
theorem dX12_get_24 : decode cX12_get 24 = .ok (.i2l, 1) := by decide +kernel
theorem dX12_get_25 : decode cX12_get 25 = .ok (.lor, 1) := by decide +kernel
theorem dX12_get_26 : decode cX12_get 26 = .ok (.lstore_n 3, 1) := by decide +kernel
theorem dX12_get_27 : decode cX12_get 27 = .ok (.iinc 5 1, 3) := by decide +kernel
theorem dX12_get_30 : decode cX12_get 30 = .ok (.goto (-25), 3) := by decide +kernel
theorem dX12_get_33 : decode cX12_get 33 = .ok (.lload_n 3, 1) := by decide +kernel
theorem dX12_get_34 : decode cX12_get 34 = .ok (.lreturn, 1) := by decide +kernel
theorem dX12_isDouble_0 : decode cX12_isDouble 0 = .ok (.iconst 0, 1) := by decide +kernel
theorem dX12_isDouble_1 : decode cX12_isDouble 1 = .ok (.istore 5, 2) := by decide +kernel
theorem dX12_isDouble_3 : decode cX12_isDouble 3 = .ok (.iload 5, 2) := by decide +kernel
theorem dX12_isDouble_5 : decode cX12_isDouble 5 = .ok (.aload_n 0, 1) := by decide +kernel
theorem dX12_isDouble_6 : decode cX12_isDouble 6 = .ok (.getfield 326, 3) := by decide +kernel
theorem dX12_isDouble_9 : decode cX12_isDouble 9 = .ok (.if_icmp .ge 35, 3) := by decide +kernel
theorem dX12_isDouble_12 : decode cX12_isDouble 12 = .ok (.aload_n 0, 1) := by decide +kernel
theorem dX12_isDouble_13 : decode cX12_isDouble 13 = .ok (.getfield 57, 3) := by decide +kernel
theorem dX12_isDouble_16 : decode cX12_isDouble 16 = .ok (.iload 5, 2) := by decide +kernel
theorem dX12_isDouble_18 : decode cX12_isDouble 18 = .ok (.laload, 1) := by decide +kernel
theorem dX12_isDouble_19 : decode cX12_isDouble 19 = .ok (.lload_n 1, 1) := by decide +kernel
theorem dX12_isDouble_20 : decode cX12_isDouble 20 = .ok (.lcmp, 1) := by decide +kernel
theorem dX12_isDouble_21 : decode cX12_isDouble 21 = .ok (.ifCond .ne 17, 3) := by decide +kernel
theorem dX12_isDouble_24 : decode cX12_isDouble 24 = .ok (.aload_n 0, 1) := by decide +kernel
theorem dX12_isDouble_25 : decode cX12_isDouble 25 = .ok (.getfield 60, 3) := by decide +kernel
theorem dX12_isDouble_28 : decode cX12_isDouble 28 = .ok (.iload 5, 2) := by decide +kernel
theorem dX12_isDouble_30 : decode cX12_isDouble 30 = .ok (.laload, 1) := by decide +kernel
theorem dX12_isDouble_31 : decode cX12_isDouble 31 = .ok (.lload_n 3, 1) := by decide +kernel
theorem dX12_isDouble_32 : decode cX12_isDouble 32 = .ok (.lcmp, 1) := by decide +kernel
theorem dX12_isDouble_33 : decode cX12_isDouble 33 = .ok (.ifCond .ne 5, 3) := by decide +kernel
theorem dX12_isDouble_36 : decode cX12_isDouble 36 = .ok (.iconst 1, 1) := by decide +kernel
theorem dX12_isDouble_37 : decode cX12_isDouble 37 = .ok (.ireturn, 1) := by decide +kernel
theorem dX12_isDouble_38 : decode cX12_isDouble 38 = .ok (.iinc 5 1, 3) := by decide +kernel
theorem dX12_isDouble_41 : decode cX12_isDouble 41 = .ok (.goto (-38), 3) := by decide +kernel
theorem dX12_isDouble_44 : decode cX12_isDouble 44 = .ok (.iconst 0, 1) := by decide +kernel
theorem dX12_isDouble_45 : decode cX12_isDouble 45 = .ok (.ireturn, 1) := by decide +kernel
theorem dX12_account_0 : decode cX12_account 0 = .ok (.aload_n 0, 1) := by decide +kernel
theorem dX12_account_1 : decode cX12_account 1 = .ok (.getfield 331, 3) := by decide +kernel
theorem dX12_account_4 : decode cX12_account 4 = .ok (.ldc2_w 329, 3) := by decide +kernel
theorem dX12_account_7 : decode cX12_account 7 = .ok (.lcmp, 1) := by decide +kernel
theorem dX12_account_8 : decode cX12_account 8 = .ok (.ifCond .ne 7, 3) := by decide +kernel
theorem dX12_account_11 : decode cX12_account 11 = .ok (.iconst 0, 1) := by decide +kernel
theorem dX12_account_12 : decode cX12_account 12 = .ok (.goto 10, 3) := by decide +kernel
theorem dX12_account_15 : decode cX12_account 15 = .ok (.lload_n 1, 1) := by decide +kernel
theorem dX12_account_16 : decode cX12_account 16 = .ok (.aload_n 0, 1) := by decide +kernel
theorem dX12_account_17 : decode cX12_account 17 = .ok (.getfield 331, 3) := by decide +kernel
theorem dX12_account_20 : decode cX12_account 20 = .ok (.lsub, 1) := by decide +kernel
theorem dX12_account_21 : decode cX12_account 21 = .ok (.l2i, 1) := by decide +kernel
theorem dX12_account_22 : decode cX12_account 22 = .ok (.istore 7, 2) := by decide +kernel
theorem dX12_account_24 : decode cX12_account 24 = .ok (.iload 7, 2) := by decide +kernel
theorem dX12_account_26 : decode cX12_account 26 = .ok (.ifCond .ge 25, 3) := by decide +kernel
theorem dX12_account_29 : decode cX12_account 29 = .ok (.lload_n 1, 1) := by decide +kernel
theorem dX12_account_30 : decode cX12_account 30 = .ok (.lconst 0, 1) := by decide +kernel
theorem dX12_account_31 : decode cX12_account 31 = .ok (.lcmp, 1) := by decide +kernel
theorem dX12_account_32 : decode cX12_account 32 = .ok (.ifCond .ne 19, 3) := by decide +kernel
theorem dX12_account_35 : decode cX12_account 35 = .ok (.lload_n 3, 1) := by decide +kernel
theorem dX12_account_36 : decode cX12_account 36 = .ok (.l2i, 1) := by decide +kernel
theorem dX12_account_37 : decode cX12_account 37 = .ok (.aload_n 0, 1) := by decide +kernel
theorem dX12_account_38 : decode cX12_account 38 = .ok (.getfield 60, 3) := by decide +kernel
theorem dX12_account_41 : decode cX12_account 41 = .ok (.iconst 0, 1) := by decide +kernel
theorem dX12_account_42 : decode cX12_account 42 = .ok (.laload, 1) := by decide +kernel
theorem dX12_account_43 : decode cX12_account 43 = .ok (.l2i, 1) := by decide +kernel
theorem dX12_account_44 : decode cX12_account 44 = .ok (.if_icmp .le 7, 3) := by decide +kernel
theorem dX12_account_47 : decode cX12_account 47 = .ok (.iconst 1, 1) := by decide +kernel
theorem dX12_account_48 : decode cX12_account 48 = .ok (.goto 4, 3) := by decide +kernel
theorem dX12_account_51 : decode cX12_account 51 = .ok (.iconst 0, 1) := by decide +kernel
theorem dX12_account_52 : decode cX12_account 52 = .ok (.istore 8, 2) := by decide +kernel
theorem dX12_account_54 : decode cX12_account 54 = .ok (.iload 7, 2) := by decide +kernel
theorem dX12_account_56 : decode cX12_account 56 = .ok (.ifCond .le 15, 3) := by decide +kernel
theorem dX12_account_59 : decode cX12_account 59 = .ok (.aload_n 0, 1) := by decide +kernel
theorem dX12_account_60 : decode cX12_account 60 = .ok (.getfield 45, 3) := by decide +kernel
theorem dX12_account_63 : decode cX12_account 63 = .ok (.iconst 0, 1) := by decide +kernel
theorem dX12_account_64 : decode cX12_account 64 = .ok (.dup2, 1) := by decide +kernel
theorem dX12_account_65 : decode cX12_account 65 = .ok (.laload, 1) := by decide +kernel
theorem dX12_account_66 : decode cX12_account 66 = .ok (.iload 7, 2) := by decide +kernel
theorem dX12_account_68 : decode cX12_account 68 = .ok (.i2l, 1) := by decide +kernel
theorem dX12_account_69 : decode cX12_account 69 = .ok (.ladd, 1) := by decide +kernel
theorem dX12_account_70 : decode cX12_account 70 = .ok (.lastore, 1) := by decide +kernel
theorem dX12_account_71 : decode cX12_account 71 = .ok (.iload 8, 2) := by decide +kernel
theorem dX12_account_73 : decode cX12_account 73 = .ok (.ifCond .eq 13, 3) := by decide +kernel
theorem dX12_account_76 : decode cX12_account 76 = .ok (.aload_n 0, 1) := by decide +kernel
theorem dX12_account_77 : decode cX12_account 77 = .ok (.getfield 45, 3) := by decide +kernel
theorem dX12_account_80 : decode cX12_account 80 = .ok (.iconst 5, 1) := by decide +kernel
theorem dX12_account_81 : decode cX12_account 81 = .ok (.dup2, 1) := by decide +kernel
theorem dX12_account_82 : decode cX12_account 82 = .ok (.laload, 1) := by decide +kernel
theorem dX12_account_83 : decode cX12_account 83 = .ok (.lconst 1, 1) := by decide +kernel
theorem dX12_account_84 : decode cX12_account 84 = .ok (.ladd, 1) := by decide +kernel
theorem dX12_account_85 : decode cX12_account 85 = .ok (.lastore, 1) := by decide +kernel
theorem dX12_account_86 : decode cX12_account 86 = .ok (.iload 7, 2) := by decide +kernel
theorem dX12_account_88 : decode cX12_account 88 = .ok (.ifCond .ge 52, 3) := by decide +kernel
theorem dX12_account_91 : decode cX12_account 91 = .ok (.iload 8, 2) := by decide +kernel
theorem dX12_account_93 : decode cX12_account 93 = .ok (.ifCond .ne 47, 3) := by decide +kernel
theorem dX12_account_96 : decode cX12_account 96 = .ok (.aload_n 0, 1) := by decide +kernel
theorem dX12_account_97 : decode cX12_account 97 = .ok (.getfield 45, 3) := by decide +kernel
theorem dX12_account_100 : decode cX12_account 100 = .ok (.iconst 1, 1) := by decide +kernel
theorem dX12_account_101 : decode cX12_account 101 = .ok (.dup2, 1) := by decide +kernel
theorem dX12_account_102 : decode cX12_account 102 = .ok (.laload, 1) := by decide +kernel
theorem dX12_account_103 : decode cX12_account 103 = .ok (.lconst 1, 1) := by decide +kernel
theorem dX12_account_104 : decode cX12_account 104 = .ok (.ladd, 1) := by decide +kernel
theorem dX12_account_105 : decode cX12_account 105 = .ok (.lastore, 1) := by decide +kernel
theorem dX12_account_106 : decode cX12_account 106 = .ok (.aload_n 0, 1) := by decide +kernel
theorem dX12_account_107 : decode cX12_account 107 = .ok (.getfield 45, 3) := by decide +kernel
theorem dX12_account_110 : decode cX12_account 110 = .ok (.iconst 0, 1) := by decide +kernel
theorem dX12_account_111 : decode cX12_account 111 = .ok (.aload_n 0, 1) := by decide +kernel
theorem dX12_account_112 : decode cX12_account 112 = .ok (.getfield 45, 3) := by decide +kernel
theorem dX12_account_115 : decode cX12_account 115 = .ok (.iconst 0, 1) := by decide +kernel
theorem dX12_account_116 : decode cX12_account 116 = .ok (.laload, 1) := by decide +kernel
theorem dX12_account_117 : decode cX12_account 117 = .ok (.lload 5, 2) := by decide +kernel
theorem dX12_account_119 : decode cX12_account 119 = .ok (.lcmp, 1) := by decide +kernel
theorem dX12_account_120 : decode cX12_account 120 = .ok (.ifCond .le 15, 3) := by decide +kernel
theorem dX12_account_123 : decode cX12_account 123 = .ok (.aload_n 0, 1) := by decide +kernel
theorem dX12_account_124 : decode cX12_account 124 = .ok (.getfield 45, 3) := by decide +kernel
theorem dX12_account_127 : decode cX12_account 127 = .ok (.iconst 0, 1) := by decide +kernel
theorem dX12_account_128 : decode cX12_account 128 = .ok (.laload, 1) := by decide +kernel
theorem dX12_account_129 : decode cX12_account 129 = .ok (.lload 5, 2) := by decide +kernel
theorem dX12_account_131 : decode cX12_account 131 = .ok (.lsub, 1) := by decide +kernel
theorem dX12_account_132 : decode cX12_account 132 = .ok (.goto 4, 3) := by decide +kernel
theorem dX12_account_135 : decode cX12_account 135 = .ok (.lconst 0, 1) := by decide +kernel
theorem dX12_account_136 : decode cX12_account 136 = .ok (.lastore, 1) := by decide +kernel
theorem dX12_account_137 : decode cX12_account 137 = .ok (.goto 15, 3) := by decide +kernel
theorem dX12_account_140 : decode cX12_account 140 = .ok (.aload_n 0, 1) := by decide +kernel
theorem dX12_account_141 : decode cX12_account 141 = .ok (.lload_n 1, 1) := by decide +kernel
theorem dX12_account_142 : decode cX12_account 142 = .ok (.lload 5, 2) := by decide +kernel
theorem dX12_account_144 : decode cX12_account 144 = .ok (.ladd, 1) := by decide +kernel
theorem dX12_account_145 : decode cX12_account 145 = .ok (.ldc2_w 306, 3) := by decide +kernel
theorem dX12_account_148 : decode cX12_account 148 = .ok (.land, 1) := by decide +kernel
theorem dX12_account_149 : decode cX12_account 149 = .ok (.putfield 331, 3) := by decide +kernel
theorem dX12_account_152 : decode cX12_account 152 = .ok (.aload_n 0, 1) := by decide +kernel
theorem dX12_account_153 : decode cX12_account 153 = .ok (.aload_n 0, 1) := by decide +kernel
theorem dX12_account_154 : decode cX12_account 154 = .ok (.getfield 326, 3) := by decide +kernel
theorem dX12_account_157 : decode cX12_account 157 = .ok (.bipush 8, 2) := by decide +kernel
theorem dX12_account_159 : decode cX12_account 159 = .ok (.if_icmp .ge 12, 3) := by decide +kernel
theorem dX12_account_162 : decode cX12_account 162 = .ok (.aload_n 0, 1) := by decide +kernel
theorem dX12_account_163 : decode cX12_account 163 = .ok (.getfield 326, 3) := by decide +kernel
theorem dX12_account_166 : decode cX12_account 166 = .ok (.iconst 1, 1) := by decide +kernel
theorem dX12_account_167 : decode cX12_account 167 = .ok (.iadd, 1) := by decide +kernel
theorem dX12_account_168 : decode cX12_account 168 = .ok (.goto 5, 3) := by decide +kernel
theorem dX12_account_171 : decode cX12_account 171 = .ok (.bipush 8, 2) := by decide +kernel
theorem dX12_account_173 : decode cX12_account 173 = .ok (.putfield 326, 3) := by decide +kernel
theorem dX12_account_176 : decode cX12_account 176 = .ok (.aload_n 0, 1) := by decide +kernel
theorem dX12_account_177 : decode cX12_account 177 = .ok (.getfield 326, 3) := by decide +kernel
theorem dX12_account_180 : decode cX12_account 180 = .ok (.iconst 1, 1) := by decide +kernel
theorem dX12_account_181 : decode cX12_account 181 = .ok (.isub, 1) := by decide +kernel
theorem dX12_account_182 : decode cX12_account 182 = .ok (.istore 9, 2) := by decide +kernel
theorem dX12_account_184 : decode cX12_account 184 = .ok (.iload 9, 2) := by decide +kernel
theorem dX12_account_186 : decode cX12_account 186 = .ok (.ifCond .le 41, 3) := by decide +kernel
theorem dX12_account_189 : decode cX12_account 189 = .ok (.aload_n 0, 1) := by decide +kernel
theorem dX12_account_190 : decode cX12_account 190 = .ok (.getfield 57, 3) := by decide +kernel
theorem dX12_account_193 : decode cX12_account 193 = .ok (.iload 9, 2) := by decide +kernel
theorem dX12_account_195 : decode cX12_account 195 = .ok (.aload_n 0, 1) := by decide +kernel
theorem dX12_account_196 : decode cX12_account 196 = .ok (.getfield 57, 3) := by decide +kernel
theorem dX12_account_199 : decode cX12_account 199 = .ok (.iload 9, 2) := by decide +kernel
theorem dX12_account_201 : decode cX12_account 201 = .ok (.iconst 1, 1) := by decide +kernel
theorem dX12_account_202 : decode cX12_account 202 = .ok (.isub, 1) := by decide +kernel
theorem dX12_account_203 : decode cX12_account 203 = .ok (.laload, 1) := by decide +kernel
theorem dX12_account_204 : decode cX12_account 204 = .ok (.lastore, 1) := by decide +kernel
theorem dX12_account_205 : decode cX12_account 205 = .ok (.aload_n 0, 1) := by decide +kernel
theorem dX12_account_206 : decode cX12_account 206 = .ok (.getfield 60, 3) := by decide +kernel
theorem dX12_account_209 : decode cX12_account 209 = .ok (.iload 9, 2) := by decide +kernel
theorem dX12_account_211 : decode cX12_account 211 = .ok (.aload_n 0, 1) := by decide +kernel
theorem dX12_account_212 : decode cX12_account 212 = .ok (.getfield 60, 3) := by decide +kernel
theorem dX12_account_215 : decode cX12_account 215 = .ok (.iload 9, 2) := by decide +kernel
theorem dX12_account_217 : decode cX12_account 217 = .ok (.iconst 1, 1) := by decide +kernel
theorem dX12_account_218 : decode cX12_account 218 = .ok (.isub, 1) := by decide +kernel
theorem dX12_account_219 : decode cX12_account 219 = .ok (.laload, 1) := by decide +kernel
theorem dX12_account_220 : decode cX12_account 220 = .ok (.lastore, 1) := by decide +kernel
theorem dX12_account_221 : decode cX12_account 221 = .ok (.iinc 9 (-1), 3) := by decide +kernel
theorem dX12_account_224 : decode cX12_account 224 = .ok (.goto (-40), 3) := by decide +kernel
theorem dX12_account_227 : decode cX12_account 227 = .ok (.aload_n 0, 1) := by decide +kernel
theorem dX12_account_228 : decode cX12_account 228 = .ok (.getfield 57, 3) := by decide +kernel
theorem dX12_account_231 : decode cX12_account 231 = .ok (.iconst 0, 1) := by decide +kernel
theorem dX12_account_232 : decode cX12_account 232 = .ok (.lload_n 1, 1) := by decide +kernel
theorem dX12_account_233 : decode cX12_account 233 = .ok (.lastore, 1) := by decide +kernel
theorem dX12_account_234 : decode cX12_account 234 = .ok (.aload_n 0, 1) := by decide +kernel
theorem dX12_account_235 : decode cX12_account 235 = .ok (.getfield 60, 3) := by decide +kernel
theorem dX12_account_238 : decode cX12_account 238 = .ok (.iconst 0, 1) := by decide +kernel
theorem dX12_account_239 : decode cX12_account 239 = .ok (.lload_n 3, 1) := by decide +kernel
theorem dX12_account_240 : decode cX12_account 240 = .ok (.lastore, 1) := by decide +kernel
theorem dX12_account_241 : decode cX12_account 241 = .ok (.return_, 1) := by decide +kernel
theorem dJxe99ae_isNaN_b9ae7_0 : decode cJxe99ae_isNaN_b9ae7 0 = .ok (.dload_n 0, 1) := by decide +kernel
theorem dJxe99ae_isNaN_b9ae7_1 : decode cJxe99ae_isNaN_b9ae7 1 = .ok (.dload_n 0, 1) := by decide +kernel
theorem dJxe99ae_isNaN_b9ae7_2 : decode cJxe99ae_isNaN_b9ae7 2 = .ok (.dcmp .l, 1) := by decide +kernel
theorem dJxe99ae_isNaN_b9ae7_3 : decode cJxe99ae_isNaN_b9ae7 3 = .ok (.ifCond .eq 7, 3) := by decide +kernel
theorem dJxe99ae_isNaN_b9ae7_10 : decode cJxe99ae_isNaN_b9ae7 10 = .ok (.iconst 0, 1) := by decide +kernel
theorem dJxe99ae_isNaN_b9ae7_11 : decode cJxe99ae_isNaN_b9ae7 11 = .ok (.ireturn, 1) := by decide +kernel
set_option maxRecDepth 20000 in
theorem ggJxe99ae_doubleToLongBits_ccdee_Jxe99ae_isNaN_b9ae7 : GoodIn wsJxe99ae_doubleToLongBits_ccdee wsJxe99ae_isNaN_b9ae7 := goodIn_r _ [9] rfl (by decide +kernel)
set_option maxRecDepth 20000 in
theorem gJxe99ae_doubleToLongBits_ccdee_Jxe99ae_isNaN_b9ae7 : GoodIn wsJxe99ae_doubleToLongBits_ccdee (va_wsS RJxe99ae 122 yJxe99ae_isNaN_b9ae7 wsJxe99ae_isNaN_b9ae7) := goodIn_app (goodIn_of _ (by decide +kernel)) ggJxe99ae_doubleToLongBits_ccdee_Jxe99ae_isNaN_b9ae7
theorem dJxe99ae_doubleToLongBits_ccdee_0 : decode cJxe99ae_doubleToLongBits_ccdee 0 = .ok (.dload_n 0, 1) := by decide +kernel
theorem dJxe99ae_doubleToLongBits_ccdee_1 : decode cJxe99ae_doubleToLongBits_ccdee 1 = .ok (.invokestatic 122, 3) := by decide +kernel
theorem dJxe99ae_doubleToLongBits_ccdee_4 : decode cJxe99ae_doubleToLongBits_ccdee 4 = .ok (.ifCond .ne 8, 3) := by decide +kernel
theorem dJxe99ae_doubleToLongBits_ccdee_7 : decode cJxe99ae_doubleToLongBits_ccdee 7 = .ok (.dload_n 0, 1) := by decide +kernel
theorem dJxe99ae_doubleToLongBits_ccdee_8 : decode cJxe99ae_doubleToLongBits_ccdee 8 = .ok (.invokestatic 134, 3) := by decide +kernel
theorem dJxe99ae_doubleToLongBits_ccdee_11 : decode cJxe99ae_doubleToLongBits_ccdee 11 = .ok (.lreturn, 1) := by decide +kernel

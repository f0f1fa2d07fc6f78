theorem dX0_isRecent_0 : decode cX0_isRecent 0 = .ok (.iconst 0, 1) := by decide +kernel
theorem dX0_isRecent_1 : decode cX0_isRecent 1 = .ok (.istore_n 3, 1) := by decide +kernel
theorem dX0_isRecent_2 : decode cX0_isRecent 2 = .ok (.iload_n 3, 1) := by decide +kernel
theorem dX0_isRecent_3 : decode cX0_isRecent 3 = .ok (.bipush 8, 2) := by decide +kernel
theorem dX0_isRecent_5 : decode cX0_isRecent 5 = .ok (.if_icmp .ge 39, 3) := by decide +kernel
theorem dX0_isRecent_8 : decode cX0_isRecent 8 = .ok (.iload_n 3, 1) := by decide +kernel
theorem dX0_isRecent_9 : decode cX0_isRecent 9 = .ok (.aload_n 0, 1) := by decide +kernel
theorem dX0_isRecent_10 : decode cX0_isRecent 10 = .ok (.getfield 39, 3) := by decide +kernel
theorem dX0_isRecent_13 : decode cX0_isRecent 13 = .ok (.if_icmp .ge 31, 3) := by decide +kernel
theorem dX0_isRecent_16 : decode cX0_isRecent 16 = .ok (.aload_n 0, 1) := by decide +kernel
theorem dX0_isRecent_17 : decode cX0_isRecent 17 = .ok (.getfield 26, 3) := by decide +kernel
theorem dX0_isRecent_20 : decode cX0_isRecent 20 = .ok (.iload_n 3, 1) := by decide +kernel
theorem dX0_isRecent_21 : decode cX0_isRecent 21 = .ok (.iaload, 1) := by decide +kernel
theorem dX0_isRecent_22 : decode cX0_isRecent 22 = .ok (.iload_n 1, 1) := by decide +kernel
theorem dX0_isRecent_23 : decode cX0_isRecent 23 = .ok (.if_icmp .ne 15, 3) := by decide +kernel
theorem dX0_isRecent_26 : decode cX0_isRecent 26 = .ok (.aload_n 0, 1) := by decide +kernel
theorem dX0_isRecent_27 : decode cX0_isRecent 27 = .ok (.getfield 29, 3) := by decide +kernel
theorem dX0_isRecent_30 : decode cX0_isRecent 30 = .ok (.iload_n 3, 1) := by decide +kernel
theorem dX0_isRecent_31 : decode cX0_isRecent 31 = .ok (.iaload, 1) := by decide +kernel
theorem dX0_isRecent_32 : decode cX0_isRecent 32 = .ok (.iload_n 2, 1) := by decide +kernel
theorem dX0_isRecent_33 : decode cX0_isRecent 33 = .ok (.if_icmp .ne 5, 3) := by decide +kernel
theorem dX0_isRecent_36 : decode cX0_isRecent 36 = .ok (.iconst 1, 1) := by decide +kernel
theorem dX0_isRecent_37 : decode cX0_isRecent 37 = .ok (.ireturn, 1) := by decide +kernel
theorem dX0_isRecent_38 : decode cX0_isRecent 38 = .ok (.iinc 3 1, 3) := by decide +kernel
theorem dX0_isRecent_41 : decode cX0_isRecent 41 = .ok (.goto (-39), 3) := by decide +kernel
theorem dX0_isRecent_44 : decode cX0_isRecent 44 = .ok (.iconst 0, 1) := by decide +kernel
theorem dX0_isRecent_45 : decode cX0_isRecent 45 = .ok (.ireturn, 1) := by decide +kernel
set_option maxRecDepth 20000 in
theorem ggX0_account_X0_hasStarted : GoodIn wsX0_account wsX0_hasStarted := goodIn_r _ [15, 8, 16, 17, 18, 19, 20, 21, 22, 23, 24, 25, 26, 27] rfl (by decide +kernel)
set_option maxRecDepth 20000 in
theorem gX0_account_X0_hasStarted : GoodIn wsX0_account (wsV RX0 111 RX0 yX0_hasStarted wsX0_hasStarted) := goodIn_app (goodIn_of _ (by decide +kernel)) ggX0_account_X0_hasStarted
theorem dX0_account_0 : decode cX0_account 0 = .ok (.aload_n 0, 1) := by decide +kernel
theorem dX0_account_1 : decode cX0_account 1 = .ok (.invokevirtual 111, 3) := by decide +kernel
theorem dX0_account_4 : decode cX0_account 4 = .ok (.ifCond .eq 12, 3) := by decide +kernel
theorem dX0_account_7 : decode cX0_account 7 = .ok (.iload_n 1, 1) := by decide +kernel
theorem dX0_account_8 : decode cX0_account 8 = .ok (.aload_n 0, 1) := by decide +kernel
theorem dX0_account_9 : decode cX0_account 9 = .ok (.getfield 46, 3) := by decide +kernel
theorem dX0_account_12 : decode cX0_account 12 = .ok (.isub, 1) := by decide +kernel
theorem dX0_account_13 : decode cX0_account 13 = .ok (.goto 4, 3) := by decide +kernel
theorem dX0_account_16 : decode cX0_account 16 = .ok (.iconst 0, 1) := by decide +kernel
theorem dX0_account_17 : decode cX0_account 17 = .ok (.istore 4, 2) := by decide +kernel
theorem dX0_account_19 : decode cX0_account 19 = .ok (.iload 4, 2) := by decide +kernel
theorem dX0_account_21 : decode cX0_account 21 = .ok (.ifCond .ge 19, 3) := by decide +kernel
theorem dX0_account_24 : decode cX0_account 24 = .ok (.iload_n 1, 1) := by decide +kernel
theorem dX0_account_25 : decode cX0_account 25 = .ok (.ifCond .ne 15, 3) := by decide +kernel
theorem dX0_account_28 : decode cX0_account 28 = .ok (.iload_n 2, 1) := by decide +kernel
theorem dX0_account_29 : decode cX0_account 29 = .ok (.aload_n 0, 1) := by decide +kernel
theorem dX0_account_30 : decode cX0_account 30 = .ok (.getfield 43, 3) := by decide +kernel
theorem dX0_account_33 : decode cX0_account 33 = .ok (.if_icmp .le 7, 3) := by decide +kernel
theorem dX0_account_36 : decode cX0_account 36 = .ok (.iconst 1, 1) := by decide +kernel
theorem dX0_account_37 : decode cX0_account 37 = .ok (.goto 4, 3) := by decide +kernel
theorem dX0_account_40 : decode cX0_account 40 = .ok (.iconst 0, 1) := by decide +kernel
theorem dX0_account_41 : decode cX0_account 41 = .ok (.istore 5, 2) := by decide +kernel
theorem dX0_account_43 : decode cX0_account 43 = .ok (.iload 4, 2) := by decide +kernel
theorem dX0_account_45 : decode cX0_account 45 = .ok (.ifCond .ge 12, 3) := by decide +kernel
theorem dX0_account_48 : decode cX0_account 48 = .ok (.iload 5, 2) := by decide +kernel
theorem dX0_account_50 : decode cX0_account 50 = .ok (.ifCond .ne 7, 3) := by decide +kernel
theorem dX0_account_53 : decode cX0_account 53 = .ok (.iconst 1, 1) := by decide +kernel
theorem dX0_account_54 : decode cX0_account 54 = .ok (.goto 4, 3) := by decide +kernel
theorem dX0_account_57 : decode cX0_account 57 = .ok (.iconst 0, 1) := by decide +kernel
theorem dX0_account_58 : decode cX0_account 58 = .ok (.istore 6, 2) := by decide +kernel
theorem dX0_account_60 : decode cX0_account 60 = .ok (.iload 4, 2) := by decide +kernel
theorem dX0_account_62 : decode cX0_account 62 = .ok (.ifCond .le 15, 3) := by decide +kernel
theorem dX0_account_65 : decode cX0_account 65 = .ok (.aload_n 0, 1) := by decide +kernel
theorem dX0_account_66 : decode cX0_account 66 = .ok (.getfield 32, 3) := by decide +kernel
theorem dX0_account_69 : decode cX0_account 69 = .ok (.iconst 0, 1) := by decide +kernel
theorem dX0_account_70 : decode cX0_account 70 = .ok (.dup2, 1) := by decide +kernel
theorem dX0_account_71 : decode cX0_account 71 = .ok (.laload, 1) := by decide +kernel
theorem dX0_account_72 : decode cX0_account 72 = .ok (.iload 4, 2) := by decide +kernel
theorem dX0_account_74 : decode cX0_account 74 = .ok (.i2l, 1) := by decide +kernel
theorem dX0_account_75 : decode cX0_account 75 = .ok (.ladd, 1) := by decide +kernel
theorem dX0_account_76 : decode cX0_account 76 = .ok (.lastore, 1) := by decide +kernel
theorem dX0_account_77 : decode cX0_account 77 = .ok (.iload 5, 2) := by decide +kernel
theorem dX0_account_79 : decode cX0_account 79 = .ok (.ifCond .eq 13, 3) := by decide +kernel
theorem dX0_account_82 : decode cX0_account 82 = .ok (.aload_n 0, 1) := by decide +kernel
theorem dX0_account_83 : decode cX0_account 83 = .ok (.getfield 32, 3) := by decide +kernel
theorem dX0_account_86 : decode cX0_account 86 = .ok (.iconst 5, 1) := by decide +kernel
theorem dX0_account_87 : decode cX0_account 87 = .ok (.dup2, 1) := by decide +kernel
theorem dX0_account_88 : decode cX0_account 88 = .ok (.laload, 1) := by decide +kernel
theorem dX0_account_89 : decode cX0_account 89 = .ok (.lconst 1, 1) := by decide +kernel
theorem dX0_account_90 : decode cX0_account 90 = .ok (.ladd, 1) := by decide +kernel
theorem dX0_account_91 : decode cX0_account 91 = .ok (.lastore, 1) := by decide +kernel
theorem dX0_account_92 : decode cX0_account 92 = .ok (.iload 6, 2) := by decide +kernel
theorem dX0_account_94 : decode cX0_account 94 = .ok (.ifCond .eq 35, 3) := by decide +kernel
theorem dX0_account_97 : decode cX0_account 97 = .ok (.aload_n 0, 1) := by decide +kernel
theorem dX0_account_98 : decode cX0_account 98 = .ok (.getfield 32, 3) := by decide +kernel
theorem dX0_account_101 : decode cX0_account 101 = .ok (.iconst 1, 1) := by decide +kernel
theorem dX0_account_102 : decode cX0_account 102 = .ok (.dup2, 1) := by decide +kernel
theorem dX0_account_103 : decode cX0_account 103 = .ok (.laload, 1) := by decide +kernel
theorem dX0_account_104 : decode cX0_account 104 = .ok (.lconst 1, 1) := by decide +kernel
theorem dX0_account_105 : decode cX0_account 105 = .ok (.ladd, 1) := by decide +kernel
theorem dX0_account_106 : decode cX0_account 106 = .ok (.lastore, 1) := by decide +kernel
theorem dX0_account_107 : decode cX0_account 107 = .ok (.aload_n 0, 1) := by decide +kernel
theorem dX0_account_108 : decode cX0_account 108 = .ok (.getfield 32, 3) := by decide +kernel
theorem dX0_account_111 : decode cX0_account 111 = .ok (.iconst 0, 1) := by decide +kernel
theorem dX0_account_112 : decode cX0_account 112 = .ok (.lconst 0, 1) := by decide +kernel
theorem dX0_account_113 : decode cX0_account 113 = .ok (.aload_n 0, 1) := by decide +kernel
theorem dX0_account_114 : decode cX0_account 114 = .ok (.getfield 32, 3) := by decide +kernel
theorem dX0_account_117 : decode cX0_account 117 = .ok (.iconst 0, 1) := by decide +kernel
theorem dX0_account_118 : decode cX0_account 118 = .ok (.laload, 1) := by decide +kernel
theorem dX0_account_119 : decode cX0_account 119 = .ok (.iload_n 3, 1) := by decide +kernel
theorem dX0_account_120 : decode cX0_account 120 = .ok (.i2l, 1) := by decide +kernel
theorem dX0_account_121 : decode cX0_account 121 = .ok (.lsub, 1) := by decide +kernel
theorem dX0_account_122 : decode cX0_account 122 = .ok (.invokestatic 115, 3) := by decide +kernel
theorem dX0_account_125 : decode cX0_account 125 = .ok (.lastore, 1) := by decide +kernel
theorem dX0_account_126 : decode cX0_account 126 = .ok (.goto 10, 3) := by decide +kernel
theorem dX0_account_129 : decode cX0_account 129 = .ok (.aload_n 0, 1) := by decide +kernel
theorem dX0_account_130 : decode cX0_account 130 = .ok (.iload_n 1, 1) := by decide +kernel
theorem dX0_account_131 : decode cX0_account 131 = .ok (.iload_n 3, 1) := by decide +kernel
theorem dX0_account_132 : decode cX0_account 132 = .ok (.iadd, 1) := by decide +kernel
theorem dX0_account_133 : decode cX0_account 133 = .ok (.putfield 46, 3) := by decide +kernel
theorem dX0_account_136 : decode cX0_account 136 = .ok (.aload_n 0, 1) := by decide +kernel
theorem dX0_account_137 : decode cX0_account 137 = .ok (.getfield 39, 3) := by decide +kernel
theorem dX0_account_140 : decode cX0_account 140 = .ok (.bipush 8, 2) := by decide +kernel
theorem dX0_account_142 : decode cX0_account 142 = .ok (.irem, 1) := by decide +kernel
theorem dX0_account_143 : decode cX0_account 143 = .ok (.istore 7, 2) := by decide +kernel
theorem dX0_account_145 : decode cX0_account 145 = .ok (.aload_n 0, 1) := by decide +kernel
theorem dX0_account_146 : decode cX0_account 146 = .ok (.getfield 26, 3) := by decide +kernel
theorem dX0_account_149 : decode cX0_account 149 = .ok (.iload 7, 2) := by decide +kernel
theorem dX0_account_151 : decode cX0_account 151 = .ok (.iload_n 1, 1) := by decide +kernel
theorem dX0_account_152 : decode cX0_account 152 = .ok (.iastore, 1) := by decide +kernel
theorem dX0_account_153 : decode cX0_account 153 = .ok (.aload_n 0, 1) := by decide +kernel
theorem dX0_account_154 : decode cX0_account 154 = .ok (.getfield 29, 3) := by decide +kernel
theorem dX0_account_157 : decode cX0_account 157 = .ok (.iload 7, 2) := by decide +kernel
theorem dX0_account_159 : decode cX0_account 159 = .ok (.iload_n 2, 1) := by decide +kernel
theorem dX0_account_160 : decode cX0_account 160 = .ok (.iastore, 1) := by decide +kernel
theorem dX0_account_161 : decode cX0_account 161 = .ok (.aload_n 0, 1) := by decide +kernel
theorem dX0_account_162 : decode cX0_account 162 = .ok (.dup, 1) := by decide +kernel
theorem dX0_account_163 : decode cX0_account 163 = .ok (.getfield 39, 3) := by decide +kernel
theorem dX0_account_166 : decode cX0_account 166 = .ok (.iconst 1, 1) := by decide +kernel
theorem dX0_account_167 : decode cX0_account 167 = .ok (.iadd, 1) := by decide +kernel
theorem dX0_account_168 : decode cX0_account 168 = .ok (.putfield 39, 3) := by decide +kernel
theorem dX0_account_171 : decode cX0_account 171 = .ok (.aload_n 0, 1) := by decide +kernel
theorem dX0_account_172 : decode cX0_account 172 = .ok (.iload_n 2, 1) := by decide +kernel
theorem dX0_account_173 : decode cX0_account 173 = .ok (.putfield 43, 3) := by decide +kernel
theorem dX0_account_176 : decode cX0_account 176 = .ok (.return_, 1) := by decide +kernel

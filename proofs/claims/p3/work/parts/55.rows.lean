set_option maxRecDepth 20000 in
theorem ggX12_see_X12_remember : GoodIn wsX12_see wsX12_remember := goodIn_ca (goodIn_r _ [11, 12, 13, 14, 15, 16, 17, 10, 18, 19, 20, 21, 92, 93, 94, 95, 96, 97, 98, 99, 100, 101, 102, 103, 104, 105, 106, 107, 108, 109, 110, 111, 112, 113, 114, 115, 116, 117, 118, 119, 120, 121, 122, 123, 124, 125, 126, 127, 128, 129, 130, 131, 132, 133, 134, 135, 136, 137, 138, 139, 140, 141, 142, 143, 144, 145] rfl (by decide +kernel)) (goodIn_sub (fun _ h => List.mem_cons_of_mem _ (List.mem_append_left _ (List.mem_append_right _ h))) (by decide +kernel))
set_option maxRecDepth 20000 in
theorem gX12_see_X12_remember : GoodIn wsX12_see (wsV RX12 228 RX12 yX12_remember wsX12_remember) := goodIn_app (goodIn_of _ (by decide +kernel)) ggX12_see_X12_remember
set_option maxRecDepth 20000 in
theorem ggX12_see_X12_draw : GoodIn wsX12_see wsX12_draw := goodIn_ca (goodIn_r _ [25, 26, 27, 28, 29, 92, 93, 94, 95, 96, 97, 98, 99, 100, 101, 102, 103, 104, 105, 106, 107, 108, 109, 110, 111, 112, 113, 114, 115, 116, 117, 118, 119, 120, 121, 122, 123, 124, 125, 126, 127, 128, 129, 130, 131, 132, 133, 134, 135, 136, 137, 138, 139, 140, 141, 142, 143, 144, 145] rfl (by decide +kernel)) (goodIn_sub (fun _ h => List.mem_cons_of_mem _ (List.mem_append_right _ h)) (by decide +kernel))
set_option maxRecDepth 20000 in
theorem gX12_see_X12_draw : GoodIn wsX12_see (wsV RX12 232 RX12 yX12_draw wsX12_draw) := goodIn_app (goodIn_of _ (by decide +kernel)) ggX12_see_X12_draw
set_option maxRecDepth 20000 in
theorem ggX12_see_X12_flowOf : GoodIn wsX12_see wsX12_flowOf := goodIn_ca (goodIn_r _ [33, 4, 5, 92, 93, 94, 95, 96, 97, 98, 99, 100, 101, 102, 103, 104, 105, 106, 107, 108, 109, 110, 111, 112, 113, 114, 115, 116, 117, 118, 119, 120, 121, 122, 123, 124, 125, 126, 127, 128, 129, 130, 131, 132, 133, 134, 135, 136, 137, 138, 139, 140, 141, 142, 143, 144, 145] rfl (by decide +kernel)) (goodIn_sub (fun _ h => List.mem_cons_of_mem _ (List.mem_append_left _ (List.mem_append_right _ h))) (by decide +kernel))
set_option maxRecDepth 20000 in
theorem gX12_see_X12_flowOf : GoodIn wsX12_see (wsV RX12 235 RX12 yX12_flowOf wsX12_flowOf) := goodIn_app (goodIn_of _ (by decide +kernel)) ggX12_see_X12_flowOf
set_option maxRecDepth 20000 in
theorem ggX12_see_X12_makeRoom : GoodIn wsX12_see wsX12_makeRoom := goodIn_ca (goodIn_r _ [37, 4, 5, 38, 39, 40, 10, 41, 42, 43, 44, 45, 46, 47, 48, 49, 50, 51, 52, 53, 54, 55, 56, 57, 58, 59, 60, 61, 62, 63, 64, 65, 66, 67, 68, 69, 70, 71, 72, 73, 74, 75, 76, 77, 78, 79, 2, 80, 81, 82, 83, 84, 85, 86, 87, 88, 89, 90, 91, 92, 93, 94, 95, 96, 97, 98, 99, 100, 101, 102, 103, 104, 105, 106, 107, 108, 109, 110, 111, 112, 113, 114, 115, 116, 117, 118, 119, 120, 121, 122, 123, 124, 125, 126, 127, 128, 129, 130, 131, 132, 133, 134, 135, 136, 137, 138, 139, 140, 141, 142, 143, 144, 145] rfl (by decide +kernel)) (goodIn_sub (fun _ h => List.mem_cons_of_mem _ (List.mem_append_left _ (List.mem_append_right _ h))) (by decide +kernel))
set_option maxRecDepth 20000 in
theorem gX12_see_X12_makeRoom : GoodIn wsX12_see (wsV RX12 239 RX12 yX12_makeRoom wsX12_makeRoom) := goodIn_app (goodIn_of _ (by decide +kernel)) ggX12_see_X12_makeRoom
theorem dX12_see_0 : decode cX12_see 0 = .ok (.aload_n 0, 1) := by decide +kernel
theorem dX12_see_1 : decode cX12_see 1 = .ok (.dup, 1) := by decide +kernel
theorem dX12_see_2 : decode cX12_see 2 = .ok (.getfield 117, 3) := by decide +kernel
theorem dX12_see_5 : decode cX12_see 5 = .ok (.lconst 1, 1) := by decide +kernel
theorem dX12_see_6 : decode cX12_see 6 = .ok (.ladd, 1) := by decide +kernel
theorem dX12_see_7 : decode cX12_see 7 = .ok (.putfield 117, 3) := by decide +kernel
theorem dX12_see_10 : decode cX12_see 10 = .ok (.aload_n 0, 1) := by decide +kernel
theorem dX12_see_11 : decode cX12_see 11 = .ok (.iload_n 1, 1) := by decide +kernel
theorem dX12_see_12 : decode cX12_see 12 = .ok (.iload_n 2, 1) := by decide +kernel
theorem dX12_see_13 : decode cX12_see 13 = .ok (.iload_n 3, 1) := by decide +kernel
theorem dX12_see_14 : decode cX12_see 14 = .ok (.iload 4, 2) := by decide +kernel
theorem dX12_see_16 : decode cX12_see 16 = .ok (.iload 5, 2) := by decide +kernel
theorem dX12_see_18 : decode cX12_see 18 = .ok (.invokevirtual 228, 3) := by decide +kernel
theorem dX12_see_21 : decode cX12_see 21 = .ok (.aload_n 0, 1) := by decide +kernel
theorem dX12_see_22 : decode cX12_see 22 = .ok (.getfield 107, 3) := by decide +kernel
theorem dX12_see_25 : decode cX12_see 25 = .ok (.iconst 1, 1) := by decide +kernel
theorem dX12_see_26 : decode cX12_see 26 = .ok (.if_icmp .le 16, 3) := by decide +kernel
theorem dX12_see_29 : decode cX12_see 29 = .ok (.aload_n 0, 1) := by decide +kernel
theorem dX12_see_30 : decode cX12_see 30 = .ok (.aload_n 0, 1) := by decide +kernel
theorem dX12_see_31 : decode cX12_see 31 = .ok (.getfield 107, 3) := by decide +kernel
theorem dX12_see_34 : decode cX12_see 34 = .ok (.invokevirtual 232, 3) := by decide +kernel
theorem dX12_see_37 : decode cX12_see 37 = .ok (.ifCond .eq 5, 3) := by decide +kernel
theorem dX12_see_40 : decode cX12_see 40 = .ok (.iconst 0, 1) := by decide +kernel
theorem dX12_see_41 : decode cX12_see 41 = .ok (.ireturn, 1) := by decide +kernel
theorem dX12_see_42 : decode cX12_see 42 = .ok (.aload_n 0, 1) := by decide +kernel
theorem dX12_see_43 : decode cX12_see 43 = .ok (.dup, 1) := by decide +kernel
theorem dX12_see_44 : decode cX12_see 44 = .ok (.getfield 121, 3) := by decide +kernel
theorem dX12_see_47 : decode cX12_see 47 = .ok (.lconst 1, 1) := by decide +kernel
theorem dX12_see_48 : decode cX12_see 48 = .ok (.ladd, 1) := by decide +kernel
theorem dX12_see_49 : decode cX12_see 49 = .ok (.putfield 121, 3) := by decide +kernel
theorem dX12_see_52 : decode cX12_see 52 = .ok (.aload_n 0, 1) := by decide +kernel
theorem dX12_see_53 : decode cX12_see 53 = .ok (.iload_n 1, 1) := by decide +kernel
theorem dX12_see_54 : decode cX12_see 54 = .ok (.iload_n 2, 1) := by decide +kernel
theorem dX12_see_55 : decode cX12_see 55 = .ok (.iload_n 3, 1) := by decide +kernel
theorem dX12_see_56 : decode cX12_see 56 = .ok (.iload 4, 2) := by decide +kernel
theorem dX12_see_58 : decode cX12_see 58 = .ok (.invokevirtual 235, 3) := by decide +kernel
theorem dX12_see_61 : decode cX12_see 61 = .ok (.istore 6, 2) := by decide +kernel
theorem dX12_see_63 : decode cX12_see 63 = .ok (.iload 6, 2) := by decide +kernel
theorem dX12_see_65 : decode cX12_see 65 = .ok (.iconst (-1), 1) := by decide +kernel
theorem dX12_see_66 : decode cX12_see 66 = .ok (.if_icmp .ne 108, 3) := by decide +kernel
theorem dX12_see_69 : decode cX12_see 69 = .ok (.aload_n 0, 1) := by decide +kernel
theorem dX12_see_70 : decode cX12_see 70 = .ok (.invokevirtual 239, 3) := by decide +kernel
theorem dX12_see_73 : decode cX12_see 73 = .ok (.aload_n 0, 1) := by decide +kernel
theorem dX12_see_74 : decode cX12_see 74 = .ok (.getfield 133, 3) := by decide +kernel
theorem dX12_see_77 : decode cX12_see 77 = .ok (.istore 6, 2) := by decide +kernel
theorem dX12_see_79 : decode cX12_see 79 = .ok (.aload_n 0, 1) := by decide +kernel
theorem dX12_see_80 : decode cX12_see 80 = .ok (.dup, 1) := by decide +kernel
theorem dX12_see_81 : decode cX12_see 81 = .ok (.getfield 133, 3) := by decide +kernel
theorem dX12_see_84 : decode cX12_see 84 = .ok (.iconst 1, 1) := by decide +kernel
theorem dX12_see_85 : decode cX12_see 85 = .ok (.iadd, 1) := by decide +kernel
theorem dX12_see_86 : decode cX12_see 86 = .ok (.putfield 133, 3) := by decide +kernel
theorem dX12_see_89 : decode cX12_see 89 = .ok (.bipush 8, 2) := by decide +kernel
theorem dX12_see_91 : decode cX12_see 91 = .ok (.iload 6, 2) := by decide +kernel
theorem dX12_see_93 : decode cX12_see 93 = .ok (.imul, 1) := by decide +kernel
theorem dX12_see_94 : decode cX12_see 94 = .ok (.istore 7, 2) := by decide +kernel
theorem dX12_see_96 : decode cX12_see 96 = .ok (.aload_n 0, 1) := by decide +kernel
theorem dX12_see_97 : decode cX12_see 97 = .ok (.getfield 26, 3) := by decide +kernel
theorem dX12_see_100 : decode cX12_see 100 = .ok (.iload 7, 2) := by decide +kernel
theorem dX12_see_102 : decode cX12_see 102 = .ok (.iload_n 1, 1) := by decide +kernel
theorem dX12_see_103 : decode cX12_see 103 = .ok (.i2l, 1) := by decide +kernel
theorem dX12_see_104 : decode cX12_see 104 = .ok (.lastore, 1) := by decide +kernel
theorem dX12_see_105 : decode cX12_see 105 = .ok (.aload_n 0, 1) := by decide +kernel
theorem dX12_see_106 : decode cX12_see 106 = .ok (.getfield 26, 3) := by decide +kernel
theorem dX12_see_109 : decode cX12_see 109 = .ok (.iload 7, 2) := by decide +kernel
theorem dX12_see_111 : decode cX12_see 111 = .ok (.iconst 1, 1) := by decide +kernel
theorem dX12_see_112 : decode cX12_see 112 = .ok (.iadd, 1) := by decide +kernel
theorem dX12_see_113 : decode cX12_see 113 = .ok (.iload_n 2, 1) := by decide +kernel
theorem dX12_see_114 : decode cX12_see 114 = .ok (.i2l, 1) := by decide +kernel
theorem dX12_see_115 : decode cX12_see 115 = .ok (.lastore, 1) := by decide +kernel
theorem dX12_see_116 : decode cX12_see 116 = .ok (.aload_n 0, 1) := by decide +kernel
theorem dX12_see_117 : decode cX12_see 117 = .ok (.getfield 26, 3) := by decide +kernel
theorem dX12_see_120 : decode cX12_see 120 = .ok (.iload 7, 2) := by decide +kernel
theorem dX12_see_122 : decode cX12_see 122 = .ok (.iconst 2, 1) := by decide +kernel
theorem dX12_see_123 : decode cX12_see 123 = .ok (.iadd, 1) := by decide +kernel
theorem dX12_see_124 : decode cX12_see 124 = .ok (.iload_n 3, 1) := by decide +kernel
theorem dX12_see_125 : decode cX12_see 125 = .ok (.i2l, 1) := by decide +kernel
theorem dX12_see_126 : decode cX12_see 126 = .ok (.lastore, 1) := by decide +kernel
theorem dX12_see_127 : decode cX12_see 127 = .ok (.aload_n 0, 1) := by decide +kernel
theorem dX12_see_128 : decode cX12_see 128 = .ok (.getfield 26, 3) := by decide +kernel
theorem dX12_see_131 : decode cX12_see 131 = .ok (.iload 7, 2) := by decide +kernel
theorem dX12_see_133 : decode cX12_see 133 = .ok (.iconst 3, 1) := by decide +kernel
theorem dX12_see_134 : decode cX12_see 134 = .ok (.iadd, 1) := by decide +kernel
theorem dX12_see_135 : decode cX12_see 135 = .ok (.iload 4, 2) := by decide +kernel
theorem dX12_see_137 : decode cX12_see 137 = .ok (.i2l, 1) := by decide +kernel
theorem dX12_see_138 : decode cX12_see 138 = .ok (.lastore, 1) := by decide +kernel
theorem dX12_see_139 : decode cX12_see 139 = .ok (.aload_n 0, 1) := by decide +kernel
theorem dX12_see_140 : decode cX12_see 140 = .ok (.getfield 26, 3) := by decide +kernel
theorem dX12_see_143 : decode cX12_see 143 = .ok (.iload 7, 2) := by decide +kernel
theorem dX12_see_145 : decode cX12_see 145 = .ok (.iconst 4, 1) := by decide +kernel
theorem dX12_see_146 : decode cX12_see 146 = .ok (.iadd, 1) := by decide +kernel
theorem dX12_see_147 : decode cX12_see 147 = .ok (.lconst 0, 1) := by decide +kernel
theorem dX12_see_148 : decode cX12_see 148 = .ok (.lastore, 1) := by decide +kernel
theorem dX12_see_149 : decode cX12_see 149 = .ok (.aload_n 0, 1) := by decide +kernel
theorem dX12_see_150 : decode cX12_see 150 = .ok (.getfield 26, 3) := by decide +kernel
theorem dX12_see_153 : decode cX12_see 153 = .ok (.iload 7, 2) := by decide +kernel
theorem dX12_see_155 : decode cX12_see 155 = .ok (.iconst 5, 1) := by decide +kernel
theorem dX12_see_156 : decode cX12_see 156 = .ok (.iadd, 1) := by decide +kernel
theorem dX12_see_157 : decode cX12_see 157 = .ok (.lconst 0, 1) := by decide +kernel
theorem dX12_see_158 : decode cX12_see 158 = .ok (.lastore, 1) := by decide +kernel
theorem dX12_see_159 : decode cX12_see 159 = .ok (.aload_n 0, 1) := by decide +kernel
theorem dX12_see_160 : decode cX12_see 160 = .ok (.getfield 26, 3) := by decide +kernel
theorem dX12_see_163 : decode cX12_see 163 = .ok (.iload 7, 2) := by decide +kernel
theorem dX12_see_165 : decode cX12_see 165 = .ok (.bipush 6, 2) := by decide +kernel
theorem dX12_see_167 : decode cX12_see 167 = .ok (.iadd, 1) := by decide +kernel
theorem dX12_see_168 : decode cX12_see 168 = .ok (.aload_n 0, 1) := by decide +kernel
theorem dX12_see_169 : decode cX12_see 169 = .ok (.getfield 101, 3) := by decide +kernel
theorem dX12_see_172 : decode cX12_see 172 = .ok (.i2l, 1) := by decide +kernel
theorem dX12_see_173 : decode cX12_see 173 = .ok (.lastore, 1) := by decide +kernel
theorem dX12_see_174 : decode cX12_see 174 = .ok (.aload_n 0, 1) := by decide +kernel
theorem dX12_see_175 : decode cX12_see 175 = .ok (.getfield 26, 3) := by decide +kernel
theorem dX12_see_178 : decode cX12_see 178 = .ok (.bipush 8, 2) := by decide +kernel
theorem dX12_see_180 : decode cX12_see 180 = .ok (.iload 6, 2) := by decide +kernel
theorem dX12_see_182 : decode cX12_see 182 = .ok (.imul, 1) := by decide +kernel
theorem dX12_see_183 : decode cX12_see 183 = .ok (.iconst 4, 1) := by decide +kernel
theorem dX12_see_184 : decode cX12_see 184 = .ok (.iadd, 1) := by decide +kernel
theorem dX12_see_185 : decode cX12_see 185 = .ok (.dup2, 1) := by decide +kernel
theorem dX12_see_186 : decode cX12_see 186 = .ok (.laload, 1) := by decide +kernel
theorem dX12_see_187 : decode cX12_see 187 = .ok (.lconst 1, 1) := by decide +kernel
theorem dX12_see_188 : decode cX12_see 188 = .ok (.ladd, 1) := by decide +kernel
theorem dX12_see_189 : decode cX12_see 189 = .ok (.lastore, 1) := by decide +kernel
theorem dX12_see_190 : decode cX12_see 190 = .ok (.aload_n 0, 1) := by decide +kernel
theorem dX12_see_191 : decode cX12_see 191 = .ok (.getfield 26, 3) := by decide +kernel
theorem dX12_see_194 : decode cX12_see 194 = .ok (.bipush 8, 2) := by decide +kernel
theorem dX12_see_196 : decode cX12_see 196 = .ok (.iload 6, 2) := by decide +kernel
theorem dX12_see_198 : decode cX12_see 198 = .ok (.imul, 1) := by decide +kernel
theorem dX12_see_199 : decode cX12_see 199 = .ok (.iconst 5, 1) := by decide +kernel
theorem dX12_see_200 : decode cX12_see 200 = .ok (.iadd, 1) := by decide +kernel
theorem dX12_see_201 : decode cX12_see 201 = .ok (.dup2, 1) := by decide +kernel
theorem dX12_see_202 : decode cX12_see 202 = .ok (.laload, 1) := by decide +kernel
theorem dX12_see_203 : decode cX12_see 203 = .ok (.iload 5, 2) := by decide +kernel
theorem dX12_see_205 : decode cX12_see 205 = .ok (.i2l, 1) := by decide +kernel
theorem dX12_see_206 : decode cX12_see 206 = .ok (.ladd, 1) := by decide +kernel
theorem dX12_see_207 : decode cX12_see 207 = .ok (.lastore, 1) := by decide +kernel
theorem dX12_see_208 : decode cX12_see 208 = .ok (.aload_n 0, 1) := by decide +kernel
theorem dX12_see_209 : decode cX12_see 209 = .ok (.getfield 26, 3) := by decide +kernel
theorem dX12_see_212 : decode cX12_see 212 = .ok (.bipush 8, 2) := by decide +kernel
theorem dX12_see_214 : decode cX12_see 214 = .ok (.iload 6, 2) := by decide +kernel
theorem dX12_see_216 : decode cX12_see 216 = .ok (.imul, 1) := by decide +kernel
theorem dX12_see_217 : decode cX12_see 217 = .ok (.bipush 7, 2) := by decide +kernel
theorem dX12_see_219 : decode cX12_see 219 = .ok (.iadd, 1) := by decide +kernel
theorem dX12_see_220 : decode cX12_see 220 = .ok (.aload_n 0, 1) := by decide +kernel
theorem dX12_see_221 : decode cX12_see 221 = .ok (.getfield 101, 3) := by decide +kernel
theorem dX12_see_224 : decode cX12_see 224 = .ok (.i2l, 1) := by decide +kernel
theorem dX12_see_225 : decode cX12_see 225 = .ok (.lastore, 1) := by decide +kernel
theorem dX12_see_226 : decode cX12_see 226 = .ok (.iconst 1, 1) := by decide +kernel
theorem dX12_see_227 : decode cX12_see 227 = .ok (.ireturn, 1) := by decide +kernel
set_option maxRecDepth 20000 in
theorem ggX12_isPacket_X12_isByte : GoodIn wsX12_isPacket wsX12_isByte := goodIn_r _ [5, 6, 7, 8, 4, 9] rfl (by decide +kernel)
set_option maxRecDepth 20000 in
theorem gX12_isPacket_X12_isByte : GoodIn wsX12_isPacket (va_wsS RX12 242 yX12_isByte wsX12_isByte) := goodIn_app (goodIn_of _ (by decide +kernel)) ggX12_isPacket_X12_isByte
set_option maxRecDepth 20000 in
theorem ggX12_isPacket_X12_inRange : GoodIn wsX12_isPacket wsX12_inRange := goodIn_r _ [9] rfl (by decide +kernel)
set_option maxRecDepth 20000 in
theorem gX12_isPacket_X12_inRange : GoodIn wsX12_isPacket (va_wsS RX12 169 yX12_inRange wsX12_inRange) := goodIn_app (goodIn_of _ (by decide +kernel)) ggX12_isPacket_X12_inRange
theorem dX12_isPacket_0 : decode cX12_isPacket 0 = .ok (.iload_n 0, 1) := by decide +kernel
theorem dX12_isPacket_1 : decode cX12_isPacket 1 = .ok (.invokestatic 242, 3) := by decide +kernel
theorem dX12_isPacket_4 : decode cX12_isPacket 4 = .ok (.ifCond .eq 46, 3) := by decide +kernel
theorem dX12_isPacket_7 : decode cX12_isPacket 7 = .ok (.iload_n 1, 1) := by decide +kernel
theorem dX12_isPacket_8 : decode cX12_isPacket 8 = .ok (.invokestatic 242, 3) := by decide +kernel
theorem dX12_isPacket_11 : decode cX12_isPacket 11 = .ok (.ifCond .eq 39, 3) := by decide +kernel
theorem dX12_isPacket_14 : decode cX12_isPacket 14 = .ok (.iload_n 2, 1) := by decide +kernel
theorem dX12_isPacket_15 : decode cX12_isPacket 15 = .ok (.i2l, 1) := by decide +kernel
theorem dX12_isPacket_16 : decode cX12_isPacket 16 = .ok (.lconst 0, 1) := by decide +kernel
theorem dX12_isPacket_17 : decode cX12_isPacket 17 = .ok (.ldc2_w 245, 3) := by decide +kernel
theorem dX12_isPacket_20 : decode cX12_isPacket 20 = .ok (.invokestatic 169, 3) := by decide +kernel
theorem dX12_isPacket_23 : decode cX12_isPacket 23 = .ok (.ifCond .eq 27, 3) := by decide +kernel
theorem dX12_isPacket_26 : decode cX12_isPacket 26 = .ok (.iload_n 3, 1) := by decide +kernel
theorem dX12_isPacket_27 : decode cX12_isPacket 27 = .ok (.invokestatic 242, 3) := by decide +kernel
theorem dX12_isPacket_30 : decode cX12_isPacket 30 = .ok (.ifCond .eq 20, 3) := by decide +kernel
theorem dX12_isPacket_33 : decode cX12_isPacket 33 = .ok (.iload 4, 2) := by decide +kernel
theorem dX12_isPacket_35 : decode cX12_isPacket 35 = .ok (.i2l, 1) := by decide +kernel
theorem dX12_isPacket_36 : decode cX12_isPacket 36 = .ok (.lconst 1, 1) := by decide +kernel
theorem dX12_isPacket_37 : decode cX12_isPacket 37 = .ok (.ldc2_w 245, 3) := by decide +kernel
theorem dX12_isPacket_40 : decode cX12_isPacket 40 = .ok (.invokestatic 169, 3) := by decide +kernel
theorem dX12_isPacket_43 : decode cX12_isPacket 43 = .ok (.ifCond .eq 7, 3) := by decide +kernel
theorem dX12_isPacket_46 : decode cX12_isPacket 46 = .ok (.iconst 1, 1) := by decide +kernel
theorem dX12_isPacket_47 : decode cX12_isPacket 47 = .ok (.goto 4, 3) := by decide +kernel
theorem dX12_isPacket_50 : decode cX12_isPacket 50 = .ok (.iconst 0, 1) := by decide +kernel
theorem dX12_isPacket_51 : decode cX12_isPacket 51 = .ok (.ireturn, 1) := by decide +kernel
set_option maxRecDepth 20000 in
theorem ggX12_sendPending_X12_put : GoodIn wsX12_sendPending wsX12_put := goodIn_ca (goodIn_r _ [13, 14, 2, 15, 80, 81, 82, 83, 84, 85, 86, 87, 88, 89, 90, 91, 92, 93, 94, 95, 96, 97, 98, 99, 100, 101, 102, 103, 104, 105, 106, 107, 108, 109, 110, 111, 112, 113, 114, 115, 116, 117, 118, 119, 120, 121, 122, 123, 124, 125, 126, 127, 128, 129, 130, 131, 132, 133] rfl (by decide +kernel)) (goodIn_sub (fun _ h => List.mem_cons_of_mem _ (List.mem_append_right _ h)) (by decide +kernel))
set_option maxRecDepth 20000 in
theorem gX12_sendPending_X12_put : GoodIn wsX12_sendPending (wsV RX12 283 RX12 yX12_put wsX12_put) := goodIn_app (goodIn_of _ (by decide +kernel)) ggX12_sendPending_X12_put
set_option maxRecDepth 20000 in
theorem ggX12_sendPending_X12_putTemplates : GoodIn wsX12_sendPending wsX12_putTemplates := goodIn_ca (goodIn_r _ [19, 2, 20, 21, 22, 23, 24, 12, 25, 26, 6, 4, 27, 28, 29, 30, 31, 32, 33, 34, 35, 36, 37, 38, 39, 40, 41, 42, 43, 9, 10, 11, 13, 14, 15, 44, 45, 46, 47, 48, 49, 50, 51, 52, 53, 54, 55, 56, 57, 58, 59, 60, 61, 80, 81, 82, 83, 84, 85, 86, 87, 88, 89, 90, 91, 92, 93, 94, 95, 96, 97, 98, 99, 100, 101, 102, 103, 104, 105, 106, 107, 108, 109, 110, 111, 112, 113, 114, 115, 116, 117, 118, 119, 120, 121, 122, 123, 124, 125, 126, 127, 128, 129, 130, 131, 132, 133] rfl (by decide +kernel)) (goodIn_sub (fun _ h => List.mem_cons_of_mem _ (List.mem_append_right _ h)) (by decide +kernel))
set_option maxRecDepth 20000 in
theorem gX12_sendPending_X12_putTemplates : GoodIn wsX12_sendPending (wsV RX12 300 RX12 yX12_putTemplates wsX12_putTemplates) := goodIn_app (goodIn_of _ (by decide +kernel)) ggX12_sendPending_X12_putTemplates
set_option maxRecDepth 20000 in
theorem ggX12_sendPending_X12_putRecords : GoodIn wsX12_sendPending wsX12_putRecords := goodIn_ca (goodIn_r _ [65, 1, 66, 2, 20, 67, 68, 69, 70, 12, 71, 28, 29, 30, 31, 32, 33, 34, 35, 36, 37, 38, 39, 40, 41, 42, 43, 55, 56, 57, 9, 10, 11, 13, 14, 15, 58, 59, 60, 61, 80, 81, 82, 83, 84, 85, 86, 87, 88, 89, 90, 91, 92, 93, 94, 95, 96, 97, 98, 99, 100, 101, 102, 103, 104, 105, 106, 107, 108, 109, 110, 111, 112, 113, 114, 115, 116, 117, 118, 119, 120, 121, 122, 123, 124, 125, 126, 127, 128, 129, 130, 131, 132, 133] rfl (by decide +kernel)) (goodIn_sub (fun _ h => List.mem_cons_of_mem _ (List.mem_append_right _ h)) (by decide +kernel))
set_option maxRecDepth 20000 in
theorem gX12_sendPending_X12_putRecords : GoodIn wsX12_sendPending (wsV RX12 303 RX12 yX12_putRecords wsX12_putRecords) := goodIn_app (goodIn_of _ (by decide +kernel)) ggX12_sendPending_X12_putRecords
set_option maxRecDepth 20000 in
theorem ggX12_sendPending_X12_putAt : GoodIn wsX12_sendPending wsX12_putAt := goodIn_ca (goodIn_r _ [61, 14, 80, 81, 82, 83, 84, 85, 86, 87, 88, 89, 90, 91, 92, 93, 94, 95, 96, 97, 98, 99, 100, 101, 102, 103, 104, 105, 106, 107, 108, 109, 110, 111, 112, 113, 114, 115, 116, 117, 118, 119, 120, 121, 122, 123, 124, 125, 126, 127, 128, 129, 130, 131, 132, 133] rfl (by decide +kernel)) (goodIn_sub (fun _ h => List.mem_cons_of_mem _ (List.mem_append_right _ h)) (by decide +kernel))
set_option maxRecDepth 20000 in
theorem gX12_sendPending_X12_putAt : GoodIn wsX12_sendPending (wsV RX12 295 RX12 yX12_putAt wsX12_putAt) := goodIn_app (goodIn_of _ (by decide +kernel)) ggX12_sendPending_X12_putAt
set_option maxRecDepth 20000 in
theorem ggX12_sendPending_X12_enqueue : GoodIn wsX12_sendPending wsX12_enqueue := goodIn_ca (goodIn_r _ [75, 76, 77, 2, 78, 14, 79, 80, 81, 82, 83, 84, 85, 86, 87, 88, 89, 90, 91, 92, 93, 94, 95, 96, 97, 98, 99, 100, 101, 102, 103, 104, 105, 106, 107, 108, 109, 110, 111, 112, 113, 114, 115, 116, 117, 118, 119, 120, 121, 122, 123, 124, 125, 126, 127, 128, 129, 130, 131, 132, 133] rfl (by decide +kernel)) (goodIn_sub (fun _ h => List.mem_cons_of_mem _ (List.mem_append_right _ h)) (by decide +kernel))
set_option maxRecDepth 20000 in
theorem gX12_sendPending_X12_enqueue : GoodIn wsX12_sendPending (wsV RX12 308 RX12 yX12_enqueue wsX12_enqueue) := goodIn_app (goodIn_of _ (by decide +kernel)) ggX12_sendPending_X12_enqueue
theorem dX12_sendPending_0 : decode cX12_sendPending 0 = .ok (.iconst 0, 1) := by decide +kernel
theorem dX12_sendPending_1 : decode cX12_sendPending 1 = .ok (.istore_n 1, 1) := by decide +kernel
theorem dX12_sendPending_2 : decode cX12_sendPending 2 = .ok (.iload_n 1, 1) := by decide +kernel
theorem dX12_sendPending_3 : decode cX12_sendPending 3 = .ok (.aload_n 0, 1) := by decide +kernel
theorem dX12_sendPending_4 : decode cX12_sendPending 4 = .ok (.getfield 136, 3) := by decide +kernel
theorem dX12_sendPending_7 : decode cX12_sendPending 7 = .ok (.if_icmp .ge 125, 3) := by decide +kernel
theorem dX12_sendPending_10 : decode cX12_sendPending 10 = .ok (.aload_n 0, 1) := by decide +kernel
theorem dX12_sendPending_11 : decode cX12_sendPending 11 = .ok (.iconst 0, 1) := by decide +kernel
theorem dX12_sendPending_12 : decode cX12_sendPending 12 = .ok (.putfield 280, 3) := by decide +kernel
theorem dX12_sendPending_15 : decode cX12_sendPending 15 = .ok (.aload_n 0, 1) := by decide +kernel
theorem dX12_sendPending_16 : decode cX12_sendPending 16 = .ok (.ldc2_w 298, 3) := by decide +kernel
theorem dX12_sendPending_19 : decode cX12_sendPending 19 = .ok (.iconst 2, 1) := by decide +kernel
theorem dX12_sendPending_20 : decode cX12_sendPending 20 = .ok (.invokevirtual 283, 3) := by decide +kernel
theorem dX12_sendPending_23 : decode cX12_sendPending 23 = .ok (.aload_n 0, 1) := by decide +kernel
theorem dX12_sendPending_24 : decode cX12_sendPending 24 = .ok (.lconst 0, 1) := by decide +kernel
theorem dX12_sendPending_25 : decode cX12_sendPending 25 = .ok (.iconst 2, 1) := by decide +kernel
theorem dX12_sendPending_26 : decode cX12_sendPending 26 = .ok (.invokevirtual 283, 3) := by decide +kernel
theorem dX12_sendPending_29 : decode cX12_sendPending 29 = .ok (.aload_n 0, 1) := by decide +kernel
theorem dX12_sendPending_30 : decode cX12_sendPending 30 = .ok (.aload_n 0, 1) := by decide +kernel
theorem dX12_sendPending_31 : decode cX12_sendPending 31 = .ok (.getfield 101, 3) := by decide +kernel
theorem dX12_sendPending_34 : decode cX12_sendPending 34 = .ok (.i2l, 1) := by decide +kernel
theorem dX12_sendPending_35 : decode cX12_sendPending 35 = .ok (.iconst 4, 1) := by decide +kernel
theorem dX12_sendPending_36 : decode cX12_sendPending 36 = .ok (.invokevirtual 283, 3) := by decide +kernel
theorem dX12_sendPending_39 : decode cX12_sendPending 39 = .ok (.aload_n 0, 1) := by decide +kernel
theorem dX12_sendPending_40 : decode cX12_sendPending 40 = .ok (.aload_n 0, 1) := by decide +kernel
theorem dX12_sendPending_41 : decode cX12_sendPending 41 = .ok (.getfield 201, 3) := by decide +kernel
theorem dX12_sendPending_44 : decode cX12_sendPending 44 = .ok (.iconst 4, 1) := by decide +kernel
theorem dX12_sendPending_45 : decode cX12_sendPending 45 = .ok (.invokevirtual 283, 3) := by decide +kernel
theorem dX12_sendPending_48 : decode cX12_sendPending 48 = .ok (.aload_n 0, 1) := by decide +kernel
theorem dX12_sendPending_49 : decode cX12_sendPending 49 = .ok (.lconst 0, 1) := by decide +kernel
theorem dX12_sendPending_50 : decode cX12_sendPending 50 = .ok (.iconst 4, 1) := by decide +kernel
theorem dX12_sendPending_51 : decode cX12_sendPending 51 = .ok (.invokevirtual 283, 3) := by decide +kernel
theorem dX12_sendPending_54 : decode cX12_sendPending 54 = .ok (.aload_n 0, 1) := by decide +kernel
theorem dX12_sendPending_55 : decode cX12_sendPending 55 = .ok (.invokevirtual 300, 3) := by decide +kernel
theorem dX12_sendPending_58 : decode cX12_sendPending 58 = .ok (.aload_n 0, 1) := by decide +kernel
theorem dX12_sendPending_59 : decode cX12_sendPending 59 = .ok (.iload_n 1, 1) := by decide +kernel
theorem dX12_sendPending_60 : decode cX12_sendPending 60 = .ok (.invokevirtual 303, 3) := by decide +kernel
theorem dX12_sendPending_63 : decode cX12_sendPending 63 = .ok (.istore_n 2, 1) := by decide +kernel
theorem dX12_sendPending_64 : decode cX12_sendPending 64 = .ok (.aload_n 0, 1) := by decide +kernel
theorem dX12_sendPending_65 : decode cX12_sendPending 65 = .ok (.iconst 2, 1) := by decide +kernel
theorem dX12_sendPending_66 : decode cX12_sendPending 66 = .ok (.aload_n 0, 1) := by decide +kernel
theorem dX12_sendPending_67 : decode cX12_sendPending 67 = .ok (.getfield 280, 3) := by decide +kernel
theorem dX12_sendPending_70 : decode cX12_sendPending 70 = .ok (.invokevirtual 295, 3) := by decide +kernel
theorem dX12_sendPending_73 : decode cX12_sendPending 73 = .ok (.aload_n 0, 1) := by decide +kernel
theorem dX12_sendPending_74 : decode cX12_sendPending 74 = .ok (.bipush 14, 2) := by decide +kernel
theorem dX12_sendPending_76 : decode cX12_sendPending 76 = .ok (.iload_n 2, 1) := by decide +kernel
theorem dX12_sendPending_77 : decode cX12_sendPending 77 = .ok (.iload_n 1, 1) := by decide +kernel
theorem dX12_sendPending_78 : decode cX12_sendPending 78 = .ok (.isub, 1) := by decide +kernel
theorem dX12_sendPending_79 : decode cX12_sendPending 79 = .ok (.invokevirtual 295, 3) := by decide +kernel
theorem dX12_sendPending_82 : decode cX12_sendPending 82 = .ok (.aload_n 0, 1) := by decide +kernel
theorem dX12_sendPending_83 : decode cX12_sendPending 83 = .ok (.dup, 1) := by decide +kernel
theorem dX12_sendPending_84 : decode cX12_sendPending 84 = .ok (.getfield 142, 3) := by decide +kernel
theorem dX12_sendPending_87 : decode cX12_sendPending 87 = .ok (.iconst 1, 1) := by decide +kernel
theorem dX12_sendPending_88 : decode cX12_sendPending 88 = .ok (.iadd, 1) := by decide +kernel
theorem dX12_sendPending_89 : decode cX12_sendPending 89 = .ok (.putfield 142, 3) := by decide +kernel
theorem dX12_sendPending_92 : decode cX12_sendPending 92 = .ok (.aload_n 0, 1) := by decide +kernel
theorem dX12_sendPending_93 : decode cX12_sendPending 93 = .ok (.dup, 1) := by decide +kernel
theorem dX12_sendPending_94 : decode cX12_sendPending 94 = .ok (.getfield 124, 3) := by decide +kernel
theorem dX12_sendPending_97 : decode cX12_sendPending 97 = .ok (.iload_n 2, 1) := by decide +kernel
theorem dX12_sendPending_98 : decode cX12_sendPending 98 = .ok (.iload_n 1, 1) := by decide +kernel
theorem dX12_sendPending_99 : decode cX12_sendPending 99 = .ok (.isub, 1) := by decide +kernel
theorem dX12_sendPending_100 : decode cX12_sendPending 100 = .ok (.i2l, 1) := by decide +kernel
theorem dX12_sendPending_101 : decode cX12_sendPending 101 = .ok (.ladd, 1) := by decide +kernel
theorem dX12_sendPending_102 : decode cX12_sendPending 102 = .ok (.putfield 124, 3) := by decide +kernel
theorem dX12_sendPending_105 : decode cX12_sendPending 105 = .ok (.aload_n 0, 1) := by decide +kernel
theorem dX12_sendPending_106 : decode cX12_sendPending 106 = .ok (.aload_n 0, 1) := by decide +kernel
theorem dX12_sendPending_107 : decode cX12_sendPending 107 = .ok (.getfield 201, 3) := by decide +kernel
theorem dX12_sendPending_110 : decode cX12_sendPending 110 = .ok (.iload_n 2, 1) := by decide +kernel
theorem dX12_sendPending_111 : decode cX12_sendPending 111 = .ok (.i2l, 1) := by decide +kernel
theorem dX12_sendPending_112 : decode cX12_sendPending 112 = .ok (.ladd, 1) := by decide +kernel
theorem dX12_sendPending_113 : decode cX12_sendPending 113 = .ok (.iload_n 1, 1) := by decide +kernel
theorem dX12_sendPending_114 : decode cX12_sendPending 114 = .ok (.i2l, 1) := by decide +kernel
theorem dX12_sendPending_115 : decode cX12_sendPending 115 = .ok (.lsub, 1) := by decide +kernel
theorem dX12_sendPending_116 : decode cX12_sendPending 116 = .ok (.ldc2_w 306, 3) := by decide +kernel
theorem dX12_sendPending_119 : decode cX12_sendPending 119 = .ok (.land, 1) := by decide +kernel
theorem dX12_sendPending_120 : decode cX12_sendPending 120 = .ok (.putfield 201, 3) := by decide +kernel
theorem dX12_sendPending_123 : decode cX12_sendPending 123 = .ok (.iload_n 2, 1) := by decide +kernel
theorem dX12_sendPending_124 : decode cX12_sendPending 124 = .ok (.istore_n 1, 1) := by decide +kernel
theorem dX12_sendPending_125 : decode cX12_sendPending 125 = .ok (.aload_n 0, 1) := by decide +kernel
theorem dX12_sendPending_126 : decode cX12_sendPending 126 = .ok (.invokevirtual 308, 3) := by decide +kernel
theorem dX12_sendPending_129 : decode cX12_sendPending 129 = .ok (.goto (-127), 3) := by decide +kernel
theorem dX12_sendPending_132 : decode cX12_sendPending 132 = .ok (.aload_n 0, 1) := by decide +kernel
theorem dX12_sendPending_133 : decode cX12_sendPending 133 = .ok (.iconst 0, 1) := by decide +kernel
theorem dX12_sendPending_134 : decode cX12_sendPending 134 = .ok (.putfield 136, 3) := by decide +kernel
theorem dX12_sendPending_137 : decode cX12_sendPending 137 = .ok (.return_, 1) := by decide +kernel

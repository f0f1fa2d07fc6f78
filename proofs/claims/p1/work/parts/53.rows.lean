theorem dX12_flowOf_0 : decode cX12_flowOf 0 = .ok (.iconst 0, 1) := by decide +kernel
theorem dX12_flowOf_1 : decode cX12_flowOf 1 = .ok (.istore 5, 2) := by decide +kernel
theorem dX12_flowOf_3 : decode cX12_flowOf 3 = .ok (.iload 5, 2) := by decide +kernel
theorem dX12_flowOf_5 : decode cX12_flowOf 5 = .ok (.aload_n 0, 1) := by decide +kernel
theorem dX12_flowOf_6 : decode cX12_flowOf 6 = .ok (.getfield 133, 3) := by decide +kernel
theorem dX12_flowOf_9 : decode cX12_flowOf 9 = .ok (.if_icmp .ge 83, 3) := by decide +kernel
theorem dX12_flowOf_92 : decode cX12_flowOf 92 = .ok (.iconst (-1), 1) := by decide +kernel
theorem dX12_flowOf_93 : decode cX12_flowOf 93 = .ok (.ireturn, 1) := by decide +kernel
theorem dX12_makeRoom_0 : decode cX12_makeRoom 0 = .ok (.aload_n 0, 1) := by decide +kernel
theorem dX12_makeRoom_1 : decode cX12_makeRoom 1 = .ok (.getfield 133, 3) := by decide +kernel
theorem dX12_makeRoom_4 : decode cX12_makeRoom 4 = .ok (.bipush 12, 2) := by decide +kernel
theorem dX12_makeRoom_6 : decode cX12_makeRoom 6 = .ok (.if_icmp .ge 4, 3) := by decide +kernel
theorem dX12_makeRoom_9 : decode cX12_makeRoom 9 = .ok (.return_, 1) := by decide +kernel
set_option maxRecDepth 20000 in
theorem ggX12_see_X12_remember : GoodIn wsX12_see wsX12_remember := goodIn_ca (goodIn_r _ [11, 12, 13, 14, 15, 16, 17, 10, 18, 19, 20, 21, 92, 93, 94, 95, 96, 97, 98, 99, 100, 101, 102, 103, 104, 105, 106, 107, 108, 109, 110, 111, 112, 113, 114, 115, 116, 117, 118, 119, 120, 121, 122, 123, 124, 125, 126, 127, 128, 129, 130, 131, 132, 133, 134, 135, 136, 137, 138, 139, 140, 141, 142, 143, 144, 145] (by decide +kernel) (by decide +kernel)) (goodIn_sub (fun _ h => List.mem_cons_of_mem _ (List.mem_append_left _ (List.mem_append_right _ h))) (by decide +kernel))
set_option maxRecDepth 20000 in
theorem gX12_see_X12_remember : GoodIn wsX12_see (wsV RX12 228 RX12 yX12_remember wsX12_remember) := goodIn_app (goodIn_of _ (by decide +kernel)) ggX12_see_X12_remember
set_option maxRecDepth 20000 in
theorem ggX12_see_X12_flowOf : GoodIn wsX12_see wsX12_flowOf := goodIn_ca (goodIn_r _ [33, 4, 5, 92, 93, 94, 95, 96, 97, 98, 99, 100, 101, 102, 103, 104, 105, 106, 107, 108, 109, 110, 111, 112, 113, 114, 115, 116, 117, 118, 119, 120, 121, 122, 123, 124, 125, 126, 127, 128, 129, 130, 131, 132, 133, 134, 135, 136, 137, 138, 139, 140, 141, 142, 143, 144, 145] (by decide +kernel) (by decide +kernel)) (goodIn_sub (fun _ h => List.mem_cons_of_mem _ (List.mem_append_left _ (List.mem_append_right _ h))) (by decide +kernel))
set_option maxRecDepth 20000 in
theorem gX12_see_X12_flowOf : GoodIn wsX12_see (wsV RX12 235 RX12 yX12_flowOf wsX12_flowOf) := goodIn_app (goodIn_of _ (by decide +kernel)) ggX12_see_X12_flowOf
set_option maxRecDepth 20000 in
theorem ggX12_see_X12_makeRoom : GoodIn wsX12_see wsX12_makeRoom := goodIn_ca (goodIn_r _ [37, 4, 5, 38, 39, 40, 10, 41, 42, 43, 44, 45, 46, 47, 48, 49, 50, 51, 52, 53, 54, 55, 56, 57, 58, 59, 60, 61, 62, 63, 64, 65, 66, 67, 68, 69, 70, 71, 72, 73, 74, 75, 76, 77, 78, 79, 2, 80, 81, 82, 83, 84, 85, 86, 87, 88, 89, 90, 91, 92, 93, 94, 95, 96, 97, 98, 99, 100, 101, 102, 103, 104, 105, 106, 107, 108, 109, 110, 111, 112, 113, 114, 115, 116, 117, 118, 119, 120, 121, 122, 123, 124, 125, 126, 127, 128, 129, 130, 131, 132, 133, 134, 135, 136, 137, 138, 139, 140, 141, 142, 143, 144, 145] (by decide +kernel) (by decide +kernel)) (goodIn_sub (fun _ h => List.mem_cons_of_mem _ (List.mem_append_left _ (List.mem_append_right _ h))) (by decide +kernel))
set_option maxRecDepth 20000 in
theorem gX12_see_X12_makeRoom : GoodIn wsX12_see (wsV RX12 239 RX12 yX12_makeRoom wsX12_makeRoom) := goodIn_app (goodIn_of _ (by decide +kernel)) ggX12_see_X12_makeRoom
theorem dX12_see_0 : decode cX12_see 0 = .ok (.aload_n 0, 1) := by decide +kernel
theorem dX12_see_1 : decode cX12_see 1 = .ok (.dup, 1) := by decide +kernel
theorem dX12_see_2 : decode cX12_see 2 = .ok (.getfield 117, 3) := by decide +kernel
theorem dX12_see_5 : decode cX12_see 5 = .ok (.lconst 1, 1) := by decide +kernel
theorem dX12_see_6 : decode cX12_see 6 = .ok (.ladd, 1) := by decide +kernel
theorem dX12_see_7 : decode cX12_see 7 = .ok (.putfield 117, 3) := by decide +kernel
theorem dX12_see_10 : decode cX12_see 10 = .ok (.aload_n 0, 1) := by decide +kernel
theorem dX12_see_11 : decode cX12_see 11 = .ok (.iload_n 1, 1) := by decide +kernel
theorem dX12_see_12 : decode cX12_see 12 = .ok (.iload_n 2, 1) := by decide +kernel
theorem dX12_see_13 : decode cX12_see 13 = .ok (.iload_n 3, 1) := by decide +kernel
theorem dX12_see_14 : decode cX12_see 14 = .ok (.iload 4, 2) := by decide +kernel
theorem dX12_see_16 : decode cX12_see 16 = .ok (.iload 5, 2) := by decide +kernel
theorem dX12_see_18 : decode cX12_see 18 = .ok (.invokevirtual 228, 3) := by decide +kernel
theorem dX12_see_21 : decode cX12_see 21 = .ok (.aload_n 0, 1) := by decide +kernel
theorem dX12_see_22 : decode cX12_see 22 = .ok (.getfield 107, 3) := by decide +kernel
theorem dX12_see_25 : decode cX12_see 25 = .ok (.iconst 1, 1) := by decide +kernel
theorem dX12_see_26 : decode cX12_see 26 = .ok (.if_icmp .le 16, 3) := by decide +kernel
theorem dX12_see_42 : decode cX12_see 42 = .ok (.aload_n 0, 1) := by decide +kernel
theorem dX12_see_43 : decode cX12_see 43 = .ok (.dup, 1) := by decide +kernel
theorem dX12_see_44 : decode cX12_see 44 = .ok (.getfield 121, 3) := by decide +kernel
theorem dX12_see_47 : decode cX12_see 47 = .ok (.lconst 1, 1) := by decide +kernel
theorem dX12_see_48 : decode cX12_see 48 = .ok (.ladd, 1) := by decide +kernel
theorem dX12_see_49 : decode cX12_see 49 = .ok (.putfield 121, 3) := by decide +kernel
theorem dX12_see_52 : decode cX12_see 52 = .ok (.aload_n 0, 1) := by decide +kernel
theorem dX12_see_53 : decode cX12_see 53 = .ok (.iload_n 1, 1) := by decide +kernel
theorem dX12_see_54 : decode cX12_see 54 = .ok (.iload_n 2, 1) := by decide +kernel
theorem dX12_see_55 : decode cX12_see 55 = .ok (.iload_n 3, 1) := by decide +kernel
theorem dX12_see_56 : decode cX12_see 56 = .ok (.iload 4, 2) := by decide +kernel
theorem dX12_see_58 : decode cX12_see 58 = .ok (.invokevirtual 235, 3) := by decide +kernel
theorem dX12_see_61 : decode cX12_see 61 = .ok (.istore 6, 2) := by decide +kernel
theorem dX12_see_63 : decode cX12_see 63 = .ok (.iload 6, 2) := by decide +kernel
theorem dX12_see_65 : decode cX12_see 65 = .ok (.iconst (-1), 1) := by decide +kernel
theorem dX12_see_66 : decode cX12_see 66 = .ok (.if_icmp .ne 108, 3) := by decide +kernel
theorem dX12_see_69 : decode cX12_see 69 = .ok (.aload_n 0, 1) := by decide +kernel
theorem dX12_see_70 : decode cX12_see 70 = .ok (.invokevirtual 239, 3) := by decide +kernel
theorem dX12_see_73 : decode cX12_see 73 = .ok (.aload_n 0, 1) := by decide +kernel
theorem dX12_see_74 : decode cX12_see 74 = .ok (.getfield 133, 3) := by decide +kernel
theorem dX12_see_77 : decode cX12_see 77 = .ok (.istore 6, 2) := by decide +kernel
theorem dX12_see_79 : decode cX12_see 79 = .ok (.aload_n 0, 1) := by decide +kernel
theorem dX12_see_80 : decode cX12_see 80 = .ok (.dup, 1) := by decide +kernel
theorem dX12_see_81 : decode cX12_see 81 = .ok (.getfield 133, 3) := by decide +kernel
theorem dX12_see_84 : decode cX12_see 84 = .ok (.iconst 1, 1) := by decide +kernel
theorem dX12_see_85 : decode cX12_see 85 = .ok (.iadd, 1) := by decide +kernel
theorem dX12_see_86 : decode cX12_see 86 = .ok (.putfield 133, 3) := by decide +kernel
theorem dX12_see_89 : decode cX12_see 89 = .ok (.bipush 8, 2) := by decide +kernel
theorem dX12_see_91 : decode cX12_see 91 = .ok (.iload 6, 2) := by decide +kernel
theorem dX12_see_93 : decode cX12_see 93 = .ok (.imul, 1) := by decide +kernel
theorem dX12_see_94 : decode cX12_see 94 = .ok (.istore 7, 2) := by decide +kernel
theorem dX12_see_96 : decode cX12_see 96 = .ok (.aload_n 0, 1) := by decide +kernel
theorem dX12_see_97 : decode cX12_see 97 = .ok (.getfield 26, 3) := by decide +kernel
theorem dX12_see_100 : decode cX12_see 100 = .ok (.iload 7, 2) := by decide +kernel
theorem dX12_see_102 : decode cX12_see 102 = .ok (.iload_n 1, 1) := by decide +kernel
theorem dX12_see_103 : decode cX12_see 103 = .ok (.i2l, 1) := by decide +kernel
theorem dX12_see_104 : decode cX12_see 104 = .ok (.lastore, 1) := by decide +kernel
theorem dX12_see_105 : decode cX12_see 105 = .ok (.aload_n 0, 1) := by decide +kernel
theorem dX12_see_106 : decode cX12_see 106 = .ok (.getfield 26, 3) := by decide +kernel
theorem dX12_see_109 : decode cX12_see 109 = .ok (.iload 7, 2) := by decide +kernel
theorem dX12_see_111 : decode cX12_see 111 = .ok (.iconst 1, 1) := by decide +kernel
theorem dX12_see_112 : decode cX12_see 112 = .ok (.iadd, 1) := by decide +kernel
theorem dX12_see_113 : decode cX12_see 113 = .ok (.iload_n 2, 1) := by decide +kernel
theorem dX12_see_114 : decode cX12_see 114 = .ok (.i2l, 1) := by decide +kernel
theorem dX12_see_115 : decode cX12_see 115 = .ok (.lastore, 1) := by decide +kernel
theorem dX12_see_116 : decode cX12_see 116 = .ok (.aload_n 0, 1) := by decide +kernel
theorem dX12_see_117 : decode cX12_see 117 = .ok (.getfield 26, 3) := by decide +kernel
theorem dX12_see_120 : decode cX12_see 120 = .ok (.iload 7, 2) := by decide +kernel
theorem dX12_see_122 : decode cX12_see 122 = .ok (.iconst 2, 1) := by decide +kernel
theorem dX12_see_123 : decode cX12_see 123 = .ok (.iadd, 1) := by decide +kernel
theorem dX12_see_124 : decode cX12_see 124 = .ok (.iload_n 3, 1) := by decide +kernel
theorem dX12_see_125 : decode cX12_see 125 = .ok (.i2l, 1) := by decide +kernel
theorem dX12_see_126 : decode cX12_see 126 = .ok (.lastore, 1) := by decide +kernel
theorem dX12_see_127 : decode cX12_see 127 = .ok (.aload_n 0, 1) := by decide +kernel
theorem dX12_see_128 : decode cX12_see 128 = .ok (.getfield 26, 3) := by decide +kernel
theorem dX12_see_131 : decode cX12_see 131 = .ok (.iload 7, 2) := by decide +kernel
theorem dX12_see_133 : decode cX12_see 133 = .ok (.iconst 3, 1) := by decide +kernel
theorem dX12_see_134 : decode cX12_see 134 = .ok (.iadd, 1) := by decide +kernel
theorem dX12_see_135 : decode cX12_see 135 = .ok (.iload 4, 2) := by decide +kernel
theorem dX12_see_137 : decode cX12_see 137 = .ok (.i2l, 1) := by decide +kernel
theorem dX12_see_138 : decode cX12_see 138 = .ok (.lastore, 1) := by decide +kernel
theorem dX12_see_139 : decode cX12_see 139 = .ok (.aload_n 0, 1) := by decide +kernel
theorem dX12_see_140 : decode cX12_see 140 = .ok (.getfield 26, 3) := by decide +kernel
theorem dX12_see_143 : decode cX12_see 143 = .ok (.iload 7, 2) := by decide +kernel
theorem dX12_see_145 : decode cX12_see 145 = .ok (.iconst 4, 1) := by decide +kernel
theorem dX12_see_146 : decode cX12_see 146 = .ok (.iadd, 1) := by decide +kernel
theorem dX12_see_147 : decode cX12_see 147 = .ok (.lconst 0, 1) := by decide +kernel
theorem dX12_see_148 : decode cX12_see 148 = .ok (.lastore, 1) := by decide +kernel
theorem dX12_see_149 : decode cX12_see 149 = .ok (.aload_n 0, 1) := by decide +kernel
theorem dX12_see_150 : decode cX12_see 150 = .ok (.getfield 26, 3) := by decide +kernel
theorem dX12_see_153 : decode cX12_see 153 = .ok (.iload 7, 2) := by decide +kernel
theorem dX12_see_155 : decode cX12_see 155 = .ok (.iconst 5, 1) := by decide +kernel
theorem dX12_see_156 : decode cX12_see 156 = .ok (.iadd, 1) := by decide +kernel
theorem dX12_see_157 : decode cX12_see 157 = .ok (.lconst 0, 1) := by decide +kernel
theorem dX12_see_158 : decode cX12_see 158 = .ok (.lastore, 1) := by decide +kernel
theorem dX12_see_159 : decode cX12_see 159 = .ok (.aload_n 0, 1) := by decide +kernel
theorem dX12_see_160 : decode cX12_see 160 = .ok (.getfield 26, 3) := by decide +kernel
theorem dX12_see_163 : decode cX12_see 163 = .ok (.iload 7, 2) := by decide +kernel
theorem dX12_see_165 : decode cX12_see 165 = .ok (.bipush 6, 2) := by decide +kernel
theorem dX12_see_167 : decode cX12_see 167 = .ok (.iadd, 1) := by decide +kernel
theorem dX12_see_168 : decode cX12_see 168 = .ok (.aload_n 0, 1) := by decide +kernel
theorem dX12_see_169 : decode cX12_see 169 = .ok (.getfield 101, 3) := by decide +kernel
theorem dX12_see_172 : decode cX12_see 172 = .ok (.i2l, 1) := by decide +kernel
theorem dX12_see_173 : decode cX12_see 173 = .ok (.lastore, 1) := by decide +kernel
theorem dX12_see_174 : decode cX12_see 174 = .ok (.aload_n 0, 1) := by decide +kernel
theorem dX12_see_175 : decode cX12_see 175 = .ok (.getfield 26, 3) := by decide +kernel
theorem dX12_see_178 : decode cX12_see 178 = .ok (.bipush 8, 2) := by decide +kernel
theorem dX12_see_180 : decode cX12_see 180 = .ok (.iload 6, 2) := by decide +kernel
theorem dX12_see_182 : decode cX12_see 182 = .ok (.imul, 1) := by decide +kernel
theorem dX12_see_183 : decode cX12_see 183 = .ok (.iconst 4, 1) := by decide +kernel
theorem dX12_see_184 : decode cX12_see 184 = .ok (.iadd, 1) := by decide +kernel
theorem dX12_see_185 : decode cX12_see 185 = .ok (.dup2, 1) := by decide +kernel
theorem dX12_see_186 : decode cX12_see 186 = .ok (.laload, 1) := by decide +kernel
theorem dX12_see_187 : decode cX12_see 187 = .ok (.lconst 1, 1) := by decide +kernel
theorem dX12_see_188 : decode cX12_see 188 = .ok (.ladd, 1) := by decide +kernel
theorem dX12_see_189 : decode cX12_see 189 = .ok (.lastore, 1) := by decide +kernel
theorem dX12_see_190 : decode cX12_see 190 = .ok (.aload_n 0, 1) := by decide +kernel
theorem dX12_see_191 : decode cX12_see 191 = .ok (.getfield 26, 3) := by decide +kernel
theorem dX12_see_194 : decode cX12_see 194 = .ok (.bipush 8, 2) := by decide +kernel
theorem dX12_see_196 : decode cX12_see 196 = .ok (.iload 6, 2) := by decide +kernel
theorem dX12_see_198 : decode cX12_see 198 = .ok (.imul, 1) := by decide +kernel
theorem dX12_see_199 : decode cX12_see 199 = .ok (.iconst 5, 1) := by decide +kernel
theorem dX12_see_200 : decode cX12_see 200 = .ok (.iadd, 1) := by decide +kernel
theorem dX12_see_201 : decode cX12_see 201 = .ok (.dup2, 1) := by decide +kernel
theorem dX12_see_202 : decode cX12_see 202 = .ok (.laload, 1) := by decide +kernel
theorem dX12_see_203 : decode cX12_see 203 = .ok (.iload 5, 2) := by decide +kernel
theorem dX12_see_205 : decode cX12_see 205 = .ok (.i2l, 1) := by decide +kernel
theorem dX12_see_206 : decode cX12_see 206 = .ok (.ladd, 1) := by decide +kernel
theorem dX12_see_207 : decode cX12_see 207 = .ok (.lastore, 1) := by decide +kernel
theorem dX12_see_208 : decode cX12_see 208 = .ok (.aload_n 0, 1) := by decide +kernel
theorem dX12_see_209 : decode cX12_see 209 = .ok (.getfield 26, 3) := by decide +kernel
theorem dX12_see_212 : decode cX12_see 212 = .ok (.bipush 8, 2) := by decide +kernel
theorem dX12_see_214 : decode cX12_see 214 = .ok (.iload 6, 2) := by decide +kernel
theorem dX12_see_216 : decode cX12_see 216 = .ok (.imul, 1) := by decide +kernel
theorem dX12_see_217 : decode cX12_see 217 = .ok (.bipush 7, 2) := by decide +kernel
theorem dX12_see_219 : decode cX12_see 219 = .ok (.iadd, 1) := by decide +kernel
theorem dX12_see_220 : decode cX12_see 220 = .ok (.aload_n 0, 1) := by decide +kernel
theorem dX12_see_221 : decode cX12_see 221 = .ok (.getfield 101, 3) := by decide +kernel
theorem dX12_see_224 : decode cX12_see 224 = .ok (.i2l, 1) := by decide +kernel
theorem dX12_see_225 : decode cX12_see 225 = .ok (.lastore, 1) := by decide +kernel
theorem dX12_see_226 : decode cX12_see 226 = .ok (.iconst 1, 1) := by decide +kernel
theorem dX12_see_227 : decode cX12_see 227 = .ok (.ireturn, 1) := by decide +kernel
set_option maxRecDepth 20000 in
theorem ggX12_isByte_X12_inRange : GoodIn wsX12_isByte wsX12_inRange := goodIn_r _ [5] (by decide +kernel) (by decide +kernel)
set_option maxRecDepth 20000 in
theorem gX12_isByte_X12_inRange : GoodIn wsX12_isByte (va_wsS RX12 169 yX12_inRange wsX12_inRange) := goodIn_app (goodIn_of _ (by decide +kernel)) ggX12_isByte_X12_inRange
theorem dX12_isByte_0 : decode cX12_isByte 0 = .ok (.iload_n 0, 1) := by decide +kernel
theorem dX12_isByte_1 : decode cX12_isByte 1 = .ok (.i2l, 1) := by decide +kernel
theorem dX12_isByte_2 : decode cX12_isByte 2 = .ok (.lconst 0, 1) := by decide +kernel
theorem dX12_isByte_3 : decode cX12_isByte 3 = .ok (.ldc2_w 218, 3) := by decide +kernel
theorem dX12_isByte_6 : decode cX12_isByte 6 = .ok (.invokestatic 169, 3) := by decide +kernel
theorem dX12_isByte_9 : decode cX12_isByte 9 = .ok (.ireturn, 1) := by decide +kernel
set_option maxRecDepth 20000 in
theorem ggX12_isPacket_X12_isByte : GoodIn wsX12_isPacket wsX12_isByte := goodIn_r _ [5, 6, 7, 8, 4, 9] (by decide +kernel) (by decide +kernel)
set_option maxRecDepth 20000 in
theorem gX12_isPacket_X12_isByte : GoodIn wsX12_isPacket (va_wsS RX12 242 yX12_isByte wsX12_isByte) := goodIn_app (goodIn_of _ (by decide +kernel)) ggX12_isPacket_X12_isByte
set_option maxRecDepth 20000 in
theorem ggX12_isPacket_X12_inRange : GoodIn wsX12_isPacket wsX12_inRange := goodIn_r _ [9] (by decide +kernel) (by decide +kernel)
set_option maxRecDepth 20000 in
theorem gX12_isPacket_X12_inRange : GoodIn wsX12_isPacket (va_wsS RX12 169 yX12_inRange wsX12_inRange) := goodIn_app (goodIn_of _ (by decide +kernel)) ggX12_isPacket_X12_inRange
theorem dX12_isPacket_0 : decode cX12_isPacket 0 = .ok (.iload_n 0, 1) := by decide +kernel
theorem dX12_isPacket_1 : decode cX12_isPacket 1 = .ok (.invokestatic 242, 3) := by decide +kernel
theorem dX12_isPacket_4 : decode cX12_isPacket 4 = .ok (.ifCond .eq 46, 3) := by decide +kernel
theorem dX12_isPacket_7 : decode cX12_isPacket 7 = .ok (.iload_n 1, 1) := by decide +kernel
theorem dX12_isPacket_8 : decode cX12_isPacket 8 = .ok (.invokestatic 242, 3) := by decide +kernel
theorem dX12_isPacket_11 : decode cX12_isPacket 11 = .ok (.ifCond .eq 39, 3) := by decide +kernel
theorem dX12_isPacket_14 : decode cX12_isPacket 14 = .ok (.iload_n 2, 1) := by decide +kernel
theorem dX12_isPacket_15 : decode cX12_isPacket 15 = .ok (.i2l, 1) := by decide +kernel
theorem dX12_isPacket_16 : decode cX12_isPacket 16 = .ok (.lconst 0, 1) := by decide +kernel
theorem dX12_isPacket_17 : decode cX12_isPacket 17 = .ok (.ldc2_w 245, 3) := by decide +kernel
theorem dX12_isPacket_20 : decode cX12_isPacket 20 = .ok (.invokestatic 169, 3) := by decide +kernel
theorem dX12_isPacket_23 : decode cX12_isPacket 23 = .ok (.ifCond .eq 27, 3) := by decide +kernel
theorem dX12_isPacket_26 : decode cX12_isPacket 26 = .ok (.iload_n 3, 1) := by decide +kernel
theorem dX12_isPacket_27 : decode cX12_isPacket 27 = .ok (.invokestatic 242, 3) := by decide +kernel
theorem dX12_isPacket_30 : decode cX12_isPacket 30 = .ok (.ifCond .eq 20, 3) := by decide +kernel
theorem dX12_isPacket_33 : decode cX12_isPacket 33 = .ok (.iload 4, 2) := by decide +kernel
theorem dX12_isPacket_35 : decode cX12_isPacket 35 = .ok (.i2l, 1) := by decide +kernel
theorem dX12_isPacket_36 : decode cX12_isPacket 36 = .ok (.lconst 1, 1) := by decide +kernel
theorem dX12_isPacket_37 : decode cX12_isPacket 37 = .ok (.ldc2_w 245, 3) := by decide +kernel
theorem dX12_isPacket_40 : decode cX12_isPacket 40 = .ok (.invokestatic 169, 3) := by decide +kernel
theorem dX12_isPacket_43 : decode cX12_isPacket 43 = .ok (.ifCond .eq 7, 3) := by decide +kernel
theorem dX12_isPacket_46 : decode cX12_isPacket 46 = .ok (.iconst 1, 1) := by decide +kernel
theorem dX12_isPacket_47 : decode cX12_isPacket 47 = .ok (.goto 4, 3) := by decide +kernel
theorem dX12_isPacket_50 : decode cX12_isPacket 50 = .ok (.iconst 0, 1) := by decide +kernel
theorem dX12_isPacket_51 : decode cX12_isPacket 51 = .ok (.ireturn, 1) := by decide +kernel
set_option maxRecDepth 20000 in
theorem ggX12_observe_X12_isPacket : GoodIn wsX12_observe wsX12_isPacket := goodIn_r _ [5, 6, 7, 8, 4, 9, 10, 11, 12, 13] (by decide +kernel) (by decide +kernel)
set_option maxRecDepth 20000 in
theorem gX12_observe_X12_isPacket : GoodIn wsX12_observe (va_wsS RX12 247 yX12_isPacket wsX12_isPacket) := goodIn_app (goodIn_of _ (by decide +kernel)) ggX12_observe_X12_isPacket
set_option maxRecDepth 20000 in
theorem ggX12_observe_X12_throwsIf : GoodIn wsX12_observe wsX12_throwsIf := goodIn_r _ [17, 1, 164, 165, 166, 167, 168, 169, 170, 171, 172, 173, 174, 175, 176, 177, 178, 179, 180, 181, 182, 183, 184, 185, 186, 187, 188, 189, 190, 191, 192, 193, 194, 195, 196, 197, 198, 199, 200, 201, 202, 203, 204, 205, 206, 207, 208, 209, 210, 211, 212, 213, 214, 215, 216, 217] (by decide +kernel) (by decide +kernel)
set_option maxRecDepth 20000 in
theorem gX12_observe_X12_throwsIf : GoodIn wsX12_observe (wsV RX12 185 RX12 yX12_throwsIf wsX12_throwsIf) := goodIn_app (goodIn_of _ (by decide +kernel)) ggX12_observe_X12_throwsIf
set_option maxRecDepth 20000 in
theorem ggX12_observe_X12_see : GoodIn wsX12_observe wsX12_see := goodIn_ca (goodIn_ca (goodIn_r _ [21, 22, 23, 24, 25, 26, 27, 28, 29, 30, 4, 31, 32, 33, 34, 35, 36, 37, 38, 39, 40, 41, 42, 43, 44, 45, 46, 47, 48, 49, 50, 51, 52, 53, 54, 55, 56, 57, 58, 59, 60, 61, 62, 63, 64, 65, 66, 67, 68, 69, 70, 71, 72, 73, 74, 75, 76, 77, 78, 79, 80, 81, 82, 83, 84, 85, 86, 10, 87, 88, 89, 90, 91, 92, 93, 94, 95, 96, 97, 98, 99, 100, 101, 102, 103, 104, 105, 106, 107, 108, 109, 110, 164, 165, 166, 167, 168, 169, 170, 171, 172, 173, 174, 175, 176, 177, 178, 179, 180, 181, 182, 183, 184, 185, 186, 187, 188, 189, 190, 191, 192, 193, 194, 195, 196, 197, 198, 199, 200, 201, 202, 203, 204, 205, 206, 207, 208, 209, 210, 211, 212, 213, 214, 215, 216, 217] (by decide +kernel) (by decide +kernel)) (goodIn_sub (fun _ h => List.mem_cons_of_mem _ (List.mem_append_left _ (List.mem_append_right _ h))) (by decide +kernel))) (goodIn_sub (fun _ h => List.mem_cons_of_mem _ (List.mem_append_right _ h)) (by decide +kernel))
set_option maxRecDepth 20000 in
theorem gX12_observe_X12_see : GoodIn wsX12_observe (wsV RX12 251 RX12 yX12_see wsX12_see) := goodIn_app (goodIn_of _ (by decide +kernel)) ggX12_observe_X12_see
set_option maxRecDepth 20000 in
theorem ggX12_observe_X12_sendPending : GoodIn wsX12_observe wsX12_sendPending := goodIn_ca (goodIn_r _ [114, 85, 115, 116, 27, 117, 118, 119, 120, 121, 122, 123, 4, 124, 125, 10, 126, 127, 128, 129, 62, 130, 131, 132, 133, 134, 135, 136, 65, 66, 67, 68, 69, 70, 71, 72, 73, 74, 75, 76, 77, 78, 79, 80, 137, 138, 139, 140, 141, 142, 143, 88, 89, 90, 91, 92, 93, 94, 144, 145, 146, 147, 148, 149, 150, 151, 87, 86, 152, 153, 154, 155, 156, 157, 158, 159, 160, 161, 162, 163, 164, 165, 166, 167, 168, 169, 170, 171, 172, 173, 174, 175, 176, 177, 178, 179, 180, 181, 182, 183, 184, 185, 186, 187, 188, 189, 190, 191, 192, 193, 194, 195, 196, 197, 198, 199, 200, 201, 202, 203, 204, 205, 206, 207, 208, 209, 210, 211, 212, 213, 214, 215, 216, 217] (by decide +kernel) (by decide +kernel)) (goodIn_sub (fun _ h => List.mem_cons_of_mem _ (List.mem_append_left _ (List.mem_append_right _ h))) (by decide +kernel))
set_option maxRecDepth 20000 in
theorem gX12_observe_X12_sendPending : GoodIn wsX12_observe (wsV RX12 254 RX12 yX12_sendPending wsX12_sendPending) := goodIn_app (goodIn_of _ (by decide +kernel)) ggX12_observe_X12_sendPending
theorem dX12_observe_0 : decode cX12_observe 0 = .ok (.aload_n 0, 1) := by decide +kernel
theorem dX12_observe_1 : decode cX12_observe 1 = .ok (.iconst 0, 1) := by decide +kernel
theorem dX12_observe_2 : decode cX12_observe 2 = .ok (.putfield 1, 3) := by decide +kernel
theorem dX12_observe_5 : decode cX12_observe 5 = .ok (.aload_n 0, 1) := by decide +kernel
theorem dX12_observe_6 : decode cX12_observe 6 = .ok (.iload_n 1, 1) := by decide +kernel
theorem dX12_observe_7 : decode cX12_observe 7 = .ok (.iload_n 2, 1) := by decide +kernel
theorem dX12_observe_8 : decode cX12_observe 8 = .ok (.iload_n 3, 1) := by decide +kernel
theorem dX12_observe_9 : decode cX12_observe 9 = .ok (.iload 4, 2) := by decide +kernel
theorem dX12_observe_11 : decode cX12_observe 11 = .ok (.iload 5, 2) := by decide +kernel
theorem dX12_observe_13 : decode cX12_observe 13 = .ok (.invokestatic 247, 3) := by decide +kernel
theorem dX12_observe_16 : decode cX12_observe 16 = .ok (.ifCond .ne 7, 3) := by decide +kernel
theorem dX12_observe_19 : decode cX12_observe 19 = .ok (.iconst 1, 1) := by decide +kernel
theorem dX12_observe_20 : decode cX12_observe 20 = .ok (.goto 4, 3) := by decide +kernel
theorem dX12_observe_23 : decode cX12_observe 23 = .ok (.iconst 0, 1) := by decide +kernel
theorem dX12_observe_24 : decode cX12_observe 24 = .ok (.iconst 1, 1) := by decide +kernel
theorem dX12_observe_25 : decode cX12_observe 25 = .ok (.invokevirtual 185, 3) := by decide +kernel
theorem dX12_observe_28 : decode cX12_observe 28 = .ok (.ifCond .eq 5, 3) := by decide +kernel
theorem dX12_observe_31 : decode cX12_observe 31 = .ok (.iconst 0, 1) := by decide +kernel
theorem dX12_observe_32 : decode cX12_observe 32 = .ok (.ireturn, 1) := by decide +kernel
theorem dX12_observe_33 : decode cX12_observe 33 = .ok (.aload_n 0, 1) := by decide +kernel
theorem dX12_observe_34 : decode cX12_observe 34 = .ok (.iload_n 1, 1) := by decide +kernel
theorem dX12_observe_35 : decode cX12_observe 35 = .ok (.iload_n 2, 1) := by decide +kernel
theorem dX12_observe_36 : decode cX12_observe 36 = .ok (.iload_n 3, 1) := by decide +kernel
theorem dX12_observe_37 : decode cX12_observe 37 = .ok (.iload 4, 2) := by decide +kernel
theorem dX12_observe_39 : decode cX12_observe 39 = .ok (.iload 5, 2) := by decide +kernel
theorem dX12_observe_41 : decode cX12_observe 41 = .ok (.invokevirtual 251, 3) := by decide +kernel
theorem dX12_observe_44 : decode cX12_observe 44 = .ok (.istore 6, 2) := by decide +kernel
theorem dX12_observe_46 : decode cX12_observe 46 = .ok (.aload_n 0, 1) := by decide +kernel
theorem dX12_observe_47 : decode cX12_observe 47 = .ok (.invokevirtual 254, 3) := by decide +kernel
theorem dX12_observe_50 : decode cX12_observe 50 = .ok (.iload 6, 2) := by decide +kernel
theorem dX12_observe_52 : decode cX12_observe 52 = .ok (.ireturn, 1) := by decide +kernel
set_option maxRecDepth 20000 in
theorem ggX12_remember_X12_trueKeyOf : GoodIn wsX12_remember wsX12_trueKeyOf := goodIn_ca (goodIn_r _ [8, 1, 2, 9, 10, 7, 11, 12, 13, 14, 15, 16, 17, 18, 19, 20, 21, 22, 23, 24, 25, 26, 27, 28, 29, 30, 31, 32, 33, 34, 35, 36, 37, 38, 39, 40, 41, 42, 43, 44, 45, 46, 47, 48, 49, 50, 51, 52, 53, 54, 55, 56, 57, 58, 59, 60, 61, 62, 63, 64, 65] (by decide +kernel) (by decide +kernel)) (goodIn_sub (fun _ h => List.mem_cons_of_mem _ (List.mem_append_right _ h)) (by decide +kernel))
set_option maxRecDepth 20000 in
theorem gX12_remember_X12_trueKeyOf : GoodIn wsX12_remember (wsV RX12 434 RX12 yX12_trueKeyOf wsX12_trueKeyOf) := goodIn_app (goodIn_of _ (by decide +kernel)) ggX12_remember_X12_trueKeyOf
theorem dX12_remember_0 : decode cX12_remember 0 = .ok (.aload_n 0, 1) := by decide +kernel
theorem dX12_remember_1 : decode cX12_remember 1 = .ok (.iload_n 1, 1) := by decide +kernel
theorem dX12_remember_2 : decode cX12_remember 2 = .ok (.iload_n 2, 1) := by decide +kernel
theorem dX12_remember_3 : decode cX12_remember 3 = .ok (.iload_n 3, 1) := by decide +kernel
theorem dX12_remember_4 : decode cX12_remember 4 = .ok (.iload 4, 2) := by decide +kernel
theorem dX12_remember_6 : decode cX12_remember 6 = .ok (.invokevirtual 434, 3) := by decide +kernel
theorem dX12_remember_9 : decode cX12_remember 9 = .ok (.istore 6, 2) := by decide +kernel
theorem dX12_remember_11 : decode cX12_remember 11 = .ok (.iload 6, 2) := by decide +kernel
theorem dX12_remember_13 : decode cX12_remember 13 = .ok (.iconst (-1), 1) := by decide +kernel
theorem dX12_remember_14 : decode cX12_remember 14 = .ok (.if_icmp .ne 13, 3) := by decide +kernel
theorem dX12_remember_17 : decode cX12_remember 17 = .ok (.aload_n 0, 1) := by decide +kernel
theorem dX12_remember_18 : decode cX12_remember 18 = .ok (.getfield 145, 3) := by decide +kernel
theorem dX12_remember_21 : decode cX12_remember 21 = .ok (.bipush 24, 2) := by decide +kernel
theorem dX12_remember_23 : decode cX12_remember 23 = .ok (.if_icmp .ne 4, 3) := by decide +kernel
theorem dX12_remember_27 : decode cX12_remember 27 = .ok (.iload 6, 2) := by decide +kernel
theorem dX12_remember_29 : decode cX12_remember 29 = .ok (.iconst (-1), 1) := by decide +kernel
theorem dX12_remember_30 : decode cX12_remember 30 = .ok (.if_icmp .ne 88, 3) := by decide +kernel
theorem dX12_remember_33 : decode cX12_remember 33 = .ok (.aload_n 0, 1) := by decide +kernel
theorem dX12_remember_34 : decode cX12_remember 34 = .ok (.getfield 145, 3) := by decide +kernel
theorem dX12_remember_37 : decode cX12_remember 37 = .ok (.istore 6, 2) := by decide +kernel
theorem dX12_remember_39 : decode cX12_remember 39 = .ok (.aload_n 0, 1) := by decide +kernel
theorem dX12_remember_40 : decode cX12_remember 40 = .ok (.dup, 1) := by decide +kernel
theorem dX12_remember_41 : decode cX12_remember 41 = .ok (.getfield 145, 3) := by decide +kernel
theorem dX12_remember_44 : decode cX12_remember 44 = .ok (.iconst 1, 1) := by decide +kernel
theorem dX12_remember_45 : decode cX12_remember 45 = .ok (.iadd, 1) := by decide +kernel
theorem dX12_remember_46 : decode cX12_remember 46 = .ok (.putfield 145, 3) := by decide +kernel
theorem dX12_remember_49 : decode cX12_remember 49 = .ok (.aload_n 0, 1) := by decide +kernel
theorem dX12_remember_50 : decode cX12_remember 50 = .ok (.getfield 82, 3) := by decide +kernel
theorem dX12_remember_53 : decode cX12_remember 53 = .ok (.iconst 4, 1) := by decide +kernel
theorem dX12_remember_54 : decode cX12_remember 54 = .ok (.iload 6, 2) := by decide +kernel
theorem dX12_remember_56 : decode cX12_remember 56 = .ok (.imul, 1) := by decide +kernel
theorem dX12_remember_57 : decode cX12_remember 57 = .ok (.iload_n 1, 1) := by decide +kernel
theorem dX12_remember_58 : decode cX12_remember 58 = .ok (.iastore, 1) := by decide +kernel
theorem dX12_remember_59 : decode cX12_remember 59 = .ok (.aload_n 0, 1) := by decide +kernel
theorem dX12_remember_60 : decode cX12_remember 60 = .ok (.getfield 82, 3) := by decide +kernel
theorem dX12_remember_63 : decode cX12_remember 63 = .ok (.iconst 4, 1) := by decide +kernel
theorem dX12_remember_64 : decode cX12_remember 64 = .ok (.iload 6, 2) := by decide +kernel
theorem dX12_remember_66 : decode cX12_remember 66 = .ok (.imul, 1) := by decide +kernel
theorem dX12_remember_67 : decode cX12_remember 67 = .ok (.iconst 1, 1) := by decide +kernel
theorem dX12_remember_68 : decode cX12_remember 68 = .ok (.iadd, 1) := by decide +kernel
theorem dX12_remember_69 : decode cX12_remember 69 = .ok (.iload_n 2, 1) := by decide +kernel
theorem dX12_remember_70 : decode cX12_remember 70 = .ok (.iastore, 1) := by decide +kernel
theorem dX12_remember_71 : decode cX12_remember 71 = .ok (.aload_n 0, 1) := by decide +kernel
theorem dX12_remember_72 : decode cX12_remember 72 = .ok (.getfield 82, 3) := by decide +kernel
theorem dX12_remember_75 : decode cX12_remember 75 = .ok (.iconst 4, 1) := by decide +kernel
theorem dX12_remember_76 : decode cX12_remember 76 = .ok (.iload 6, 2) := by decide +kernel
theorem dX12_remember_78 : decode cX12_remember 78 = .ok (.imul, 1) := by decide +kernel
theorem dX12_remember_79 : decode cX12_remember 79 = .ok (.iconst 2, 1) := by decide +kernel
theorem dX12_remember_80 : decode cX12_remember 80 = .ok (.iadd, 1) := by decide +kernel
theorem dX12_remember_81 : decode cX12_remember 81 = .ok (.iload_n 3, 1) := by decide +kernel
theorem dX12_remember_82 : decode cX12_remember 82 = .ok (.iastore, 1) := by decide +kernel
theorem dX12_remember_83 : decode cX12_remember 83 = .ok (.aload_n 0, 1) := by decide +kernel
theorem dX12_remember_84 : decode cX12_remember 84 = .ok (.getfield 82, 3) := by decide +kernel
theorem dX12_remember_87 : decode cX12_remember 87 = .ok (.iconst 4, 1) := by decide +kernel
theorem dX12_remember_88 : decode cX12_remember 88 = .ok (.iload 6, 2) := by decide +kernel
theorem dX12_remember_90 : decode cX12_remember 90 = .ok (.imul, 1) := by decide +kernel
theorem dX12_remember_91 : decode cX12_remember 91 = .ok (.iconst 3, 1) := by decide +kernel
theorem dX12_remember_92 : decode cX12_remember 92 = .ok (.iadd, 1) := by decide +kernel
theorem dX12_remember_93 : decode cX12_remember 93 = .ok (.iload 4, 2) := by decide +kernel
theorem dX12_remember_95 : decode cX12_remember 95 = .ok (.iastore, 1) := by decide +kernel
theorem dX12_remember_96 : decode cX12_remember 96 = .ok (.aload_n 0, 1) := by decide +kernel
theorem dX12_remember_97 : decode cX12_remember 97 = .ok (.getfield 85, 3) := by decide +kernel
theorem dX12_remember_100 : decode cX12_remember 100 = .ok (.iconst 2, 1) := by decide +kernel
theorem dX12_remember_101 : decode cX12_remember 101 = .ok (.iload 6, 2) := by decide +kernel
theorem dX12_remember_103 : decode cX12_remember 103 = .ok (.imul, 1) := by decide +kernel
theorem dX12_remember_104 : decode cX12_remember 104 = .ok (.lconst 0, 1) := by decide +kernel
theorem dX12_remember_105 : decode cX12_remember 105 = .ok (.lastore, 1) := by decide +kernel
theorem dX12_remember_106 : decode cX12_remember 106 = .ok (.aload_n 0, 1) := by decide +kernel
theorem dX12_remember_107 : decode cX12_remember 107 = .ok (.getfield 85, 3) := by decide +kernel
theorem dX12_remember_110 : decode cX12_remember 110 = .ok (.iconst 2, 1) := by decide +kernel
theorem dX12_remember_111 : decode cX12_remember 111 = .ok (.iload 6, 2) := by decide +kernel
theorem dX12_remember_113 : decode cX12_remember 113 = .ok (.imul, 1) := by decide +kernel
theorem dX12_remember_114 : decode cX12_remember 114 = .ok (.iconst 1, 1) := by decide +kernel
theorem dX12_remember_115 : decode cX12_remember 115 = .ok (.iadd, 1) := by decide +kernel
theorem dX12_remember_116 : decode cX12_remember 116 = .ok (.lconst 0, 1) := by decide +kernel
theorem dX12_remember_117 : decode cX12_remember 117 = .ok (.lastore, 1) := by decide +kernel
theorem dX12_remember_118 : decode cX12_remember 118 = .ok (.aload_n 0, 1) := by decide +kernel
theorem dX12_remember_119 : decode cX12_remember 119 = .ok (.getfield 85, 3) := by decide +kernel
theorem dX12_remember_122 : decode cX12_remember 122 = .ok (.iconst 2, 1) := by decide +kernel
theorem dX12_remember_123 : decode cX12_remember 123 = .ok (.iload 6, 2) := by decide +kernel
theorem dX12_remember_125 : decode cX12_remember 125 = .ok (.imul, 1) := by decide +kernel
theorem dX12_remember_126 : decode cX12_remember 126 = .ok (.dup2, 1) := by decide +kernel
theorem dX12_remember_127 : decode cX12_remember 127 = .ok (.laload, 1) := by decide +kernel
theorem dX12_remember_128 : decode cX12_remember 128 = .ok (.lconst 1, 1) := by decide +kernel
theorem dX12_remember_129 : decode cX12_remember 129 = .ok (.ladd, 1) := by decide +kernel
theorem dX12_remember_130 : decode cX12_remember 130 = .ok (.lastore, 1) := by decide +kernel
theorem dX12_remember_131 : decode cX12_remember 131 = .ok (.aload_n 0, 1) := by decide +kernel
theorem dX12_remember_132 : decode cX12_remember 132 = .ok (.getfield 85, 3) := by decide +kernel
theorem dX12_remember_135 : decode cX12_remember 135 = .ok (.iconst 2, 1) := by decide +kernel
theorem dX12_remember_136 : decode cX12_remember 136 = .ok (.iload 6, 2) := by decide +kernel
theorem dX12_remember_138 : decode cX12_remember 138 = .ok (.imul, 1) := by decide +kernel
theorem dX12_remember_139 : decode cX12_remember 139 = .ok (.iconst 1, 1) := by decide +kernel
theorem dX12_remember_140 : decode cX12_remember 140 = .ok (.iadd, 1) := by decide +kernel
theorem dX12_remember_141 : decode cX12_remember 141 = .ok (.dup2, 1) := by decide +kernel
theorem dX12_remember_142 : decode cX12_remember 142 = .ok (.laload, 1) := by decide +kernel
theorem dX12_remember_143 : decode cX12_remember 143 = .ok (.iload 5, 2) := by decide +kernel
theorem dX12_remember_145 : decode cX12_remember 145 = .ok (.i2l, 1) := by decide +kernel
theorem dX12_remember_146 : decode cX12_remember 146 = .ok (.ladd, 1) := by decide +kernel
theorem dX12_remember_147 : decode cX12_remember 147 = .ok (.lastore, 1) := by decide +kernel
theorem dX12_remember_148 : decode cX12_remember 148 = .ok (.return_, 1) := by decide +kernel

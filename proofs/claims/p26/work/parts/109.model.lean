set_option maxRecDepth 20000 in
theorem ggX12_addRecord_X12_keyOf : GoodIn wsX12_addRecord wsX12_keyOf := goodIn_ca ((goodIn_ca (goodIn_r _ [12, 2, 4, 13, 14, 11, 15] rfl (by decide +kernel)) (goodIn_sub (fun _ h => List.mem_cons_of_mem _ (List.mem_append_left _ (List.mem_append_right _ h))) gw_wsX120))) (goodIn_sub (fun _ h => List.mem_cons_of_mem _ (List.mem_append_right _ h)) (all_fg _))
set_option maxRecDepth 20000 in
theorem gX12_addRecord_X12_keyOf : GoodIn wsX12_addRecord (wsV RX12 390 RX12 yX12_keyOf wsX12_keyOf) := goodIn_app (goodIn_m (mem_cA (List.mem_cons_of_mem _ (List.mem_append_left _ (List.mem_append_left _ (List.mem_of_getElem? (i := 7) rfl)))) (mem_cA (List.mem_cons_of_mem _ (List.mem_append_left _ (List.mem_append_left _ (List.mem_of_getElem? (i := 8) rfl)))) (mem_cA (List.mem_cons_of_mem _ (List.mem_append_left _ (List.mem_append_left _ (List.mem_of_getElem? (i := 9) rfl)))) (mem_cA (List.mem_cons_of_mem _ (List.mem_append_left _ (List.mem_append_left _ (List.mem_of_getElem? (i := 10) rfl)))) mem_cZ)))) (by decide +kernel)) ggX12_addRecord_X12_keyOf
theorem dX12_addRecord_0 : decode cX12_addRecord 0 = .ok (.aload_n 0, 1) := by decide +kernel
theorem dX12_addRecord_1 : decode cX12_addRecord 1 = .ok (.aload_n 0, 1) := by decide +kernel
theorem dX12_addRecord_2 : decode cX12_addRecord 2 = .ok (.getfield 66, 3) := by decide +kernel
theorem dX12_addRecord_5 : decode cX12_addRecord 5 = .ok (.iconst 0, 1) := by decide +kernel
theorem dX12_addRecord_6 : decode cX12_addRecord 6 = .ok (.laload, 1) := by decide +kernel
theorem dX12_addRecord_7 : decode cX12_addRecord 7 = .ok (.aload_n 0, 1) := by decide +kernel
theorem dX12_addRecord_8 : decode cX12_addRecord 8 = .ok (.getfield 66, 3) := by decide +kernel
theorem dX12_addRecord_11 : decode cX12_addRecord 11 = .ok (.iconst 1, 1) := by decide +kernel
theorem dX12_addRecord_12 : decode cX12_addRecord 12 = .ok (.laload, 1) := by decide +kernel
theorem dX12_addRecord_13 : decode cX12_addRecord 13 = .ok (.aload_n 0, 1) := by decide +kernel
theorem dX12_addRecord_14 : decode cX12_addRecord 14 = .ok (.getfield 66, 3) := by decide +kernel
theorem dX12_addRecord_17 : decode cX12_addRecord 17 = .ok (.iconst 2, 1) := by decide +kernel
theorem dX12_addRecord_18 : decode cX12_addRecord 18 = .ok (.laload, 1) := by decide +kernel
theorem dX12_addRecord_19 : decode cX12_addRecord 19 = .ok (.aload_n 0, 1) := by decide +kernel
theorem dX12_addRecord_20 : decode cX12_addRecord 20 = .ok (.getfield 66, 3) := by decide +kernel
theorem dX12_addRecord_23 : decode cX12_addRecord 23 = .ok (.iconst 3, 1) := by decide +kernel
theorem dX12_addRecord_24 : decode cX12_addRecord 24 = .ok (.laload, 1) := by decide +kernel
theorem dX12_addRecord_25 : decode cX12_addRecord 25 = .ok (.invokevirtual 390, 3) := by decide +kernel
theorem dX12_addRecord_28 : decode cX12_addRecord 28 = .ok (.istore_n 2, 1) := by decide +kernel
theorem dX12_addRecord_29 : decode cX12_addRecord 29 = .ok (.iload_n 2, 1) := by decide +kernel
theorem dX12_addRecord_30 : decode cX12_addRecord 30 = .ok (.iconst (-1), 1) := by decide +kernel
theorem dX12_addRecord_31 : decode cX12_addRecord 31 = .ok (.if_icmp .ne 24, 3) := by decide +kernel
theorem dX12_addRecord_34 : decode cX12_addRecord 34 = .ok (.aload_n 0, 1) := by decide +kernel
theorem dX12_addRecord_35 : decode cX12_addRecord 35 = .ok (.getfield 148, 3) := by decide +kernel
theorem dX12_addRecord_38 : decode cX12_addRecord 38 = .ok (.bipush 24, 2) := by decide +kernel
theorem dX12_addRecord_40 : decode cX12_addRecord 40 = .ok (.if_icmp .ne 15, 3) := by decide +kernel
theorem dX12_addRecord_43 : decode cX12_addRecord 43 = .ok (.aload_n 0, 1) := by decide +kernel
theorem dX12_addRecord_44 : decode cX12_addRecord 44 = .ok (.getfield 45, 3) := by decide +kernel
theorem dX12_addRecord_47 : decode cX12_addRecord 47 = .ok (.bipush 6, 2) := by decide +kernel
theorem dX12_addRecord_49 : decode cX12_addRecord 49 = .ok (.dup2, 1) := by decide +kernel
theorem dX12_addRecord_50 : decode cX12_addRecord 50 = .ok (.laload, 1) := by decide +kernel
theorem dX12_addRecord_51 : decode cX12_addRecord 51 = .ok (.lconst 1, 1) := by decide +kernel
theorem dX12_addRecord_52 : decode cX12_addRecord 52 = .ok (.ladd, 1) := by decide +kernel
theorem dX12_addRecord_53 : decode cX12_addRecord 53 = .ok (.lastore, 1) := by decide +kernel
theorem dX12_addRecord_54 : decode cX12_addRecord 54 = .ok (.return_, 1) := by decide +kernel
theorem dX12_addRecord_55 : decode cX12_addRecord 55 = .ok (.iload_n 2, 1) := by decide +kernel
theorem dX12_addRecord_56 : decode cX12_addRecord 56 = .ok (.iconst (-1), 1) := by decide +kernel
theorem dX12_addRecord_57 : decode cX12_addRecord 57 = .ok (.if_icmp .ne 94, 3) := by decide +kernel
theorem dX12_addRecord_60 : decode cX12_addRecord 60 = .ok (.aload_n 0, 1) := by decide +kernel
theorem dX12_addRecord_61 : decode cX12_addRecord 61 = .ok (.getfield 148, 3) := by decide +kernel
theorem dX12_addRecord_64 : decode cX12_addRecord 64 = .ok (.istore_n 2, 1) := by decide +kernel
theorem dX12_addRecord_65 : decode cX12_addRecord 65 = .ok (.aload_n 0, 1) := by decide +kernel
theorem dX12_addRecord_66 : decode cX12_addRecord 66 = .ok (.dup, 1) := by decide +kernel
theorem dX12_addRecord_67 : decode cX12_addRecord 67 = .ok (.getfield 148, 3) := by decide +kernel
theorem dX12_addRecord_70 : decode cX12_addRecord 70 = .ok (.iconst 1, 1) := by decide +kernel
theorem dX12_addRecord_71 : decode cX12_addRecord 71 = .ok (.iadd, 1) := by decide +kernel
theorem dX12_addRecord_72 : decode cX12_addRecord 72 = .ok (.putfield 148, 3) := by decide +kernel
theorem dX12_addRecord_75 : decode cX12_addRecord 75 = .ok (.iconst 0, 1) := by decide +kernel
theorem dX12_addRecord_76 : decode cX12_addRecord 76 = .ok (.istore_n 3, 1) := by decide +kernel
theorem dX12_addRecord_77 : decode cX12_addRecord 77 = .ok (.iload_n 3, 1) := by decide +kernel
theorem dX12_addRecord_78 : decode cX12_addRecord 78 = .ok (.iconst 4, 1) := by decide +kernel
theorem dX12_addRecord_79 : decode cX12_addRecord 79 = .ok (.if_icmp .ge 26, 3) := by decide +kernel
theorem dX12_addRecord_82 : decode cX12_addRecord 82 = .ok (.aload_n 0, 1) := by decide +kernel
theorem dX12_addRecord_83 : decode cX12_addRecord 83 = .ok (.getfield 69, 3) := by decide +kernel
theorem dX12_addRecord_86 : decode cX12_addRecord 86 = .ok (.iconst 4, 1) := by decide +kernel
theorem dX12_addRecord_87 : decode cX12_addRecord 87 = .ok (.iload_n 2, 1) := by decide +kernel
theorem dX12_addRecord_88 : decode cX12_addRecord 88 = .ok (.imul, 1) := by decide +kernel
theorem dX12_addRecord_89 : decode cX12_addRecord 89 = .ok (.iload_n 3, 1) := by decide +kernel
theorem dX12_addRecord_90 : decode cX12_addRecord 90 = .ok (.iadd, 1) := by decide +kernel
theorem dX12_addRecord_91 : decode cX12_addRecord 91 = .ok (.aload_n 0, 1) := by decide +kernel
theorem dX12_addRecord_92 : decode cX12_addRecord 92 = .ok (.getfield 66, 3) := by decide +kernel
theorem dX12_addRecord_95 : decode cX12_addRecord 95 = .ok (.iload_n 3, 1) := by decide +kernel
theorem dX12_addRecord_96 : decode cX12_addRecord 96 = .ok (.laload, 1) := by decide +kernel
theorem dX12_addRecord_97 : decode cX12_addRecord 97 = .ok (.l2i, 1) := by decide +kernel
theorem dX12_addRecord_98 : decode cX12_addRecord 98 = .ok (.iastore, 1) := by decide +kernel
theorem dX12_addRecord_99 : decode cX12_addRecord 99 = .ok (.iinc 3 1, 3) := by decide +kernel
theorem dX12_addRecord_102 : decode cX12_addRecord 102 = .ok (.goto (-25), 3) := by decide +kernel
theorem dX12_addRecord_105 : decode cX12_addRecord 105 = .ok (.iconst 0, 1) := by decide +kernel
theorem dX12_addRecord_106 : decode cX12_addRecord 106 = .ok (.istore_n 3, 1) := by decide +kernel
theorem dX12_addRecord_107 : decode cX12_addRecord 107 = .ok (.iload_n 3, 1) := by decide +kernel
theorem dX12_addRecord_108 : decode cX12_addRecord 108 = .ok (.iconst 2, 1) := by decide +kernel
theorem dX12_addRecord_109 : decode cX12_addRecord 109 = .ok (.if_icmp .ge 42, 3) := by decide +kernel
theorem dX12_addRecord_112 : decode cX12_addRecord 112 = .ok (.aload_n 0, 1) := by decide +kernel
theorem dX12_addRecord_113 : decode cX12_addRecord 113 = .ok (.getfield 72, 3) := by decide +kernel
theorem dX12_addRecord_116 : decode cX12_addRecord 116 = .ok (.iconst 2, 1) := by decide +kernel
theorem dX12_addRecord_117 : decode cX12_addRecord 117 = .ok (.iload_n 2, 1) := by decide +kernel
theorem dX12_addRecord_118 : decode cX12_addRecord 118 = .ok (.imul, 1) := by decide +kernel
theorem dX12_addRecord_119 : decode cX12_addRecord 119 = .ok (.iload_n 3, 1) := by decide +kernel
theorem dX12_addRecord_120 : decode cX12_addRecord 120 = .ok (.iadd, 1) := by decide +kernel
theorem dX12_addRecord_121 : decode cX12_addRecord 121 = .ok (.lconst 0, 1) := by decide +kernel
theorem dX12_addRecord_122 : decode cX12_addRecord 122 = .ok (.lastore, 1) := by decide +kernel
theorem dX12_addRecord_123 : decode cX12_addRecord 123 = .ok (.aload_n 0, 1) := by decide +kernel
theorem dX12_addRecord_124 : decode cX12_addRecord 124 = .ok (.getfield 75, 3) := by decide +kernel
theorem dX12_addRecord_127 : decode cX12_addRecord 127 = .ok (.iconst 2, 1) := by decide +kernel
theorem dX12_addRecord_128 : decode cX12_addRecord 128 = .ok (.iload_n 2, 1) := by decide +kernel
theorem dX12_addRecord_129 : decode cX12_addRecord 129 = .ok (.imul, 1) := by decide +kernel
theorem dX12_addRecord_130 : decode cX12_addRecord 130 = .ok (.iload_n 3, 1) := by decide +kernel
theorem dX12_addRecord_131 : decode cX12_addRecord 131 = .ok (.iadd, 1) := by decide +kernel
theorem dX12_addRecord_132 : decode cX12_addRecord 132 = .ok (.lconst 0, 1) := by decide +kernel
theorem dX12_addRecord_133 : decode cX12_addRecord 133 = .ok (.lastore, 1) := by decide +kernel
theorem dX12_addRecord_134 : decode cX12_addRecord 134 = .ok (.aload_n 0, 1) := by decide +kernel
theorem dX12_addRecord_135 : decode cX12_addRecord 135 = .ok (.getfield 78, 3) := by decide +kernel
theorem dX12_addRecord_138 : decode cX12_addRecord 138 = .ok (.iconst 2, 1) := by decide +kernel
theorem dX12_addRecord_139 : decode cX12_addRecord 139 = .ok (.iload_n 2, 1) := by decide +kernel
theorem dX12_addRecord_140 : decode cX12_addRecord 140 = .ok (.imul, 1) := by decide +kernel
theorem dX12_addRecord_141 : decode cX12_addRecord 141 = .ok (.iload_n 3, 1) := by decide +kernel
theorem dX12_addRecord_142 : decode cX12_addRecord 142 = .ok (.iadd, 1) := by decide +kernel
theorem dX12_addRecord_143 : decode cX12_addRecord 143 = .ok (.dconst 0, 1) := by decide +kernel
theorem dX12_addRecord_144 : decode cX12_addRecord 144 = .ok (.dastore, 1) := by decide +kernel
theorem dX12_addRecord_145 : decode cX12_addRecord 145 = .ok (.iinc 3 1, 3) := by decide +kernel
theorem dX12_addRecord_148 : decode cX12_addRecord 148 = .ok (.goto (-41), 3) := by decide +kernel
theorem dX12_addRecord_151 : decode cX12_addRecord 151 = .ok (.aload_n 0, 1) := by decide +kernel
theorem dX12_addRecord_152 : decode cX12_addRecord 152 = .ok (.getfield 66, 3) := by decide +kernel
theorem dX12_addRecord_155 : decode cX12_addRecord 155 = .ok (.iconst 4, 1) := by decide +kernel
theorem dX12_addRecord_156 : decode cX12_addRecord 156 = .ok (.laload, 1) := by decide +kernel
theorem dX12_addRecord_157 : decode cX12_addRecord 157 = .ok (.lstore_n 3, 1) := by decide +kernel
theorem dX12_addRecord_158 : decode cX12_addRecord 158 = .ok (.aload_n 0, 1) := by decide +kernel
theorem dX12_addRecord_159 : decode cX12_addRecord 159 = .ok (.getfield 66, 3) := by decide +kernel
theorem dX12_addRecord_162 : decode cX12_addRecord 162 = .ok (.iconst 5, 1) := by decide +kernel
theorem dX12_addRecord_163 : decode cX12_addRecord 163 = .ok (.laload, 1) := by decide +kernel
theorem dX12_addRecord_164 : decode cX12_addRecord 164 = .ok (.lstore 5, 2) := by decide +kernel
theorem dX12_addRecord_166 : decode cX12_addRecord 166 = .ok (.aload_n 0, 1) := by decide +kernel
theorem dX12_addRecord_167 : decode cX12_addRecord 167 = .ok (.getfield 72, 3) := by decide +kernel
theorem dX12_addRecord_170 : decode cX12_addRecord 170 = .ok (.iconst 2, 1) := by decide +kernel
theorem dX12_addRecord_171 : decode cX12_addRecord 171 = .ok (.iload_n 2, 1) := by decide +kernel
theorem dX12_addRecord_172 : decode cX12_addRecord 172 = .ok (.imul, 1) := by decide +kernel
theorem dX12_addRecord_173 : decode cX12_addRecord 173 = .ok (.dup2, 1) := by decide +kernel
theorem dX12_addRecord_174 : decode cX12_addRecord 174 = .ok (.laload, 1) := by decide +kernel
theorem dX12_addRecord_175 : decode cX12_addRecord 175 = .ok (.lload_n 3, 1) := by decide +kernel
theorem dX12_addRecord_176 : decode cX12_addRecord 176 = .ok (.ladd, 1) := by decide +kernel
theorem dX12_addRecord_177 : decode cX12_addRecord 177 = .ok (.lastore, 1) := by decide +kernel
theorem dX12_addRecord_178 : decode cX12_addRecord 178 = .ok (.aload_n 0, 1) := by decide +kernel
theorem dX12_addRecord_179 : decode cX12_addRecord 179 = .ok (.getfield 72, 3) := by decide +kernel
theorem dX12_addRecord_182 : decode cX12_addRecord 182 = .ok (.iconst 2, 1) := by decide +kernel
theorem dX12_addRecord_183 : decode cX12_addRecord 183 = .ok (.iload_n 2, 1) := by decide +kernel
theorem dX12_addRecord_184 : decode cX12_addRecord 184 = .ok (.imul, 1) := by decide +kernel
theorem dX12_addRecord_185 : decode cX12_addRecord 185 = .ok (.iconst 1, 1) := by decide +kernel
theorem dX12_addRecord_186 : decode cX12_addRecord 186 = .ok (.iadd, 1) := by decide +kernel
theorem dX12_addRecord_187 : decode cX12_addRecord 187 = .ok (.dup2, 1) := by decide +kernel
theorem dX12_addRecord_188 : decode cX12_addRecord 188 = .ok (.laload, 1) := by decide +kernel
theorem dX12_addRecord_189 : decode cX12_addRecord 189 = .ok (.lload 5, 2) := by decide +kernel
theorem dX12_addRecord_191 : decode cX12_addRecord 191 = .ok (.ladd, 1) := by decide +kernel
theorem dX12_addRecord_192 : decode cX12_addRecord 192 = .ok (.lastore, 1) := by decide +kernel
theorem dX12_addRecord_193 : decode cX12_addRecord 193 = .ok (.aload_n 0, 1) := by decide +kernel
theorem dX12_addRecord_194 : decode cX12_addRecord 194 = .ok (.getfield 75, 3) := by decide +kernel
theorem dX12_addRecord_197 : decode cX12_addRecord 197 = .ok (.iconst 2, 1) := by decide +kernel
theorem dX12_addRecord_198 : decode cX12_addRecord 198 = .ok (.iload_n 2, 1) := by decide +kernel
theorem dX12_addRecord_199 : decode cX12_addRecord 199 = .ok (.imul, 1) := by decide +kernel
theorem dX12_addRecord_200 : decode cX12_addRecord 200 = .ok (.dup2, 1) := by decide +kernel
theorem dX12_addRecord_201 : decode cX12_addRecord 201 = .ok (.laload, 1) := by decide +kernel
theorem dX12_addRecord_202 : decode cX12_addRecord 202 = .ok (.iload_n 1, 1) := by decide +kernel
theorem dX12_addRecord_203 : decode cX12_addRecord 203 = .ok (.i2l, 1) := by decide +kernel
theorem dX12_addRecord_204 : decode cX12_addRecord 204 = .ok (.lload_n 3, 1) := by decide +kernel
theorem dX12_addRecord_205 : decode cX12_addRecord 205 = .ok (.lmul, 1) := by decide +kernel
theorem dX12_addRecord_206 : decode cX12_addRecord 206 = .ok (.ladd, 1) := by decide +kernel
theorem dX12_addRecord_207 : decode cX12_addRecord 207 = .ok (.lastore, 1) := by decide +kernel
theorem dX12_addRecord_208 : decode cX12_addRecord 208 = .ok (.aload_n 0, 1) := by decide +kernel
theorem dX12_addRecord_209 : decode cX12_addRecord 209 = .ok (.getfield 75, 3) := by decide +kernel
theorem dX12_addRecord_212 : decode cX12_addRecord 212 = .ok (.iconst 2, 1) := by decide +kernel
theorem dX12_addRecord_213 : decode cX12_addRecord 213 = .ok (.iload_n 2, 1) := by decide +kernel
theorem dX12_addRecord_214 : decode cX12_addRecord 214 = .ok (.imul, 1) := by decide +kernel
theorem dX12_addRecord_215 : decode cX12_addRecord 215 = .ok (.iconst 1, 1) := by decide +kernel
theorem dX12_addRecord_216 : decode cX12_addRecord 216 = .ok (.iadd, 1) := by decide +kernel
theorem dX12_addRecord_217 : decode cX12_addRecord 217 = .ok (.dup2, 1) := by decide +kernel
theorem dX12_addRecord_218 : decode cX12_addRecord 218 = .ok (.laload, 1) := by decide +kernel
theorem dX12_addRecord_219 : decode cX12_addRecord 219 = .ok (.iload_n 1, 1) := by decide +kernel
theorem dX12_addRecord_220 : decode cX12_addRecord 220 = .ok (.i2l, 1) := by decide +kernel
theorem dX12_addRecord_221 : decode cX12_addRecord 221 = .ok (.lload 5, 2) := by decide +kernel
theorem dX12_addRecord_223 : decode cX12_addRecord 223 = .ok (.lmul, 1) := by decide +kernel
theorem dX12_addRecord_224 : decode cX12_addRecord 224 = .ok (.ladd, 1) := by decide +kernel
theorem dX12_addRecord_225 : decode cX12_addRecord 225 = .ok (.lastore, 1) := by decide +kernel
theorem dX12_addRecord_226 : decode cX12_addRecord 226 = .ok (.aload_n 0, 1) := by decide +kernel
theorem dX12_addRecord_227 : decode cX12_addRecord 227 = .ok (.getfield 78, 3) := by decide +kernel
theorem dX12_addRecord_230 : decode cX12_addRecord 230 = .ok (.iconst 2, 1) := by decide +kernel
theorem dX12_addRecord_231 : decode cX12_addRecord 231 = .ok (.iload_n 2, 1) := by decide +kernel
theorem dX12_addRecord_232 : decode cX12_addRecord 232 = .ok (.imul, 1) := by decide +kernel
theorem dX12_addRecord_233 : decode cX12_addRecord 233 = .ok (.dup2, 1) := by decide +kernel
theorem dX12_addRecord_234 : decode cX12_addRecord 234 = .ok (.daload, 1) := by decide +kernel
theorem dX12_addRecord_235 : decode cX12_addRecord 235 = .ok (.iload_n 1, 1) := by decide +kernel
theorem dX12_addRecord_236 : decode cX12_addRecord 236 = .ok (.i2d, 1) := by decide +kernel
theorem dX12_addRecord_237 : decode cX12_addRecord 237 = .ok (.iload_n 1, 1) := by decide +kernel
theorem dX12_addRecord_238 : decode cX12_addRecord 238 = .ok (.iconst 1, 1) := by decide +kernel
theorem dX12_addRecord_239 : decode cX12_addRecord 239 = .ok (.isub, 1) := by decide +kernel
theorem dX12_addRecord_240 : decode cX12_addRecord 240 = .ok (.i2d, 1) := by decide +kernel
theorem dX12_addRecord_241 : decode cX12_addRecord 241 = .ok (.dmul, 1) := by decide +kernel
theorem dX12_addRecord_242 : decode cX12_addRecord 242 = .ok (.lload_n 3, 1) := by decide +kernel
theorem dX12_addRecord_243 : decode cX12_addRecord 243 = .ok (.l2d, 1) := by decide +kernel
theorem dX12_addRecord_244 : decode cX12_addRecord 244 = .ok (.dmul, 1) := by decide +kernel
theorem dX12_addRecord_245 : decode cX12_addRecord 245 = .ok (.dadd, 1) := by decide +kernel
theorem dX12_addRecord_246 : decode cX12_addRecord 246 = .ok (.dastore, 1) := by decide +kernel
theorem dX12_addRecord_247 : decode cX12_addRecord 247 = .ok (.lload_n 3, 1) := by decide +kernel
theorem dX12_addRecord_248 : decode cX12_addRecord 248 = .ok (.lconst 0, 1) := by decide +kernel
theorem dX12_addRecord_249 : decode cX12_addRecord 249 = .ok (.lcmp, 1) := by decide +kernel
theorem dX12_addRecord_250 : decode cX12_addRecord 250 = .ok (.ifCond .eq 34, 3) := by decide +kernel
theorem dX12_addRecord_253 : decode cX12_addRecord 253 = .ok (.aload_n 0, 1) := by decide +kernel
theorem dX12_addRecord_254 : decode cX12_addRecord 254 = .ok (.getfield 78, 3) := by decide +kernel
theorem dX12_addRecord_257 : decode cX12_addRecord 257 = .ok (.iconst 2, 1) := by decide +kernel
theorem dX12_addRecord_258 : decode cX12_addRecord 258 = .ok (.iload_n 2, 1) := by decide +kernel
theorem dX12_addRecord_259 : decode cX12_addRecord 259 = .ok (.imul, 1) := by decide +kernel
theorem dX12_addRecord_260 : decode cX12_addRecord 260 = .ok (.iconst 1, 1) := by decide +kernel
theorem dX12_addRecord_261 : decode cX12_addRecord 261 = .ok (.iadd, 1) := by decide +kernel
theorem dX12_addRecord_262 : decode cX12_addRecord 262 = .ok (.dup2, 1) := by decide +kernel
theorem dX12_addRecord_263 : decode cX12_addRecord 263 = .ok (.daload, 1) := by decide +kernel
theorem dX12_addRecord_264 : decode cX12_addRecord 264 = .ok (.iload_n 1, 1) := by decide +kernel
theorem dX12_addRecord_265 : decode cX12_addRecord 265 = .ok (.i2d, 1) := by decide +kernel
theorem dX12_addRecord_266 : decode cX12_addRecord 266 = .ok (.iload_n 1, 1) := by decide +kernel
theorem dX12_addRecord_267 : decode cX12_addRecord 267 = .ok (.iconst 1, 1) := by decide +kernel
theorem dX12_addRecord_268 : decode cX12_addRecord 268 = .ok (.isub, 1) := by decide +kernel
theorem dX12_addRecord_269 : decode cX12_addRecord 269 = .ok (.i2d, 1) := by decide +kernel
theorem dX12_addRecord_270 : decode cX12_addRecord 270 = .ok (.dmul, 1) := by decide +kernel
theorem dX12_addRecord_271 : decode cX12_addRecord 271 = .ok (.lload 5, 2) := by decide +kernel
theorem dX12_addRecord_273 : decode cX12_addRecord 273 = .ok (.l2d, 1) := by decide +kernel
theorem dX12_addRecord_274 : decode cX12_addRecord 274 = .ok (.dmul, 1) := by decide +kernel
theorem dX12_addRecord_275 : decode cX12_addRecord 275 = .ok (.lload 5, 2) := by decide +kernel
theorem dX12_addRecord_277 : decode cX12_addRecord 277 = .ok (.l2d, 1) := by decide +kernel
theorem dX12_addRecord_278 : decode cX12_addRecord 278 = .ok (.dmul, 1) := by decide +kernel
theorem dX12_addRecord_279 : decode cX12_addRecord 279 = .ok (.lload_n 3, 1) := by decide +kernel
theorem dX12_addRecord_280 : decode cX12_addRecord 280 = .ok (.l2d, 1) := by decide +kernel
theorem dX12_addRecord_281 : decode cX12_addRecord 281 = .ok (.ddiv, 1) := by decide +kernel
theorem dX12_addRecord_282 : decode cX12_addRecord 282 = .ok (.dadd, 1) := by decide +kernel
theorem dX12_addRecord_283 : decode cX12_addRecord 283 = .ok (.dastore, 1) := by decide +kernel
theorem dX12_addRecord_284 : decode cX12_addRecord 284 = .ok (.return_, 1) := by decide +kernel
set_option maxHeartbeats 4000000 in
set_option maxRecDepth 100000 in
theorem r_addRecord (G : EnvG) (l : Launch) (Φ : Hm) (sz x : Nat) (rd : (Nat → Int32) → Prop) (nw : (Nat → Int32) → Prop) (cr : (Nat → Int64) → Prop) (tp : (Nat → Int32) → Prop) (tt : (Nat → Int64) → Prop) (sI : (Nat → Int32) → Prop) (sT : (Nat → Int32) → Prop) (pt : (Nat → Int32) → Prop) (ql : (Nat → Int32) → Prop) (fl : Nat) (pe : Nat) (le : Nat) (nx : Nat) (il : Nat) (qu : Nat) (kn : Int32) (ec : Int32) (nu : Int32) (va : Int64) (st : Nat) (ep : Int32) (ti : Int32) (ad : Int32) (ob : Int64) (ra : Int32) (rt : Nat) (ex : Int32) (sa : Int64) (us : Int64) (tk : Nat) (th : Int32) (me : Int32) (dr : Int32) (se : Int64) (sn : Int64) (n : Nat) (hx : G.2.2.2 ≤ x) (hI : Im G x (rd, nw, cr, tp, tt, sI, sT, pt, ql, fl, pe, le, nx, il, qu, kn, ec, nu, va, st, ep, ti, ad, ob, ra, rt, ex, sa, us, tk, th, me, dr, se, sn) Φ) (hn : n < 2 ^ 31) (hnw : ∀ f9 : Nat → Int32, nw f9 → NN f9) : Ct G l yX12_addRecord wsX12_addRecord ({ frames := 2, cells := 0, slots := 0, locals := 58 }) 0 0 [.ref x, .int (nI n)] Φ sz (fun v Φ1 sz1 => (v = none) ∧ sz1 = sz ∧ (Im G x (rd, nw, cr, tp, tt, sI, sT, pt, ql, fl, pe, le, nx, il, qu, kn, ec, nu, va, st, ep, ti, ad, ob, ra, rt, ex, sa, us, tk, th, me, dr, se, sn) Φ1) ∧ Fr x (fun j9 => j9 = 0 ∨ j9 = 11 ∨ j9 = 19 ∨ j9 = 20 ∨ j9 = 21 ∨ j9 = 22) Φ Φ1) := by
  refine Ct.of (cc := cX12_addRecord) (maxL := 7) (ret := none) (by decide) rfl (Nat.le_of_ble_eq_true rfl) ?_
  intro p9 e9 s9 m9 w9 t9 k9 B
  show Z p9 l e9 _ s9 m9 _ w9 t9 k9 _ G 7 0 [(0, .ref x), (1, .int (nI n))] [] Φ sz 0 0
  refine z_join (α := Nat) (fun (a9 : Nat) Φi => Im G x (rd, nw, cr, tp, tt, sI, sT, pt, ql, fl, pe, le, nx, il, qu, kn, ec, nu, va, st, ep, ti, ad, ob, ra, rt, ex, sa, us, tk, th, me, dr, se, sn) Φi ∧ Fr x (fun j9 => j9 = 0 ∨ j9 = 11 ∨ j9 = 19 ∨ j9 = 20 ∨ j9 = 21 ∨ j9 = 22) Φ Φi ∧ (a9 < 24) ∧ True) (fun a9 => [(0, .ref x), (1, .int (nI n)), (2, .int (nI a9))]) 151 ?_ (fun J151 => ?_)
  · rintro j_1 Φj1 ⟨hI1, hF1, b_1, -⟩
    replace hI1 : Im G x (rd, nw, cr, tp, tt, sI, sT, pt, ql, fl, pe, le, nx, il, qu, kn, ec, nu, va, st, ep, ti, ad, ob, ra, rt, ex, sa, us, tk, th, me, dr, se, sn) Φj1 := hI1
    replace b_1 : j_1 < 24 := b_1
    show Z p9 l e9 _ s9 m9 _ w9 t9 k9 _ G 7 151 [(0, .ref x), (1, .int (nI n)), (2, .int (nI j_1))] [] Φj1 _ _ _
    refine z_aload_n B dX12_addRecord_151 rfl 0 rfl ?_
    obtain ⟨n_1, v_1, n_2, h_1, b_14, b_2, b_3, b_4, b_5, b_6, b_7, b_8, b_9, b_10, b_11, b_12, b_13⟩ := im0 hI1
    replace b_2 : 1 ≤ rt := b_2
    replace b_3 : rt ≤ 1024 := b_3
    replace b_4 : fl ≤ 12 := b_4
    replace b_5 : pe ≤ 24 := b_5
    replace b_6 : le ≤ 700 := b_6
    replace b_7 : qu ≤ 12 := b_7
    replace b_8 : n_1 ≤ 8 := b_8
    replace b_9 : n_2 ≤ 24 := b_9
    replace b_10 : tk ≤ 24 := b_10
    replace b_11 : il ≤ 700 := b_11
    replace b_12 : nx ≤ 701 := b_12
    replace b_13 : st ≤ 701 := b_13
    have h_2 : Φj1 x = some (o_ 14 [.int th, .ref (x + 1), .ref (x + 2), .int ti, .int ra, .int (nI rt), .int ex, .int ad, .ref (x + 3), .ref (x + 4), .int me, .long se, .ref (x + 5), .int (nI fl), .int dr, .long ob, .long sa, .long sn, .long us, .ref (x + 6), .ref (x + 7), .int (nI pe), .ref (x + 8), .int (nI le), .ref (x + 9), .ref (x + 10), .int (nI qu), .ref (x + 11), .ref (x + 12), .ref (x + 13), .ref (x + 14), .ref (x + 15), .ref (x + 16), .int (nI n_1), .long v_1, .ref (x + 17), .ref (x + 18), .ref (x + 19), .ref (x + 20), .ref (x + 21), .ref (x + 22), .int (nI n_2), .ref (x + 23), .ref (x + 24), .int (nI tk), .ref (x + 25), .int (nI il), .int (nI nx), .int ec, .int ep, .int kn, .int (nI st), .int nu, .long va]) := h_1
    refine z_get (ref := "FlowExporterModel") (C := RX12) (T := TX12) (N := 54) (ci := 14) (v := .ref (x + 18)) B hu_X12_addRecord_X12 rfl 36 (Nat.le_of_ble_eq_true rfl) hv_X12_addRecord_66 rfl h_2 rfl dX12_addRecord_152 ?_
    refine z_iconst (v := 4) B dX12_addRecord_155 rfl ?_
    obtain ⟨f_1, h_3, r_1⟩ := imk (k := 18) hI1
    have h_4 : Φj1 (x + 18) = some (al_ G 9 f_1) := h_3
    refine z_lald B h_4 (vin rfl) dX12_addRecord_156 ?_
    refine z_flq (P := fun w9 => 0 ≤ w9) r_1 (fun v_2 q_1 => ?_)
    replace q_1 : 0 ≤ v_2 := q_1
    refine z_lstore_n (lv' := [(3, .long v_2), (0, .ref x), (1, .int (nI n)), (2, .int (nI j_1))]) B dX12_addRecord_157 rfl (Nat.le_of_ble_eq_true rfl) rfl ?_
    refine z_aload_n B dX12_addRecord_158 rfl 1 rfl ?_
    refine z_get (ref := "FlowExporterModel") (C := RX12) (T := TX12) (N := 54) (ci := 14) (v := .ref (x + 18)) B hu_X12_addRecord_X12 rfl 36 (Nat.le_of_ble_eq_true rfl) hv_X12_addRecord_66 rfl h_2 rfl dX12_addRecord_159 ?_
    refine z_iconst (v := 5) B dX12_addRecord_162 rfl ?_
    refine z_lald B h_4 (vin rfl) dX12_addRecord_163 ?_
    refine z_fl (fun v_3 => ?_)
    refine z_lstore (lv' := [(5, .long v_3), (3, .long v_2), (0, .ref x), (1, .int (nI n)), (2, .int (nI j_1))]) B dX12_addRecord_164 (Nat.le_of_ble_eq_true rfl) rfl ?_
    refine z_aload_n B dX12_addRecord_166 rfl 2 rfl ?_
    refine z_get (ref := "FlowExporterModel") (C := RX12) (T := TX12) (N := 54) (ci := 14) (v := .ref (x + 20)) B hu_X12_addRecord_X12 rfl 38 (Nat.le_of_ble_eq_true rfl) hv_X12_addRecord_72 rfl h_2 rfl dX12_addRecord_167 ?_
    refine z_iconst (v := 2) B dX12_addRecord_170 rfl ?_
    refine z_iload_n B dX12_addRecord_171 rfl 4 rfl ?_
    refine z_imul B dX12_addRecord_172 ?_
    refine z_top (st1 := [.int (nI (2 * j_1)), .ref (x + 20)]) (congrArg (fun w9 : Int32 => ([.int w9, .ref (x + 20)] : List Value)) (nI_mul 2 j_1)) ?_
    refine z_dup2_11 B dX12_addRecord_173 rfl rfl ?_
    obtain ⟨f_2, h_5⟩ := imk (k := 20) hI1
    have h_6 : Φj1 (x + 20) = some (al_ G 48 f_2) := h_5
    refine z_lald B h_6 (vp_in_nI (by omega) (by omega)) dX12_addRecord_174 ?_
    refine z_fl (fun v_4 => ?_)
    refine z_lload_n B dX12_addRecord_175 rfl 1 rfl ?_
    refine z_ladd B dX12_addRecord_176 ?_
    refine z_fl (fun v_5 => ?_)
    refine z_last B h_6 (Nat.le_trans hx (Nat.le_add_right x 20)) (vp_in_nI (by omega) (by omega)) dX12_addRecord_177 (fun Φ1 hΦ1 => ?_)
    have h_7 : Φ1 (x + 20) = some (al_ G 48 (vp_updL f_2 (nI (2 * j_1)).toNatClampNeg v_5)) := fset_at hΦ1
    have hI2 : Im G x (rd, nw, cr, tp, tt, sI, sT, pt, ql, fl, pe, le, nx, il, qu, kn, ec, nu, va, st, ep, ti, ad, ob, ra, rt, ex, sa, us, tk, th, me, dr, se, sn) Φ1 := Im.put (k := 20) hI1 hΦ1 ⟨_, rfl⟩
    refine z_aload_n B dX12_addRecord_178 rfl 2 rfl ?_
    have h_8 : Φ1 x = some (o_ 14 [.int th, .ref (x + 1), .ref (x + 2), .int ti, .int ra, .int (nI rt), .int ex, .int ad, .ref (x + 3), .ref (x + 4), .int me, .long se, .ref (x + 5), .int (nI fl), .int dr, .long ob, .long sa, .long sn, .long us, .ref (x + 6), .ref (x + 7), .int (nI pe), .ref (x + 8), .int (nI le), .ref (x + 9), .ref (x + 10), .int (nI qu), .ref (x + 11), .ref (x + 12), .ref (x + 13), .ref (x + 14), .ref (x + 15), .ref (x + 16), .int (nI n_1), .long v_1, .ref (x + 17), .ref (x + 18), .ref (x + 19), .ref (x + 20), .ref (x + 21), .ref (x + 22), .int (nI n_2), .ref (x + 23), .ref (x + 24), .int (nI tk), .ref (x + 25), .int (nI il), .int (nI nx), .int ec, .int ep, .int kn, .int (nI st), .int nu, .long va]) := ((fset_fr hΦ1 (ne_off (x := x) (i := 0) (j := 20) rfl)).trans h_2)
    refine z_get (ref := "FlowExporterModel") (C := RX12) (T := TX12) (N := 54) (ci := 14) (v := .ref (x + 20)) B hu_X12_addRecord_X12 rfl 38 (Nat.le_of_ble_eq_true rfl) hv_X12_addRecord_72 rfl h_8 rfl dX12_addRecord_179 ?_
    refine z_iconst (v := 2) B dX12_addRecord_182 rfl ?_
    refine z_iload_n B dX12_addRecord_183 rfl 4 rfl ?_
    refine z_imul B dX12_addRecord_184 ?_
    refine z_top (st1 := [.int (nI (2 * j_1)), .ref (x + 20)]) (congrArg (fun w9 : Int32 => ([.int w9, .ref (x + 20)] : List Value)) (nI_mul 2 j_1)) ?_
    refine z_iconst (v := 1) B dX12_addRecord_185 rfl ?_
    refine z_iadd B dX12_addRecord_186 ?_
    refine z_top (st1 := [.int (nI (2 * j_1 + 1)), .ref (x + 20)]) (congrArg (fun w9 : Int32 => ([.int w9, .ref (x + 20)] : List Value)) (nI_add (2 * j_1) 1)) ?_
    refine z_dup2_11 B dX12_addRecord_187 rfl rfl ?_
    obtain ⟨f_3, h_9⟩ := imk (k := 20) hI2
    have h_10 : Φ1 (x + 20) = some (al_ G 48 f_3) := h_9
    refine z_lald B h_10 (vp_in_nI (by omega) (by omega)) dX12_addRecord_188 ?_
    refine z_fl (fun v_6 => ?_)
    refine z_lload B dX12_addRecord_189 0 rfl ?_
    refine z_ladd B dX12_addRecord_191 ?_
    refine z_fl (fun v_7 => ?_)
    refine z_last B h_10 (Nat.le_trans hx (Nat.le_add_right x 20)) (vp_in_nI (by omega) (by omega)) dX12_addRecord_192 (fun Φ2 hΦ2 => ?_)
    have h_11 : Φ2 (x + 20) = some (al_ G 48 (vp_updL f_3 (nI (2 * j_1 + 1)).toNatClampNeg v_7)) := fset_at hΦ2
    have hI3 : Im G x (rd, nw, cr, tp, tt, sI, sT, pt, ql, fl, pe, le, nx, il, qu, kn, ec, nu, va, st, ep, ti, ad, ob, ra, rt, ex, sa, us, tk, th, me, dr, se, sn) Φ2 := Im.put (k := 20) hI2 hΦ2 ⟨_, rfl⟩
    refine z_aload_n B dX12_addRecord_193 rfl 2 rfl ?_
    have h_12 : Φ2 x = some (o_ 14 [.int th, .ref (x + 1), .ref (x + 2), .int ti, .int ra, .int (nI rt), .int ex, .int ad, .ref (x + 3), .ref (x + 4), .int me, .long se, .ref (x + 5), .int (nI fl), .int dr, .long ob, .long sa, .long sn, .long us, .ref (x + 6), .ref (x + 7), .int (nI pe), .ref (x + 8), .int (nI le), .ref (x + 9), .ref (x + 10), .int (nI qu), .ref (x + 11), .ref (x + 12), .ref (x + 13), .ref (x + 14), .ref (x + 15), .ref (x + 16), .int (nI n_1), .long v_1, .ref (x + 17), .ref (x + 18), .ref (x + 19), .ref (x + 20), .ref (x + 21), .ref (x + 22), .int (nI n_2), .ref (x + 23), .ref (x + 24), .int (nI tk), .ref (x + 25), .int (nI il), .int (nI nx), .int ec, .int ep, .int kn, .int (nI st), .int nu, .long va]) := ((fset_fr hΦ2 (ne_off (x := x) (i := 0) (j := 20) rfl)).trans h_8)
    refine z_get (ref := "FlowExporterModel") (C := RX12) (T := TX12) (N := 54) (ci := 14) (v := .ref (x + 21)) B hu_X12_addRecord_X12 rfl 39 (Nat.le_of_ble_eq_true rfl) hv_X12_addRecord_75 rfl h_12 rfl dX12_addRecord_194 ?_
    refine z_iconst (v := 2) B dX12_addRecord_197 rfl ?_
    refine z_iload_n B dX12_addRecord_198 rfl 4 rfl ?_
    refine z_imul B dX12_addRecord_199 ?_
    refine z_top (st1 := [.int (nI (2 * j_1)), .ref (x + 21)]) (congrArg (fun w9 : Int32 => ([.int w9, .ref (x + 21)] : List Value)) (nI_mul 2 j_1)) ?_
    refine z_dup2_11 B dX12_addRecord_200 rfl rfl ?_
    obtain ⟨f_4, h_13⟩ := imk (k := 21) hI3
    have h_14 : Φ2 (x + 21) = some (al_ G 48 f_4) := h_13
    refine z_lald B h_14 (vp_in_nI (by omega) (by omega)) dX12_addRecord_201 ?_
    refine z_fl (fun v_8 => ?_)
    refine z_iload_n B dX12_addRecord_202 rfl 3 rfl ?_
    refine z_i2l (v := (nI n).toInt64) B dX12_addRecord_203 rfl ?_
    refine z_lload_n B dX12_addRecord_204 rfl 1 rfl ?_
    refine z_lmul B dX12_addRecord_205 ?_
    refine z_fl (fun v_9 => ?_)
    refine z_ladd B dX12_addRecord_206 ?_
    refine z_fl (fun v_10 => ?_)
    refine z_last B h_14 (Nat.le_trans hx (Nat.le_add_right x 21)) (vp_in_nI (by omega) (by omega)) dX12_addRecord_207 (fun Φ3 hΦ3 => ?_)
    have h_15 : Φ3 (x + 21) = some (al_ G 48 (vp_updL f_4 (nI (2 * j_1)).toNatClampNeg v_10)) := fset_at hΦ3
    have hI4 : Im G x (rd, nw, cr, tp, tt, sI, sT, pt, ql, fl, pe, le, nx, il, qu, kn, ec, nu, va, st, ep, ti, ad, ob, ra, rt, ex, sa, us, tk, th, me, dr, se, sn) Φ3 := Im.put (k := 21) hI3 hΦ3 ⟨_, rfl⟩
    refine z_aload_n B dX12_addRecord_208 rfl 2 rfl ?_
    have h_16 : Φ3 x = some (o_ 14 [.int th, .ref (x + 1), .ref (x + 2), .int ti, .int ra, .int (nI rt), .int ex, .int ad, .ref (x + 3), .ref (x + 4), .int me, .long se, .ref (x + 5), .int (nI fl), .int dr, .long ob, .long sa, .long sn, .long us, .ref (x + 6), .ref (x + 7), .int (nI pe), .ref (x + 8), .int (nI le), .ref (x + 9), .ref (x + 10), .int (nI qu), .ref (x + 11), .ref (x + 12), .ref (x + 13), .ref (x + 14), .ref (x + 15), .ref (x + 16), .int (nI n_1), .long v_1, .ref (x + 17), .ref (x + 18), .ref (x + 19), .ref (x + 20), .ref (x + 21), .ref (x + 22), .int (nI n_2), .ref (x + 23), .ref (x + 24), .int (nI tk), .ref (x + 25), .int (nI il), .int (nI nx), .int ec, .int ep, .int kn, .int (nI st), .int nu, .long va]) := ((fset_fr hΦ3 (ne_off (x := x) (i := 0) (j := 21) rfl)).trans h_12)
    refine z_get (ref := "FlowExporterModel") (C := RX12) (T := TX12) (N := 54) (ci := 14) (v := .ref (x + 21)) B hu_X12_addRecord_X12 rfl 39 (Nat.le_of_ble_eq_true rfl) hv_X12_addRecord_75 rfl h_16 rfl dX12_addRecord_209 ?_
    refine z_iconst (v := 2) B dX12_addRecord_212 rfl ?_
    refine z_iload_n B dX12_addRecord_213 rfl 4 rfl ?_
    refine z_imul B dX12_addRecord_214 ?_
    refine z_top (st1 := [.int (nI (2 * j_1)), .ref (x + 21)]) (congrArg (fun w9 : Int32 => ([.int w9, .ref (x + 21)] : List Value)) (nI_mul 2 j_1)) ?_
    refine z_iconst (v := 1) B dX12_addRecord_215 rfl ?_
    refine z_iadd B dX12_addRecord_216 ?_
    refine z_top (st1 := [.int (nI (2 * j_1 + 1)), .ref (x + 21)]) (congrArg (fun w9 : Int32 => ([.int w9, .ref (x + 21)] : List Value)) (nI_add (2 * j_1) 1)) ?_
    refine z_dup2_11 B dX12_addRecord_217 rfl rfl ?_
    obtain ⟨f_5, h_17⟩ := imk (k := 21) hI4
    have h_18 : Φ3 (x + 21) = some (al_ G 48 f_5) := h_17
    refine z_lald B h_18 (vp_in_nI (by omega) (by omega)) dX12_addRecord_218 ?_
    refine z_fl (fun v_11 => ?_)
    refine z_iload_n B dX12_addRecord_219 rfl 3 rfl ?_
    refine z_i2l (v := (nI n).toInt64) B dX12_addRecord_220 rfl ?_
    refine z_lload B dX12_addRecord_221 0 rfl ?_
    refine z_lmul B dX12_addRecord_223 ?_
    refine z_fl (fun v_12 => ?_)
    refine z_ladd B dX12_addRecord_224 ?_
    refine z_fl (fun v_13 => ?_)
    refine z_last B h_18 (Nat.le_trans hx (Nat.le_add_right x 21)) (vp_in_nI (by omega) (by omega)) dX12_addRecord_225 (fun Φ4 hΦ4 => ?_)
    have h_19 : Φ4 (x + 21) = some (al_ G 48 (vp_updL f_5 (nI (2 * j_1 + 1)).toNatClampNeg v_13)) := fset_at hΦ4
    have hI5 : Im G x (rd, nw, cr, tp, tt, sI, sT, pt, ql, fl, pe, le, nx, il, qu, kn, ec, nu, va, st, ep, ti, ad, ob, ra, rt, ex, sa, us, tk, th, me, dr, se, sn) Φ4 := Im.put (k := 21) hI4 hΦ4 ⟨_, rfl⟩
    refine z_aload_n B dX12_addRecord_226 rfl 2 rfl ?_
    have h_20 : Φ4 x = some (o_ 14 [.int th, .ref (x + 1), .ref (x + 2), .int ti, .int ra, .int (nI rt), .int ex, .int ad, .ref (x + 3), .ref (x + 4), .int me, .long se, .ref (x + 5), .int (nI fl), .int dr, .long ob, .long sa, .long sn, .long us, .ref (x + 6), .ref (x + 7), .int (nI pe), .ref (x + 8), .int (nI le), .ref (x + 9), .ref (x + 10), .int (nI qu), .ref (x + 11), .ref (x + 12), .ref (x + 13), .ref (x + 14), .ref (x + 15), .ref (x + 16), .int (nI n_1), .long v_1, .ref (x + 17), .ref (x + 18), .ref (x + 19), .ref (x + 20), .ref (x + 21), .ref (x + 22), .int (nI n_2), .ref (x + 23), .ref (x + 24), .int (nI tk), .ref (x + 25), .int (nI il), .int (nI nx), .int ec, .int ep, .int kn, .int (nI st), .int nu, .long va]) := ((fset_fr hΦ4 (ne_off (x := x) (i := 0) (j := 21) rfl)).trans h_16)
    refine z_get (ref := "FlowExporterModel") (C := RX12) (T := TX12) (N := 54) (ci := 14) (v := .ref (x + 22)) B hu_X12_addRecord_X12 rfl 40 (Nat.le_of_ble_eq_true rfl) hv_X12_addRecord_78 rfl h_20 rfl dX12_addRecord_227 ?_
    refine z_iconst (v := 2) B dX12_addRecord_230 rfl ?_
    refine z_iload_n B dX12_addRecord_231 rfl 4 rfl ?_
    refine z_imul B dX12_addRecord_232 ?_
    refine z_top (st1 := [.int (nI (2 * j_1)), .ref (x + 22)]) (congrArg (fun w9 : Int32 => ([.int w9, .ref (x + 22)] : List Value)) (nI_mul 2 j_1)) ?_
    refine z_dup2_11 B dX12_addRecord_233 rfl rfl ?_
    obtain ⟨f_6, h_21, r_6⟩ := imk (k := 22) hI5
    have h_22 : Φ4 (x + 22) = some (ad_ G 48 f_6) := h_21
    refine z_dald B h_22 (vp_in_nI (by omega) (by omega)) dX12_addRecord_234 ?_
    refine z_fdq (P := fun u9 : UInt64 => pd64 u9) (r_6 _) (fun v_15 q_3 => ?_)
    replace q_3 : pd64 v_15 := q_3
    refine z_iload_n B dX12_addRecord_235 rfl 3 rfl ?_
    refine z_i2d B dX12_addRecord_236 ?_
    refine z_iload_n B dX12_addRecord_237 rfl 3 rfl ?_
    refine z_iconst (v := 1) B dX12_addRecord_238 rfl ?_
    refine z_isub B dX12_addRecord_239 ?_
    refine z_i2d B dX12_addRecord_240 ?_
    have q_5 : sm64 78 (FP.dmul (FP.i2d (nI n)) (FP.i2d (nI n - 1))) := (mul_sm (i2d_sm _) (i2d_sm _) (by decide) (by decide))
    have q_6 : pd64 (FP.dmul (FP.i2d (nI n)) (FP.i2d (nI n - 1))) := (fac_pd (by omega))
    refine z_dmul B dX12_addRecord_241 (vf_of (sm_nn q_5)) ?_
    refine z_fdq (P := fun u9 : UInt64 => sm64 78 u9 ∧ pd64 u9) ⟨q_5, q_6⟩ (fun v_16 q_9 => ?_)
    obtain ⟨q_7, q_8⟩ := q_9
    replace q_7 : sm64 78 v_16 := q_7
    replace q_8 : pd64 v_16 := q_8
    refine z_lload_n B dX12_addRecord_242 rfl 1 rfl ?_
    refine z_l2d B dX12_addRecord_243 ?_
    refine z_fdq (P := fun u9 : UInt64 => sm64 12 u9 ∧ pd64 u9) ⟨(l2d_sm v_2), (l2d_pd q_1)⟩ (fun v_17 q_12 => ?_)
    obtain ⟨q_10, q_11⟩ := q_12
    replace q_10 : sm64 12 v_17 := q_10
    replace q_11 : pd64 v_17 := q_11
    have q_14 : sm64 144 (FP.dmul v_16 v_17) := (mul_sm q_7 q_10 (by decide) (by decide))
    have q_15 : pd64 (FP.dmul v_16 v_17) := (mul_pd q_7 q_10 q_8 q_11)
    refine z_dmul B dX12_addRecord_244 (vf_of (sm_nn q_14)) ?_
    refine z_fdq (P := fun u9 : UInt64 => sm64 144 u9 ∧ pd64 u9) ⟨q_14, q_15⟩ (fun v_18 q_18 => ?_)
    obtain ⟨q_16, q_17⟩ := q_18
    replace q_16 : sm64 144 v_18 := q_16
    replace q_17 : pd64 v_18 := q_17
    have q_20 : pd64 (FP.dadd v_15 v_18) := (pd_add q_3 q_17)
    refine z_dadd B dX12_addRecord_245 (vf_of (pd_nn q_20)) ?_
    refine z_fdq (P := fun u9 : UInt64 => pd64 u9) q_20 (fun v_19 q_22 => ?_)
    replace q_22 : pd64 v_19 := q_22
    refine z_dast B h_22 (Nat.le_trans hx (Nat.le_add_right x 22)) (vp_in_nI (by omega) (by omega)) dX12_addRecord_246 (fun Φ5 hΦ5 => ?_)
    have h_23 : Φ5 (x + 22) = some (ad_ G 48 (vf_upd f_6 (nI (2 * j_1)).toNatClampNeg v_19)) := fset_at hΦ5
    have hI6 : Im G x (rd, nw, cr, tp, tt, sI, sT, pt, ql, fl, pe, le, nx, il, qu, kn, ec, nu, va, st, ep, ti, ad, ob, ra, rt, ex, sa, us, tk, th, me, dr, se, sn) Φ5 := Im.put (k := 22) hI5 hΦ5 ⟨_, rfl, pd_upd r_6 q_22⟩
    refine z_lload_n B dX12_addRecord_247 rfl 1 rfl ?_
    refine z_lconst (v := 0) B dX12_addRecord_248 rfl ?_
    refine z_lcmp B dX12_addRecord_249 ?_
    refine z_if_eq (tgt := 284) B dX12_addRecord_250 rfl (fun c_1 => ?_) (fun c_1 => ?_)
    · exact z_ret_v B dX12_addRecord_284 ⟨rfl, rfl, hI6, (fun b9 h9 => ((fset_fr hΦ5 (fun h8 => h9 (22) h8 (show 22 = 0 ∨ 22 = 11 ∨ 22 = 19 ∨ 22 = 20 ∨ 22 = 21 ∨ 22 = 22 by decide))).trans ((fset_fr hΦ4 (fun h8 => h9 (21) h8 (show 21 = 0 ∨ 21 = 11 ∨ 21 = 19 ∨ 21 = 20 ∨ 21 = 21 ∨ 21 = 22 by decide))).trans ((fset_fr hΦ3 (fun h8 => h9 (21) h8 (show 21 = 0 ∨ 21 = 11 ∨ 21 = 19 ∨ 21 = 20 ∨ 21 = 21 ∨ 21 = 22 by decide))).trans ((fset_fr hΦ2 (fun h8 => h9 (20) h8 (show 20 = 0 ∨ 20 = 11 ∨ 20 = 19 ∨ 20 = 20 ∨ 20 = 21 ∨ 20 = 22 by decide))).trans ((fset_fr hΦ1 (fun h8 => h9 (20) h8 (show 20 = 0 ∨ 20 = 11 ∨ 20 = 19 ∨ 20 = 20 ∨ 20 = 21 ∨ 20 = 22 by decide))).trans ((hF1 b9 h9).trans rfl)))))))⟩
    · refine z_aload_n B dX12_addRecord_253 rfl 2 rfl ?_
      have h_24 : Φ5 x = some (o_ 14 [.int th, .ref (x + 1), .ref (x + 2), .int ti, .int ra, .int (nI rt), .int ex, .int ad, .ref (x + 3), .ref (x + 4), .int me, .long se, .ref (x + 5), .int (nI fl), .int dr, .long ob, .long sa, .long sn, .long us, .ref (x + 6), .ref (x + 7), .int (nI pe), .ref (x + 8), .int (nI le), .ref (x + 9), .ref (x + 10), .int (nI qu), .ref (x + 11), .ref (x + 12), .ref (x + 13), .ref (x + 14), .ref (x + 15), .ref (x + 16), .int (nI n_1), .long v_1, .ref (x + 17), .ref (x + 18), .ref (x + 19), .ref (x + 20), .ref (x + 21), .ref (x + 22), .int (nI n_2), .ref (x + 23), .ref (x + 24), .int (nI tk), .ref (x + 25), .int (nI il), .int (nI nx), .int ec, .int ep, .int kn, .int (nI st), .int nu, .long va]) := ((fset_fr hΦ5 (ne_off (x := x) (i := 0) (j := 22) rfl)).trans h_20)
      refine z_get (ref := "FlowExporterModel") (C := RX12) (T := TX12) (N := 54) (ci := 14) (v := .ref (x + 22)) B hu_X12_addRecord_X12 rfl 40 (Nat.le_of_ble_eq_true rfl) hv_X12_addRecord_78 rfl h_24 rfl dX12_addRecord_254 ?_
      refine z_iconst (v := 2) B dX12_addRecord_257 rfl ?_
      refine z_iload_n B dX12_addRecord_258 rfl 4 rfl ?_
      refine z_imul B dX12_addRecord_259 ?_
      refine z_top (st1 := [.int (nI (2 * j_1)), .ref (x + 22)]) (congrArg (fun w9 : Int32 => ([.int w9, .ref (x + 22)] : List Value)) (nI_mul 2 j_1)) ?_
      refine z_iconst (v := 1) B dX12_addRecord_260 rfl ?_
      refine z_iadd B dX12_addRecord_261 ?_
      refine z_top (st1 := [.int (nI (2 * j_1 + 1)), .ref (x + 22)]) (congrArg (fun w9 : Int32 => ([.int w9, .ref (x + 22)] : List Value)) (nI_add (2 * j_1) 1)) ?_
      refine z_dup2_11 B dX12_addRecord_262 rfl rfl ?_
      obtain ⟨f_7, h_25, r_7⟩ := imk (k := 22) hI6
      have h_26 : Φ5 (x + 22) = some (ad_ G 48 f_7) := h_25
      refine z_dald B h_26 (vp_in_nI (by omega) (by omega)) dX12_addRecord_263 ?_
      refine z_fdq (P := fun u9 : UInt64 => pd64 u9) (r_7 _) (fun v_21 q_24 => ?_)
      replace q_24 : pd64 v_21 := q_24
      refine z_iload_n B dX12_addRecord_264 rfl 3 rfl ?_
      refine z_i2d B dX12_addRecord_265 ?_
      refine z_iload_n B dX12_addRecord_266 rfl 3 rfl ?_
      refine z_iconst (v := 1) B dX12_addRecord_267 rfl ?_
      refine z_isub B dX12_addRecord_268 ?_
      refine z_i2d B dX12_addRecord_269 ?_
      have q_26 : sm64 78 (FP.dmul (FP.i2d (nI n)) (FP.i2d (nI n - 1))) := (mul_sm (i2d_sm _) (i2d_sm _) (by decide) (by decide))
      have q_27 : pd64 (FP.dmul (FP.i2d (nI n)) (FP.i2d (nI n - 1))) := (fac_pd (by omega))
      refine z_dmul B dX12_addRecord_270 (vf_of (sm_nn q_26)) ?_
      refine z_fdq (P := fun u9 : UInt64 => sm64 78 u9 ∧ pd64 u9) ⟨q_26, q_27⟩ (fun v_22 q_30 => ?_)
      obtain ⟨q_28, q_29⟩ := q_30
      replace q_28 : sm64 78 v_22 := q_28
      replace q_29 : pd64 v_22 := q_29
      refine z_lload B dX12_addRecord_271 0 rfl ?_
      refine z_l2d B dX12_addRecord_273 ?_
      refine z_dmul B dX12_addRecord_274 (vf_of (sm_nn (mul_sm q_28 (l2d_sm _) (by decide) (by decide)))) ?_
      refine z_lload B dX12_addRecord_275 0 rfl ?_
      refine z_l2d B dX12_addRecord_277 ?_
      have q_32 : sm64 210 (FP.dmul (FP.dmul v_22 (FP.l2d v_3)) (FP.l2d v_3)) := (mul_sm (mul_sm q_28 (l2d_sm _) (by decide) (by decide)) (l2d_sm _) (by decide) (by decide))
      have q_33 : pd64 (FP.dmul (FP.dmul v_22 (FP.l2d v_3)) (FP.l2d v_3)) := (sq_pd q_28 q_29 _)
      refine z_dmul B dX12_addRecord_278 (vf_of (sm_nn q_32)) ?_
      refine z_fdq (P := fun u9 : UInt64 => sm64 210 u9 ∧ pd64 u9) ⟨q_32, q_33⟩ (fun v_23 q_36 => ?_)
      obtain ⟨q_34, q_35⟩ := q_36
      replace q_34 : sm64 210 v_23 := q_34
      replace q_35 : pd64 v_23 := q_35
      refine z_lload_n B dX12_addRecord_279 rfl 1 rfl ?_
      refine z_l2d B dX12_addRecord_280 ?_
      have q_38 : pd64 (FP.ddiv v_23 (FP.l2d v_2)) := (div_pd q_34 q_35 q_1 (fun h8 => c_1 ((lg_cmp_eq _ _).mpr h8)))
      refine z_ddiv B dX12_addRecord_281 (vf_of (pd_nn q_38)) ?_
      refine z_fdq (P := fun u9 : UInt64 => pd64 u9) q_38 (fun v_24 q_40 => ?_)
      replace q_40 : pd64 v_24 := q_40
      have q_42 : pd64 (FP.dadd v_21 v_24) := (pd_add q_24 q_40)
      refine z_dadd B dX12_addRecord_282 (vf_of (pd_nn q_42)) ?_
      refine z_fdq (P := fun u9 : UInt64 => pd64 u9) q_42 (fun v_25 q_44 => ?_)
      replace q_44 : pd64 v_25 := q_44
      refine z_dast B h_26 (Nat.le_trans hx (Nat.le_add_right x 22)) (vp_in_nI (by omega) (by omega)) dX12_addRecord_283 (fun Φ6 hΦ6 => ?_)
      have h_27 : Φ6 (x + 22) = some (ad_ G 48 (vf_upd f_7 (nI (2 * j_1 + 1)).toNatClampNeg v_25)) := fset_at hΦ6
      have hI7 : Im G x (rd, nw, cr, tp, tt, sI, sT, pt, ql, fl, pe, le, nx, il, qu, kn, ec, nu, va, st, ep, ti, ad, ob, ra, rt, ex, sa, us, tk, th, me, dr, se, sn) Φ6 := Im.put (k := 22) hI6 hΦ6 ⟨_, rfl, pd_upd r_7 q_44⟩
      exact z_ret_v B dX12_addRecord_284 ⟨rfl, rfl, hI7, (fun b9 h9 => ((fset_fr hΦ6 (fun h8 => h9 (22) h8 (show 22 = 0 ∨ 22 = 11 ∨ 22 = 19 ∨ 22 = 20 ∨ 22 = 21 ∨ 22 = 22 by decide))).trans ((fset_fr hΦ5 (fun h8 => h9 (22) h8 (show 22 = 0 ∨ 22 = 11 ∨ 22 = 19 ∨ 22 = 20 ∨ 22 = 21 ∨ 22 = 22 by decide))).trans ((fset_fr hΦ4 (fun h8 => h9 (21) h8 (show 21 = 0 ∨ 21 = 11 ∨ 21 = 19 ∨ 21 = 20 ∨ 21 = 21 ∨ 21 = 22 by decide))).trans ((fset_fr hΦ3 (fun h8 => h9 (21) h8 (show 21 = 0 ∨ 21 = 11 ∨ 21 = 19 ∨ 21 = 20 ∨ 21 = 21 ∨ 21 = 22 by decide))).trans ((fset_fr hΦ2 (fun h8 => h9 (20) h8 (show 20 = 0 ∨ 20 = 11 ∨ 20 = 19 ∨ 20 = 20 ∨ 20 = 21 ∨ 20 = 22 by decide))).trans ((fset_fr hΦ1 (fun h8 => h9 (20) h8 (show 20 = 0 ∨ 20 = 11 ∨ 20 = 19 ∨ 20 = 20 ∨ 20 = 21 ∨ 20 = 22 by decide))).trans ((hF1 b9 h9).trans rfl))))))))⟩
  refine z_aload_n B dX12_addRecord_0 rfl 0 rfl ?_
  refine z_aload_n B dX12_addRecord_1 rfl 0 rfl ?_
  obtain ⟨n_3, v_26, n_4, h_28, b_27, b_15, b_16, b_17, b_18, b_19, b_20, b_21, b_22, b_23, b_24, b_25, b_26⟩ := im0 hI
  replace b_15 : 1 ≤ rt := b_15
  replace b_16 : rt ≤ 1024 := b_16
  replace b_17 : fl ≤ 12 := b_17
  replace b_18 : pe ≤ 24 := b_18
  replace b_19 : le ≤ 700 := b_19
  replace b_20 : qu ≤ 12 := b_20
  replace b_21 : n_3 ≤ 8 := b_21
  replace b_22 : n_4 ≤ 24 := b_22
  replace b_23 : tk ≤ 24 := b_23
  replace b_24 : il ≤ 700 := b_24
  replace b_25 : nx ≤ 701 := b_25
  replace b_26 : st ≤ 701 := b_26
  have h_29 : Φ x = some (o_ 14 [.int th, .ref (x + 1), .ref (x + 2), .int ti, .int ra, .int (nI rt), .int ex, .int ad, .ref (x + 3), .ref (x + 4), .int me, .long se, .ref (x + 5), .int (nI fl), .int dr, .long ob, .long sa, .long sn, .long us, .ref (x + 6), .ref (x + 7), .int (nI pe), .ref (x + 8), .int (nI le), .ref (x + 9), .ref (x + 10), .int (nI qu), .ref (x + 11), .ref (x + 12), .ref (x + 13), .ref (x + 14), .ref (x + 15), .ref (x + 16), .int (nI n_3), .long v_26, .ref (x + 17), .ref (x + 18), .ref (x + 19), .ref (x + 20), .ref (x + 21), .ref (x + 22), .int (nI n_4), .ref (x + 23), .ref (x + 24), .int (nI tk), .ref (x + 25), .int (nI il), .int (nI nx), .int ec, .int ep, .int kn, .int (nI st), .int nu, .long va]) := h_28
  refine z_get (ref := "FlowExporterModel") (C := RX12) (T := TX12) (N := 54) (ci := 14) (v := .ref (x + 18)) B hu_X12_addRecord_X12 rfl 36 (Nat.le_of_ble_eq_true rfl) hv_X12_addRecord_66 rfl h_29 rfl dX12_addRecord_2 ?_
  refine z_iconst (v := 0) B dX12_addRecord_5 rfl ?_
  obtain ⟨f_8, h_30, r_8⟩ := imk (k := 18) hI
  have h_31 : Φ (x + 18) = some (al_ G 9 f_8) := h_30
  refine z_lald B h_31 (vin rfl) dX12_addRecord_6 ?_
  refine z_fl (fun v_27 => ?_)
  refine z_aload_n B dX12_addRecord_7 rfl 0 rfl ?_
  refine z_get (ref := "FlowExporterModel") (C := RX12) (T := TX12) (N := 54) (ci := 14) (v := .ref (x + 18)) B hu_X12_addRecord_X12 rfl 36 (Nat.le_of_ble_eq_true rfl) hv_X12_addRecord_66 rfl h_29 rfl dX12_addRecord_8 ?_
  refine z_iconst (v := 1) B dX12_addRecord_11 rfl ?_
  refine z_lald B h_31 (vin rfl) dX12_addRecord_12 ?_
  refine z_fl (fun v_28 => ?_)
  refine z_aload_n B dX12_addRecord_13 rfl 0 rfl ?_
  refine z_get (ref := "FlowExporterModel") (C := RX12) (T := TX12) (N := 54) (ci := 14) (v := .ref (x + 18)) B hu_X12_addRecord_X12 rfl 36 (Nat.le_of_ble_eq_true rfl) hv_X12_addRecord_66 rfl h_29 rfl dX12_addRecord_14 ?_
  refine z_iconst (v := 2) B dX12_addRecord_17 rfl ?_
  refine z_lald B h_31 (vin rfl) dX12_addRecord_18 ?_
  refine z_fl (fun v_29 => ?_)
  refine z_aload_n B dX12_addRecord_19 rfl 0 rfl ?_
  refine z_get (ref := "FlowExporterModel") (C := RX12) (T := TX12) (N := 54) (ci := 14) (v := .ref (x + 18)) B hu_X12_addRecord_X12 rfl 36 (Nat.le_of_ble_eq_true rfl) hv_X12_addRecord_66 rfl h_29 rfl dX12_addRecord_20 ?_
  refine z_iconst (v := 3) B dX12_addRecord_23 rfl ?_
  refine z_lald B h_31 (vin rfl) dX12_addRecord_24 ?_
  refine z_fl (fun v_30 => ?_)
  refine z_callV (As := [.long v_27, .long v_28, .long v_29, .long v_30]) (rest := []) B (r_keyOf G l Φ sz x rd nw cr tp tt sI sT pt ql fl pe le nx il qu kn ec nu va st ep ti ad ob ra rt ex sa us tk th me dr se sn v_27 v_28 v_29 v_30 hx hI hnw) (cwV 4 B.1.2.2.2.2 gX12_addRecord_X12_keyOf rfl rfl rfl (by decide +kernel) ⟨Nat.le_of_ble_eq_true rfl, Nat.le_of_ble_eq_true rfl⟩) h_29 rfl rfl rfl rfl (Nat.le_of_ble_eq_true rfl) dX12_addRecord_25 ⟨Nat.le_of_ble_eq_true rfl, Nat.le_of_ble_eq_true rfl⟩ (fun r_9 Φ7 sz1 st1 hp1 hs1 => ?_)
  obtain ⟨ha1, hq1, hI8, hF2⟩ := hp1
  subst sz1
  replace hI8 : Im G x (rd, nw, cr, tp, tt, sI, sT, pt, ql, fl, pe, le, nx, il, qu, kn, ec, nu, va, st, ep, ti, ad, ob, ra, rt, ex, sa, us, tk, th, me, dr, se, sn) Φ7 := hI8
  rcases ha1 with rfl | ⟨n_5, b_28, rfl⟩
  · replace hs1 : st1 = [.int (-1)] := hs1
    subst st1
    refine z_istore_n (lv' := [(2, .int (-1)), (0, .ref x), (1, .int (nI n))]) B dX12_addRecord_28 rfl (Nat.le_of_ble_eq_true rfl) rfl ?_
    refine z_iload_n B dX12_addRecord_29 rfl 0 rfl ?_
    refine z_iconst (v := (-1)) B dX12_addRecord_30 rfl ?_
    refine z_icmp_ne (tgt := 55) B dX12_addRecord_31 rfl (fun h9 => absurd (by decide) h9) (fun c_2 => ?_)
    refine z_aload_n B dX12_addRecord_34 rfl 1 rfl ?_
    have h_32 : Φ7 x = some (o_ 14 [.int th, .ref (x + 1), .ref (x + 2), .int ti, .int ra, .int (nI rt), .int ex, .int ad, .ref (x + 3), .ref (x + 4), .int me, .long se, .ref (x + 5), .int (nI fl), .int dr, .long ob, .long sa, .long sn, .long us, .ref (x + 6), .ref (x + 7), .int (nI pe), .ref (x + 8), .int (nI le), .ref (x + 9), .ref (x + 10), .int (nI qu), .ref (x + 11), .ref (x + 12), .ref (x + 13), .ref (x + 14), .ref (x + 15), .ref (x + 16), .int (nI n_3), .long v_26, .ref (x + 17), .ref (x + 18), .ref (x + 19), .ref (x + 20), .ref (x + 21), .ref (x + 22), .int (nI n_4), .ref (x + 23), .ref (x + 24), .int (nI tk), .ref (x + 25), .int (nI il), .int (nI nx), .int ec, .int ep, .int kn, .int (nI st), .int nu, .long va]) := ((hF2 x (fun j9 h8 h7 => (show False from h7).elim)).trans h_29)
    refine z_get (ref := "FlowExporterModel") (C := RX12) (T := TX12) (N := 54) (ci := 14) (v := .int (nI n_4)) B hu_X12_addRecord_X12 rfl 41 (Nat.le_of_ble_eq_true rfl) hv_X12_addRecord_148 rfl h_32 rfl dX12_addRecord_35 ?_
    refine z_bipush (v := 24) B dX12_addRecord_38 rfl ?_
    refine z_icmp_ne (tgt := 55) B dX12_addRecord_40 rfl (fun c_3 => ?_) (fun c_3 => ?_)
    · have e_1 : ¬ (n_4 = 24) := fun h9 => c_3 ((nI_eq (a := n_4) (b := 24) (by omega) (by omega)).mpr h9)
      refine z_iload_n B dX12_addRecord_55 rfl 0 rfl ?_
      refine z_iconst (v := (-1)) B dX12_addRecord_56 rfl ?_
      refine z_icmp_ne (tgt := 151) B dX12_addRecord_57 rfl (fun h9 => absurd (by decide) h9) (fun c_4 => ?_)
      refine z_aload_n B dX12_addRecord_60 rfl 1 rfl ?_
      refine z_get (ref := "FlowExporterModel") (C := RX12) (T := TX12) (N := 54) (ci := 14) (v := .int (nI n_4)) B hu_X12_addRecord_X12 rfl 41 (Nat.le_of_ble_eq_true rfl) hv_X12_addRecord_148 rfl h_32 rfl dX12_addRecord_61 ?_
      refine z_istore_n (lv' := [(2, .int (nI n_4)), (0, .ref x), (1, .int (nI n))]) B dX12_addRecord_64 rfl (Nat.le_of_ble_eq_true rfl) rfl ?_
      refine z_aload_n B dX12_addRecord_65 rfl 1 rfl ?_
      refine z_dup B dX12_addRecord_66 rfl ?_
      refine z_get (ref := "FlowExporterModel") (C := RX12) (T := TX12) (N := 54) (ci := 14) (v := .int (nI n_4)) B hu_X12_addRecord_X12 rfl 41 (Nat.le_of_ble_eq_true rfl) hv_X12_addRecord_148 rfl h_32 rfl dX12_addRecord_67 ?_
      refine z_iconst (v := 1) B dX12_addRecord_70 rfl ?_
      refine z_iadd B dX12_addRecord_71 ?_
      refine z_top (st1 := [.int (nI (n_4 + 1)), .ref x]) (congrArg (fun w9 : Int32 => ([.int w9, .ref x] : List Value)) (nI_add n_4 1)) ?_
      refine z_put (ref := "FlowExporterModel") (C := RX12) (T := TX12) (N := 54) (ci := 14) (v := .int (nI (n_4 + 1))) B hu_X12_addRecord_X12 tyX12 tyX12_ok nmX12 rfl 41 (Nat.le_of_ble_eq_true rfl) hv_X12_addRecord_148 rfl (Or.inl rfl) h_32 hx rfl rfl (Nat.le_of_ble_eq_true rfl) dX12_addRecord_72 (fun Φ8 hΦ7 => ?_)
      have h_33 : Φ8 x = some (o_ 14 [.int th, .ref (x + 1), .ref (x + 2), .int ti, .int ra, .int (nI rt), .int ex, .int ad, .ref (x + 3), .ref (x + 4), .int me, .long se, .ref (x + 5), .int (nI fl), .int dr, .long ob, .long sa, .long sn, .long us, .ref (x + 6), .ref (x + 7), .int (nI pe), .ref (x + 8), .int (nI le), .ref (x + 9), .ref (x + 10), .int (nI qu), .ref (x + 11), .ref (x + 12), .ref (x + 13), .ref (x + 14), .ref (x + 15), .ref (x + 16), .int (nI n_3), .long v_26, .ref (x + 17), .ref (x + 18), .ref (x + 19), .ref (x + 20), .ref (x + 21), .ref (x + 22), .int (nI (n_4 + 1)), .ref (x + 23), .ref (x + 24), .int (nI tk), .ref (x + 25), .int (nI il), .int (nI nx), .int ec, .int ep, .int kn, .int (nI st), .int nu, .long va]) := fset_at hΦ7
      have hI9 : Im G x (rd, nw, cr, tp, tt, sI, sT, pt, ql, fl, pe, le, nx, il, qu, kn, ec, nu, va, st, ep, ti, ad, ob, ra, rt, ex, sa, us, tk, th, me, dr, se, sn) Φ8 := Im.put0 hI8 hΦ7 ⟨n_3, v_26, n_4 + 1, rfl, b_27, b_15, b_16, b_17, b_18, b_19, b_20, b_21, (show (n_4 + 1) ≤ 24 by omega), b_23, b_24, b_25, b_26⟩
      refine z_iconst (v := 0) B dX12_addRecord_75 rfl ?_
      refine z_istore_n (lv' := [(3, .int 0), (2, .int (nI n_4)), (0, .ref x), (1, .int (nI n))]) B dX12_addRecord_76 rfl (Nat.le_of_ble_eq_true rfl) rfl ?_
      refine z_lv [0, 1, 2, 3] rfl ?_
      refine z_loop (α := Nat) (fun (a9 : Nat) Φi => Im G x (rd, nw, cr, tp, tt, sI, sT, pt, ql, fl, pe, le, nx, il, qu, kn, ec, nu, va, st, ep, ti, ad, ob, ra, rt, ex, sa, us, tk, th, me, dr, se, sn) Φi ∧ Fr x (fun j9 => j9 = 19) Φ8 Φi ∧ (a9 ≤ 4) ∧ True) (fun a9 => [(3, .int (nI a9)), (2, .int (nI n_4)), (0, .ref x), (1, .int (nI n))]) (fun a9 => 4 - a9) ?_ (0) ⟨hI9, fun _ _ => rfl, (show 0 ≤ 4 by omega), trivial⟩
      rintro i_1 Φl1 ⟨hI10, hF3, b_29, -⟩ ih1
      replace hI10 : Im G x (rd, nw, cr, tp, tt, sI, sT, pt, ql, fl, pe, le, nx, il, qu, kn, ec, nu, va, st, ep, ti, ad, ob, ra, rt, ex, sa, us, tk, th, me, dr, se, sn) Φl1 := hI10
      replace b_29 : i_1 ≤ 4 := b_29
      show Z p9 l e9 _ s9 m9 _ w9 t9 k9 _ G 7 77 [(3, .int (nI i_1)), (2, .int (nI n_4)), (0, .ref x), (1, .int (nI n))] [] Φl1 _ _ _
      refine z_iload_n B dX12_addRecord_77 rfl 0 rfl ?_
      refine z_iconst (v := 4) B dX12_addRecord_78 rfl ?_
      refine z_icmp_ge (tgt := 105) B dX12_addRecord_79 rfl (fun c_5 => ?_) (fun c_5 => ?_)
      · have e_2 : 4 ≤ i_1 := (nI_leI (a := 4) (b := i_1) (by omega) (by omega)).mp c_5
        refine z_iconst (v := 0) B dX12_addRecord_105 rfl ?_
        refine z_istore_n (lv' := [(3, .int 0), (2, .int (nI n_4)), (0, .ref x), (1, .int (nI n))]) B dX12_addRecord_106 rfl (Nat.le_of_ble_eq_true rfl) rfl ?_
        refine z_lv [0, 1, 2, 3] rfl ?_
        refine z_loop (α := Nat) (fun (a9 : Nat) Φi => Im G x (rd, nw, cr, tp, tt, sI, sT, pt, ql, fl, pe, le, nx, il, qu, kn, ec, nu, va, st, ep, ti, ad, ob, ra, rt, ex, sa, us, tk, th, me, dr, se, sn) Φi ∧ Fr x (fun j9 => j9 = 20 ∨ j9 = 21 ∨ j9 = 22) Φl1 Φi ∧ (a9 ≤ 2) ∧ True) (fun a9 => [(3, .int (nI a9)), (2, .int (nI n_4)), (0, .ref x), (1, .int (nI n))]) (fun a9 => 2 - a9) ?_ (0) ⟨hI10, fun _ _ => rfl, (show 0 ≤ 2 by omega), trivial⟩
        rintro i_2 Φl2 ⟨hI11, hF4, b_30, -⟩ ih2
        replace hI11 : Im G x (rd, nw, cr, tp, tt, sI, sT, pt, ql, fl, pe, le, nx, il, qu, kn, ec, nu, va, st, ep, ti, ad, ob, ra, rt, ex, sa, us, tk, th, me, dr, se, sn) Φl2 := hI11
        replace b_30 : i_2 ≤ 2 := b_30
        show Z p9 l e9 _ s9 m9 _ w9 t9 k9 _ G 7 107 [(3, .int (nI i_2)), (2, .int (nI n_4)), (0, .ref x), (1, .int (nI n))] [] Φl2 _ _ _
        refine z_iload_n B dX12_addRecord_107 rfl 0 rfl ?_
        refine z_iconst (v := 2) B dX12_addRecord_108 rfl ?_
        refine z_icmp_ge (tgt := 151) B dX12_addRecord_109 rfl (fun c_6 => ?_) (fun c_6 => ?_)
        · have e_3 : 2 ≤ i_2 := (nI_leI (a := 2) (b := i_2) (by omega) (by omega)).mp c_6
          refine z_lv [2, 3, 1] rfl ?_
          exact J151 (n_4) Φl2 ⟨hI11, (fun b9 h9 => ((hF4 b9 (fun j9 h8 h7 => h9 j9 h8 (fq_1276 j9 h7))).trans ((hF3 b9 (fun j9 h8 h7 => h9 j9 h8 (fq_1275 j9 h7))).trans ((fset_fr hΦ7 (fun h8 => h9 (0) h8 (show 0 = 0 ∨ 0 = 11 ∨ 0 = 19 ∨ 0 = 20 ∨ 0 = 21 ∨ 0 = 22 by decide))).trans ((hF2 b9 (fun j9 h8 h7 => (show False from h7).elim)).trans rfl))))), (show n_4 < 24 by omega), trivial⟩
        · have e_4 : ¬ (2 ≤ i_2) := fun h9 => c_6 ((nI_leI (a := 2) (b := i_2) (by omega) (by omega)).mpr h9)
          refine z_aload_n B dX12_addRecord_112 rfl 2 rfl ?_
          have h_34 : Φl2 x = some (o_ 14 [.int th, .ref (x + 1), .ref (x + 2), .int ti, .int ra, .int (nI rt), .int ex, .int ad, .ref (x + 3), .ref (x + 4), .int me, .long se, .ref (x + 5), .int (nI fl), .int dr, .long ob, .long sa, .long sn, .long us, .ref (x + 6), .ref (x + 7), .int (nI pe), .ref (x + 8), .int (nI le), .ref (x + 9), .ref (x + 10), .int (nI qu), .ref (x + 11), .ref (x + 12), .ref (x + 13), .ref (x + 14), .ref (x + 15), .ref (x + 16), .int (nI n_3), .long v_26, .ref (x + 17), .ref (x + 18), .ref (x + 19), .ref (x + 20), .ref (x + 21), .ref (x + 22), .int (nI (n_4 + 1)), .ref (x + 23), .ref (x + 24), .int (nI tk), .ref (x + 25), .int (nI il), .int (nI nx), .int ec, .int ep, .int kn, .int (nI st), .int nu, .long va]) := ((hF4 x fq_1278).trans ((hF3 x fq_1277).trans h_33))
          refine z_get (ref := "FlowExporterModel") (C := RX12) (T := TX12) (N := 54) (ci := 14) (v := .ref (x + 20)) B hu_X12_addRecord_X12 rfl 38 (Nat.le_of_ble_eq_true rfl) hv_X12_addRecord_72 rfl h_34 rfl dX12_addRecord_113 ?_
          refine z_iconst (v := 2) B dX12_addRecord_116 rfl ?_
          refine z_iload_n B dX12_addRecord_117 rfl 1 rfl ?_
          refine z_imul B dX12_addRecord_118 ?_
          refine z_top (st1 := [.int (nI (2 * n_4)), .ref (x + 20)]) (congrArg (fun w9 : Int32 => ([.int w9, .ref (x + 20)] : List Value)) (nI_mul 2 n_4)) ?_
          refine z_iload_n B dX12_addRecord_119 rfl 0 rfl ?_
          refine z_iadd B dX12_addRecord_120 ?_
          refine z_top (st1 := [.int (nI (2 * n_4 + i_2)), .ref (x + 20)]) (congrArg (fun w9 : Int32 => ([.int w9, .ref (x + 20)] : List Value)) (nI_add (2 * n_4) i_2)) ?_
          refine z_lconst (v := 0) B dX12_addRecord_121 rfl ?_
          obtain ⟨f_9, h_35⟩ := imk (k := 20) hI11
          have h_36 : Φl2 (x + 20) = some (al_ G 48 f_9) := h_35
          refine z_last B h_36 (Nat.le_trans hx (Nat.le_add_right x 20)) (vp_in_nI (by omega) (by omega)) dX12_addRecord_122 (fun Φ9 hΦ8 => ?_)
          have h_37 : Φ9 (x + 20) = some (al_ G 48 (vp_updL f_9 (nI (2 * n_4 + i_2)).toNatClampNeg 0)) := fset_at hΦ8
          have hI12 : Im G x (rd, nw, cr, tp, tt, sI, sT, pt, ql, fl, pe, le, nx, il, qu, kn, ec, nu, va, st, ep, ti, ad, ob, ra, rt, ex, sa, us, tk, th, me, dr, se, sn) Φ9 := Im.put (k := 20) hI11 hΦ8 ⟨_, rfl⟩
          refine z_aload_n B dX12_addRecord_123 rfl 2 rfl ?_
          have h_38 : Φ9 x = some (o_ 14 [.int th, .ref (x + 1), .ref (x + 2), .int ti, .int ra, .int (nI rt), .int ex, .int ad, .ref (x + 3), .ref (x + 4), .int me, .long se, .ref (x + 5), .int (nI fl), .int dr, .long ob, .long sa, .long sn, .long us, .ref (x + 6), .ref (x + 7), .int (nI pe), .ref (x + 8), .int (nI le), .ref (x + 9), .ref (x + 10), .int (nI qu), .ref (x + 11), .ref (x + 12), .ref (x + 13), .ref (x + 14), .ref (x + 15), .ref (x + 16), .int (nI n_3), .long v_26, .ref (x + 17), .ref (x + 18), .ref (x + 19), .ref (x + 20), .ref (x + 21), .ref (x + 22), .int (nI (n_4 + 1)), .ref (x + 23), .ref (x + 24), .int (nI tk), .ref (x + 25), .int (nI il), .int (nI nx), .int ec, .int ep, .int kn, .int (nI st), .int nu, .long va]) := ((fset_fr hΦ8 (ne_off (x := x) (i := 0) (j := 20) rfl)).trans h_34)
          refine z_get (ref := "FlowExporterModel") (C := RX12) (T := TX12) (N := 54) (ci := 14) (v := .ref (x + 21)) B hu_X12_addRecord_X12 rfl 39 (Nat.le_of_ble_eq_true rfl) hv_X12_addRecord_75 rfl h_38 rfl dX12_addRecord_124 ?_
          refine z_iconst (v := 2) B dX12_addRecord_127 rfl ?_
          refine z_iload_n B dX12_addRecord_128 rfl 1 rfl ?_
          refine z_imul B dX12_addRecord_129 ?_
          refine z_top (st1 := [.int (nI (2 * n_4)), .ref (x + 21)]) (congrArg (fun w9 : Int32 => ([.int w9, .ref (x + 21)] : List Value)) (nI_mul 2 n_4)) ?_
          refine z_iload_n B dX12_addRecord_130 rfl 0 rfl ?_
          refine z_iadd B dX12_addRecord_131 ?_
          refine z_top (st1 := [.int (nI (2 * n_4 + i_2)), .ref (x + 21)]) (congrArg (fun w9 : Int32 => ([.int w9, .ref (x + 21)] : List Value)) (nI_add (2 * n_4) i_2)) ?_
          refine z_lconst (v := 0) B dX12_addRecord_132 rfl ?_
          obtain ⟨f_10, h_39⟩ := imk (k := 21) hI12
          have h_40 : Φ9 (x + 21) = some (al_ G 48 f_10) := h_39
          refine z_last B h_40 (Nat.le_trans hx (Nat.le_add_right x 21)) (vp_in_nI (by omega) (by omega)) dX12_addRecord_133 (fun Φ10 hΦ9 => ?_)
          have h_41 : Φ10 (x + 21) = some (al_ G 48 (vp_updL f_10 (nI (2 * n_4 + i_2)).toNatClampNeg 0)) := fset_at hΦ9
          have hI13 : Im G x (rd, nw, cr, tp, tt, sI, sT, pt, ql, fl, pe, le, nx, il, qu, kn, ec, nu, va, st, ep, ti, ad, ob, ra, rt, ex, sa, us, tk, th, me, dr, se, sn) Φ10 := Im.put (k := 21) hI12 hΦ9 ⟨_, rfl⟩
          refine z_aload_n B dX12_addRecord_134 rfl 2 rfl ?_
          have h_42 : Φ10 x = some (o_ 14 [.int th, .ref (x + 1), .ref (x + 2), .int ti, .int ra, .int (nI rt), .int ex, .int ad, .ref (x + 3), .ref (x + 4), .int me, .long se, .ref (x + 5), .int (nI fl), .int dr, .long ob, .long sa, .long sn, .long us, .ref (x + 6), .ref (x + 7), .int (nI pe), .ref (x + 8), .int (nI le), .ref (x + 9), .ref (x + 10), .int (nI qu), .ref (x + 11), .ref (x + 12), .ref (x + 13), .ref (x + 14), .ref (x + 15), .ref (x + 16), .int (nI n_3), .long v_26, .ref (x + 17), .ref (x + 18), .ref (x + 19), .ref (x + 20), .ref (x + 21), .ref (x + 22), .int (nI (n_4 + 1)), .ref (x + 23), .ref (x + 24), .int (nI tk), .ref (x + 25), .int (nI il), .int (nI nx), .int ec, .int ep, .int kn, .int (nI st), .int nu, .long va]) := ((fset_fr hΦ9 (ne_off (x := x) (i := 0) (j := 21) rfl)).trans h_38)
          refine z_get (ref := "FlowExporterModel") (C := RX12) (T := TX12) (N := 54) (ci := 14) (v := .ref (x + 22)) B hu_X12_addRecord_X12 rfl 40 (Nat.le_of_ble_eq_true rfl) hv_X12_addRecord_78 rfl h_42 rfl dX12_addRecord_135 ?_
          refine z_iconst (v := 2) B dX12_addRecord_138 rfl ?_
          refine z_iload_n B dX12_addRecord_139 rfl 1 rfl ?_
          refine z_imul B dX12_addRecord_140 ?_
          refine z_top (st1 := [.int (nI (2 * n_4)), .ref (x + 22)]) (congrArg (fun w9 : Int32 => ([.int w9, .ref (x + 22)] : List Value)) (nI_mul 2 n_4)) ?_
          refine z_iload_n B dX12_addRecord_141 rfl 0 rfl ?_
          refine z_iadd B dX12_addRecord_142 ?_
          refine z_top (st1 := [.int (nI (2 * n_4 + i_2)), .ref (x + 22)]) (congrArg (fun w9 : Int32 => ([.int w9, .ref (x + 22)] : List Value)) (nI_add (2 * n_4) i_2)) ?_
          refine z_dconst0 B dX12_addRecord_143 ?_
          obtain ⟨f_11, h_43, r_12⟩ := imk (k := 22) hI13
          have h_44 : Φ10 (x + 22) = some (ad_ G 48 f_11) := h_43
          refine z_dast B h_44 (Nat.le_trans hx (Nat.le_add_right x 22)) (vp_in_nI (by omega) (by omega)) dX12_addRecord_144 (fun Φ11 hΦ10 => ?_)
          have h_45 : Φ11 (x + 22) = some (ad_ G 48 (vf_upd f_11 (nI (2 * n_4 + i_2)).toNatClampNeg FP.dconst0)) := fset_at hΦ10
          have hI14 : Im G x (rd, nw, cr, tp, tt, sI, sT, pt, ql, fl, pe, le, nx, il, qu, kn, ec, nu, va, st, ep, ti, ad, ob, ra, rt, ex, sa, us, tk, th, me, dr, se, sn) Φ11 := Im.put (k := 22) hI13 hΦ10 ⟨_, rfl, pd_upd r_12 pd_zero⟩
          refine z_iinc (k := 0) (v := nI (i_2 + 1)) (lv' := [(3, .int (nI (i_2 + 1))), (2, .int (nI n_4)), (0, .ref x), (1, .int (nI n))]) B dX12_addRecord_145 rfl (nI_add i_2 1) (Nat.le_of_ble_eq_true rfl) rfl ?_
          refine z_goto (tgt := 107) B dX12_addRecord_148 rfl ?_
          refine z_lv [0, 1, 2, 3] rfl ?_
          exact ih2 (i_2 + 1) Φ11 (show 2 - (i_2 + 1) < 2 - i_2 by omega) ⟨hI14, (fun b9 h9 => ((fset_fr hΦ10 (fun h8 => h9 (22) h8 (show 22 = 20 ∨ 22 = 21 ∨ 22 = 22 by decide))).trans ((fset_fr hΦ9 (fun h8 => h9 (21) h8 (show 21 = 20 ∨ 21 = 21 ∨ 21 = 22 by decide))).trans ((fset_fr hΦ8 (fun h8 => h9 (20) h8 (show 20 = 20 ∨ 20 = 21 ∨ 20 = 22 by decide))).trans ((hF4 b9 h9).trans rfl))))), (show (i_2 + 1) ≤ 2 by omega), trivial⟩
      · have e_5 : ¬ (4 ≤ i_1) := fun h9 => c_5 ((nI_leI (a := 4) (b := i_1) (by omega) (by omega)).mpr h9)
        refine z_aload_n B dX12_addRecord_82 rfl 2 rfl ?_
        have h_46 : Φl1 x = some (o_ 14 [.int th, .ref (x + 1), .ref (x + 2), .int ti, .int ra, .int (nI rt), .int ex, .int ad, .ref (x + 3), .ref (x + 4), .int me, .long se, .ref (x + 5), .int (nI fl), .int dr, .long ob, .long sa, .long sn, .long us, .ref (x + 6), .ref (x + 7), .int (nI pe), .ref (x + 8), .int (nI le), .ref (x + 9), .ref (x + 10), .int (nI qu), .ref (x + 11), .ref (x + 12), .ref (x + 13), .ref (x + 14), .ref (x + 15), .ref (x + 16), .int (nI n_3), .long v_26, .ref (x + 17), .ref (x + 18), .ref (x + 19), .ref (x + 20), .ref (x + 21), .ref (x + 22), .int (nI (n_4 + 1)), .ref (x + 23), .ref (x + 24), .int (nI tk), .ref (x + 25), .int (nI il), .int (nI nx), .int ec, .int ep, .int kn, .int (nI st), .int nu, .long va]) := ((hF3 x fq_1277).trans h_33)
        refine z_get (ref := "FlowExporterModel") (C := RX12) (T := TX12) (N := 54) (ci := 14) (v := .ref (x + 19)) B hu_X12_addRecord_X12 rfl 37 (Nat.le_of_ble_eq_true rfl) hv_X12_addRecord_69 rfl h_46 rfl dX12_addRecord_83 ?_
        refine z_iconst (v := 4) B dX12_addRecord_86 rfl ?_
        refine z_iload_n B dX12_addRecord_87 rfl 1 rfl ?_
        refine z_imul B dX12_addRecord_88 ?_
        refine z_top (st1 := [.int (nI (4 * n_4)), .ref (x + 19)]) (congrArg (fun w9 : Int32 => ([.int w9, .ref (x + 19)] : List Value)) (nI_mul 4 n_4)) ?_
        refine z_iload_n B dX12_addRecord_89 rfl 0 rfl ?_
        refine z_iadd B dX12_addRecord_90 ?_
        refine z_top (st1 := [.int (nI (4 * n_4 + i_1)), .ref (x + 19)]) (congrArg (fun w9 : Int32 => ([.int w9, .ref (x + 19)] : List Value)) (nI_add (4 * n_4) i_1)) ?_
        refine z_aload_n B dX12_addRecord_91 rfl 2 rfl ?_
        refine z_get (ref := "FlowExporterModel") (C := RX12) (T := TX12) (N := 54) (ci := 14) (v := .ref (x + 18)) B hu_X12_addRecord_X12 rfl 36 (Nat.le_of_ble_eq_true rfl) hv_X12_addRecord_66 rfl h_46 rfl dX12_addRecord_92 ?_
        refine z_iload_n B dX12_addRecord_95 rfl 0 rfl ?_
        have h_47 : Φl1 (x + 18) = some (al_ G 9 f_8) := ((hF3 (x + 18) fq_1280).trans ((fset_fr hΦ7 (ne_off (x := x) (i := 18) (j := 0) rfl)).trans ((hF2 (x + 18) (fun j9 h8 h7 => (show False from h7).elim)).trans h_31)))
        refine z_lald B h_47 (vp_in_nI (by omega) (by omega)) dX12_addRecord_96 ?_
        refine z_fl (fun v_31 => ?_)
        refine z_l2i (v := v_31.toInt32) B dX12_addRecord_97 rfl ?_
        refine z_fi (fun v_32 => ?_)
        obtain ⟨f_12, h_48⟩ := imk (k := 19) hI10
        have h_49 : Φl1 (x + 19) = some (ai_ G 96 f_12) := h_48
        refine z_iast B h_49 (Nat.le_trans hx (Nat.le_add_right x 19)) (vp_in_nI (by omega) (by omega)) dX12_addRecord_98 (fun Φ12 hΦ11 => ?_)
        have h_50 : Φ12 (x + 19) = some (ai_ G 96 (upd f_12 (nI (4 * n_4 + i_1)).toNatClampNeg v_32)) := fset_at hΦ11
        have hI15 : Im G x (rd, nw, cr, tp, tt, sI, sT, pt, ql, fl, pe, le, nx, il, qu, kn, ec, nu, va, st, ep, ti, ad, ob, ra, rt, ex, sa, us, tk, th, me, dr, se, sn) Φ12 := Im.put (k := 19) hI10 hΦ11 ⟨_, rfl⟩
        refine z_iinc (k := 0) (v := nI (i_1 + 1)) (lv' := [(3, .int (nI (i_1 + 1))), (2, .int (nI n_4)), (0, .ref x), (1, .int (nI n))]) B dX12_addRecord_99 rfl (nI_add i_1 1) (Nat.le_of_ble_eq_true rfl) rfl ?_
        refine z_goto (tgt := 77) B dX12_addRecord_102 rfl ?_
        refine z_lv [0, 1, 2, 3] rfl ?_
        exact ih1 (i_1 + 1) Φ12 (show 4 - (i_1 + 1) < 4 - i_1 by omega) ⟨hI15, (fun b9 h9 => ((fset_fr hΦ11 (fun h8 => h9 (19) h8 (show 19 = 19 by decide))).trans ((hF3 b9 h9).trans rfl))), (show (i_1 + 1) ≤ 4 by omega), trivial⟩
    · have e_6 : n_4 = 24 := (nI_eq (a := n_4) (b := 24) (by omega) (by omega)).mp c_3
      refine z_aload_n B dX12_addRecord_43 rfl 1 rfl ?_
      refine z_get (ref := "FlowExporterModel") (C := RX12) (T := TX12) (N := 54) (ci := 14) (v := .ref (x + 11)) B hu_X12_addRecord_X12 rfl 27 (Nat.le_of_ble_eq_true rfl) hv_X12_addRecord_45 rfl h_32 rfl dX12_addRecord_44 ?_
      refine z_bipush (v := 6) B dX12_addRecord_47 rfl ?_
      refine z_dup2_11 B dX12_addRecord_49 rfl rfl ?_
      obtain ⟨f_13, h_51⟩ := imk (k := 11) hI8
      have h_52 : Φ7 (x + 11) = some (al_ G 9 f_13) := h_51
      refine z_lald B h_52 (vin rfl) dX12_addRecord_50 ?_
      refine z_fl (fun v_33 => ?_)
      refine z_lconst (v := 1) B dX12_addRecord_51 rfl ?_
      refine z_ladd B dX12_addRecord_52 ?_
      refine z_fl (fun v_34 => ?_)
      refine z_last B h_52 (Nat.le_trans hx (Nat.le_add_right x 11)) (vin rfl) dX12_addRecord_53 (fun Φ13 hΦ12 => ?_)
      have h_53 : Φ13 (x + 11) = some (al_ G 9 (vp_updL f_13 (6 : Int32).toNatClampNeg v_34)) := fset_at hΦ12
      have hI16 : Im G x (rd, nw, cr, tp, tt, sI, sT, pt, ql, fl, pe, le, nx, il, qu, kn, ec, nu, va, st, ep, ti, ad, ob, ra, rt, ex, sa, us, tk, th, me, dr, se, sn) Φ13 := Im.put (k := 11) hI8 hΦ12 ⟨_, rfl⟩
      exact z_ret_v B dX12_addRecord_54 ⟨rfl, rfl, hI16, (fun b9 h9 => ((fset_fr hΦ12 (fun h8 => h9 (11) h8 (show 11 = 0 ∨ 11 = 11 ∨ 11 = 19 ∨ 11 = 20 ∨ 11 = 21 ∨ 11 = 22 by decide))).trans ((hF2 b9 (fun j9 h8 h7 => (show False from h7).elim)).trans rfl)))⟩
  · replace hs1 : st1 = [.int (nI n_5)] := hs1
    subst st1
    replace b_28 : n_5 < 24 := b_28
    refine z_istore_n (lv' := [(2, .int (nI n_5)), (0, .ref x), (1, .int (nI n))]) B dX12_addRecord_28 rfl (Nat.le_of_ble_eq_true rfl) rfl ?_
    refine z_iload_n B dX12_addRecord_29 rfl 0 rfl ?_
    refine z_iconst (v := (-1)) B dX12_addRecord_30 rfl ?_
    refine z_icmp_ne (tgt := 55) B dX12_addRecord_31 rfl (fun c_7 => ?_) (fun h9 => absurd h9 (nI_nm1 (n := n_5) (by omega)))
    refine z_iload_n B dX12_addRecord_55 rfl 0 rfl ?_
    refine z_iconst (v := (-1)) B dX12_addRecord_56 rfl ?_
    refine z_icmp_ne (tgt := 151) B dX12_addRecord_57 rfl (fun c_8 => ?_) (fun h9 => absurd h9 (nI_nm1 (n := n_5) (by omega)))
    refine z_lv [1, 2, 0] rfl ?_
    exact J151 (n_5) Φ7 ⟨hI8, (fun b9 h9 => ((hF2 b9 (fun j9 h8 h7 => (show False from h7).elim)).trans rfl)), (show n_5 < 24 by omega), trivial⟩

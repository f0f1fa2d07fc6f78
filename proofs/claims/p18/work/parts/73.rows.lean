set_option maxRecDepth 20000 in
theorem ggX12_fieldHere_X12_pack : GoodIn wsX12_fieldHere wsX12_pack := goodIn_r _ [8, 9, 10] (by decide +kernel) (by decide +kernel)
set_option maxRecDepth 20000 in
theorem gX12_fieldHere_X12_pack : GoodIn wsX12_fieldHere (va_wsS RX12 495 yX12_pack wsX12_pack) := goodIn_app (goodIn_of _ (by decide +kernel)) ggX12_fieldHere_X12_pack
theorem dX12_fieldHere_0 : decode cX12_fieldHere 0 = .ok (.aload_n 0, 1) := by decide +kernel
theorem dX12_fieldHere_1 : decode cX12_fieldHere 1 = .ok (.getfield 476, 3) := by decide +kernel
theorem dX12_fieldHere_4 : decode cX12_fieldHere 4 = .ok (.iconst 1, 1) := by decide +kernel
theorem dX12_fieldHere_5 : decode cX12_fieldHere 5 = .ok (.if_icmp .eq 5, 3) := by decide +kernel
theorem dX12_fieldHere_8 : decode cX12_fieldHere 8 = .ok (.iconst (-1), 1) := by decide +kernel
theorem dX12_fieldHere_9 : decode cX12_fieldHere 9 = .ok (.ireturn, 1) := by decide +kernel
theorem dX12_fieldHere_10 : decode cX12_fieldHere 10 = .ok (.aload_n 0, 1) := by decide +kernel
theorem dX12_fieldHere_11 : decode cX12_fieldHere 11 = .ok (.getfield 467, 3) := by decide +kernel
theorem dX12_fieldHere_14 : decode cX12_fieldHere 14 = .ok (.bipush 115, 2) := by decide +kernel
theorem dX12_fieldHere_16 : decode cX12_fieldHere 16 = .ok (.bipush 111, 2) := by decide +kernel
theorem dX12_fieldHere_18 : decode cX12_fieldHere 18 = .ok (.bipush 117, 2) := by decide +kernel
theorem dX12_fieldHere_20 : decode cX12_fieldHere 20 = .ok (.bipush 114, 2) := by decide +kernel
theorem dX12_fieldHere_22 : decode cX12_fieldHere 22 = .ok (.bipush 99, 2) := by decide +kernel
theorem dX12_fieldHere_24 : decode cX12_fieldHere 24 = .ok (.bipush 101, 2) := by decide +kernel
theorem dX12_fieldHere_26 : decode cX12_fieldHere 26 = .ok (.invokestatic 495, 3) := by decide +kernel
theorem dX12_fieldHere_29 : decode cX12_fieldHere 29 = .ok (.lcmp, 1) := by decide +kernel
theorem dX12_fieldHere_30 : decode cX12_fieldHere 30 = .ok (.ifCond .ne 5, 3) := by decide +kernel
theorem dX12_fieldHere_33 : decode cX12_fieldHere 33 = .ok (.iconst 0, 1) := by decide +kernel
theorem dX12_fieldHere_34 : decode cX12_fieldHere 34 = .ok (.ireturn, 1) := by decide +kernel
theorem dX12_fieldHere_35 : decode cX12_fieldHere 35 = .ok (.aload_n 0, 1) := by decide +kernel
theorem dX12_fieldHere_36 : decode cX12_fieldHere 36 = .ok (.getfield 467, 3) := by decide +kernel
theorem dX12_fieldHere_39 : decode cX12_fieldHere 39 = .ok (.bipush 100, 2) := by decide +kernel
theorem dX12_fieldHere_41 : decode cX12_fieldHere 41 = .ok (.bipush 101, 2) := by decide +kernel
theorem dX12_fieldHere_43 : decode cX12_fieldHere 43 = .ok (.bipush 115, 2) := by decide +kernel
theorem dX12_fieldHere_45 : decode cX12_fieldHere 45 = .ok (.bipush 116, 2) := by decide +kernel
theorem dX12_fieldHere_47 : decode cX12_fieldHere 47 = .ok (.bipush 105, 2) := by decide +kernel
theorem dX12_fieldHere_49 : decode cX12_fieldHere 49 = .ok (.bipush 110, 2) := by decide +kernel
theorem dX12_fieldHere_51 : decode cX12_fieldHere 51 = .ok (.invokestatic 495, 3) := by decide +kernel
theorem dX12_fieldHere_54 : decode cX12_fieldHere 54 = .ok (.ldc2_w 499, 3) := by decide +kernel
theorem dX12_fieldHere_57 : decode cX12_fieldHere 57 = .ok (.lmul, 1) := by decide +kernel
theorem dX12_fieldHere_58 : decode cX12_fieldHere 58 = .ok (.bipush 97, 2) := by decide +kernel
theorem dX12_fieldHere_60 : decode cX12_fieldHere 60 = .ok (.bipush 116, 2) := by decide +kernel
theorem dX12_fieldHere_62 : decode cX12_fieldHere 62 = .ok (.bipush 105, 2) := by decide +kernel
theorem dX12_fieldHere_64 : decode cX12_fieldHere 64 = .ok (.bipush 111, 2) := by decide +kernel
theorem dX12_fieldHere_66 : decode cX12_fieldHere 66 = .ok (.bipush 110, 2) := by decide +kernel
theorem dX12_fieldHere_68 : decode cX12_fieldHere 68 = .ok (.iconst 0, 1) := by decide +kernel
theorem dX12_fieldHere_69 : decode cX12_fieldHere 69 = .ok (.invokestatic 495, 3) := by decide +kernel
theorem dX12_fieldHere_72 : decode cX12_fieldHere 72 = .ok (.ladd, 1) := by decide +kernel
theorem dX12_fieldHere_73 : decode cX12_fieldHere 73 = .ok (.lcmp, 1) := by decide +kernel
theorem dX12_fieldHere_74 : decode cX12_fieldHere 74 = .ok (.ifCond .ne 5, 3) := by decide +kernel
theorem dX12_fieldHere_77 : decode cX12_fieldHere 77 = .ok (.iconst 1, 1) := by decide +kernel
theorem dX12_fieldHere_78 : decode cX12_fieldHere 78 = .ok (.ireturn, 1) := by decide +kernel
theorem dX12_fieldHere_79 : decode cX12_fieldHere 79 = .ok (.aload_n 0, 1) := by decide +kernel
theorem dX12_fieldHere_80 : decode cX12_fieldHere 80 = .ok (.getfield 467, 3) := by decide +kernel
theorem dX12_fieldHere_83 : decode cX12_fieldHere 83 = .ok (.bipush 112, 2) := by decide +kernel
theorem dX12_fieldHere_85 : decode cX12_fieldHere 85 = .ok (.bipush 111, 2) := by decide +kernel
theorem dX12_fieldHere_87 : decode cX12_fieldHere 87 = .ok (.bipush 114, 2) := by decide +kernel
theorem dX12_fieldHere_89 : decode cX12_fieldHere 89 = .ok (.bipush 116, 2) := by decide +kernel
theorem dX12_fieldHere_91 : decode cX12_fieldHere 91 = .ok (.iconst 0, 1) := by decide +kernel
theorem dX12_fieldHere_92 : decode cX12_fieldHere 92 = .ok (.iconst 0, 1) := by decide +kernel
theorem dX12_fieldHere_93 : decode cX12_fieldHere 93 = .ok (.invokestatic 495, 3) := by decide +kernel
theorem dX12_fieldHere_96 : decode cX12_fieldHere 96 = .ok (.lcmp, 1) := by decide +kernel
theorem dX12_fieldHere_97 : decode cX12_fieldHere 97 = .ok (.ifCond .ne 5, 3) := by decide +kernel
theorem dX12_fieldHere_100 : decode cX12_fieldHere 100 = .ok (.iconst 2, 1) := by decide +kernel
theorem dX12_fieldHere_101 : decode cX12_fieldHere 101 = .ok (.ireturn, 1) := by decide +kernel
theorem dX12_fieldHere_102 : decode cX12_fieldHere 102 = .ok (.aload_n 0, 1) := by decide +kernel
theorem dX12_fieldHere_103 : decode cX12_fieldHere 103 = .ok (.getfield 467, 3) := by decide +kernel
theorem dX12_fieldHere_106 : decode cX12_fieldHere 106 = .ok (.bipush 112, 2) := by decide +kernel
theorem dX12_fieldHere_108 : decode cX12_fieldHere 108 = .ok (.bipush 114, 2) := by decide +kernel
theorem dX12_fieldHere_110 : decode cX12_fieldHere 110 = .ok (.bipush 111, 2) := by decide +kernel
theorem dX12_fieldHere_112 : decode cX12_fieldHere 112 = .ok (.bipush 116, 2) := by decide +kernel
theorem dX12_fieldHere_114 : decode cX12_fieldHere 114 = .ok (.bipush 111, 2) := by decide +kernel
theorem dX12_fieldHere_116 : decode cX12_fieldHere 116 = .ok (.iconst 0, 1) := by decide +kernel
theorem dX12_fieldHere_117 : decode cX12_fieldHere 117 = .ok (.invokestatic 495, 3) := by decide +kernel
theorem dX12_fieldHere_120 : decode cX12_fieldHere 120 = .ok (.ldc2_w 501, 3) := by decide +kernel
theorem dX12_fieldHere_123 : decode cX12_fieldHere 123 = .ok (.lmul, 1) := by decide +kernel
theorem dX12_fieldHere_124 : decode cX12_fieldHere 124 = .ok (.bipush 99, 2) := by decide +kernel
theorem dX12_fieldHere_126 : decode cX12_fieldHere 126 = .ok (.bipush 111, 2) := by decide +kernel
theorem dX12_fieldHere_128 : decode cX12_fieldHere 128 = .ok (.bipush 108, 2) := by decide +kernel
theorem dX12_fieldHere_130 : decode cX12_fieldHere 130 = .ok (.iconst 0, 1) := by decide +kernel
theorem dX12_fieldHere_131 : decode cX12_fieldHere 131 = .ok (.iconst 0, 1) := by decide +kernel
theorem dX12_fieldHere_132 : decode cX12_fieldHere 132 = .ok (.iconst 0, 1) := by decide +kernel
theorem dX12_fieldHere_133 : decode cX12_fieldHere 133 = .ok (.invokestatic 495, 3) := by decide +kernel
theorem dX12_fieldHere_136 : decode cX12_fieldHere 136 = .ok (.ladd, 1) := by decide +kernel
theorem dX12_fieldHere_137 : decode cX12_fieldHere 137 = .ok (.lcmp, 1) := by decide +kernel
theorem dX12_fieldHere_138 : decode cX12_fieldHere 138 = .ok (.ifCond .ne 5, 3) := by decide +kernel
theorem dX12_fieldHere_141 : decode cX12_fieldHere 141 = .ok (.iconst 3, 1) := by decide +kernel
theorem dX12_fieldHere_142 : decode cX12_fieldHere 142 = .ok (.ireturn, 1) := by decide +kernel
theorem dX12_fieldHere_143 : decode cX12_fieldHere 143 = .ok (.aload_n 0, 1) := by decide +kernel
theorem dX12_fieldHere_144 : decode cX12_fieldHere 144 = .ok (.getfield 467, 3) := by decide +kernel
theorem dX12_fieldHere_147 : decode cX12_fieldHere 147 = .ok (.bipush 112, 2) := by decide +kernel
theorem dX12_fieldHere_149 : decode cX12_fieldHere 149 = .ok (.bipush 97, 2) := by decide +kernel
theorem dX12_fieldHere_151 : decode cX12_fieldHere 151 = .ok (.bipush 99, 2) := by decide +kernel
theorem dX12_fieldHere_153 : decode cX12_fieldHere 153 = .ok (.bipush 107, 2) := by decide +kernel
theorem dX12_fieldHere_155 : decode cX12_fieldHere 155 = .ok (.iconst 0, 1) := by decide +kernel
theorem dX12_fieldHere_156 : decode cX12_fieldHere 156 = .ok (.iconst 0, 1) := by decide +kernel
theorem dX12_fieldHere_157 : decode cX12_fieldHere 157 = .ok (.invokestatic 495, 3) := by decide +kernel
theorem dX12_fieldHere_160 : decode cX12_fieldHere 160 = .ok (.ldc2_w 501, 3) := by decide +kernel
theorem dX12_fieldHere_163 : decode cX12_fieldHere 163 = .ok (.lmul, 1) := by decide +kernel
theorem dX12_fieldHere_164 : decode cX12_fieldHere 164 = .ok (.bipush 101, 2) := by decide +kernel
theorem dX12_fieldHere_166 : decode cX12_fieldHere 166 = .ok (.bipush 116, 2) := by decide +kernel
theorem dX12_fieldHere_168 : decode cX12_fieldHere 168 = .ok (.bipush 115, 2) := by decide +kernel
theorem dX12_fieldHere_170 : decode cX12_fieldHere 170 = .ok (.iconst 0, 1) := by decide +kernel
theorem dX12_fieldHere_171 : decode cX12_fieldHere 171 = .ok (.iconst 0, 1) := by decide +kernel
theorem dX12_fieldHere_172 : decode cX12_fieldHere 172 = .ok (.iconst 0, 1) := by decide +kernel
theorem dX12_fieldHere_173 : decode cX12_fieldHere 173 = .ok (.invokestatic 495, 3) := by decide +kernel
theorem dX12_fieldHere_176 : decode cX12_fieldHere 176 = .ok (.ladd, 1) := by decide +kernel
theorem dX12_fieldHere_177 : decode cX12_fieldHere 177 = .ok (.lcmp, 1) := by decide +kernel
theorem dX12_fieldHere_178 : decode cX12_fieldHere 178 = .ok (.ifCond .ne 5, 3) := by decide +kernel
theorem dX12_fieldHere_181 : decode cX12_fieldHere 181 = .ok (.iconst 4, 1) := by decide +kernel
theorem dX12_fieldHere_182 : decode cX12_fieldHere 182 = .ok (.ireturn, 1) := by decide +kernel
theorem dX12_fieldHere_183 : decode cX12_fieldHere 183 = .ok (.aload_n 0, 1) := by decide +kernel
theorem dX12_fieldHere_184 : decode cX12_fieldHere 184 = .ok (.getfield 467, 3) := by decide +kernel
theorem dX12_fieldHere_187 : decode cX12_fieldHere 187 = .ok (.bipush 98, 2) := by decide +kernel
theorem dX12_fieldHere_189 : decode cX12_fieldHere 189 = .ok (.bipush 121, 2) := by decide +kernel
theorem dX12_fieldHere_191 : decode cX12_fieldHere 191 = .ok (.bipush 116, 2) := by decide +kernel
theorem dX12_fieldHere_193 : decode cX12_fieldHere 193 = .ok (.bipush 101, 2) := by decide +kernel
theorem dX12_fieldHere_195 : decode cX12_fieldHere 195 = .ok (.bipush 115, 2) := by decide +kernel
theorem dX12_fieldHere_197 : decode cX12_fieldHere 197 = .ok (.iconst 0, 1) := by decide +kernel
theorem dX12_fieldHere_198 : decode cX12_fieldHere 198 = .ok (.invokestatic 495, 3) := by decide +kernel
theorem dX12_fieldHere_201 : decode cX12_fieldHere 201 = .ok (.lcmp, 1) := by decide +kernel
theorem dX12_fieldHere_202 : decode cX12_fieldHere 202 = .ok (.ifCond .ne 5, 3) := by decide +kernel
theorem dX12_fieldHere_205 : decode cX12_fieldHere 205 = .ok (.iconst 5, 1) := by decide +kernel
theorem dX12_fieldHere_206 : decode cX12_fieldHere 206 = .ok (.ireturn, 1) := by decide +kernel
theorem dX12_fieldHere_207 : decode cX12_fieldHere 207 = .ok (.aload_n 0, 1) := by decide +kernel
theorem dX12_fieldHere_208 : decode cX12_fieldHere 208 = .ok (.getfield 467, 3) := by decide +kernel
theorem dX12_fieldHere_211 : decode cX12_fieldHere 211 = .ok (.bipush 102, 2) := by decide +kernel
theorem dX12_fieldHere_213 : decode cX12_fieldHere 213 = .ok (.bipush 105, 2) := by decide +kernel
theorem dX12_fieldHere_215 : decode cX12_fieldHere 215 = .ok (.bipush 114, 2) := by decide +kernel
theorem dX12_fieldHere_217 : decode cX12_fieldHere 217 = .ok (.bipush 115, 2) := by decide +kernel
theorem dX12_fieldHere_219 : decode cX12_fieldHere 219 = .ok (.bipush 116, 2) := by decide +kernel
theorem dX12_fieldHere_221 : decode cX12_fieldHere 221 = .ok (.iconst 0, 1) := by decide +kernel
theorem dX12_fieldHere_222 : decode cX12_fieldHere 222 = .ok (.invokestatic 495, 3) := by decide +kernel
theorem dX12_fieldHere_225 : decode cX12_fieldHere 225 = .ok (.lcmp, 1) := by decide +kernel
theorem dX12_fieldHere_226 : decode cX12_fieldHere 226 = .ok (.ifCond .ne 6, 3) := by decide +kernel
theorem dX12_fieldHere_229 : decode cX12_fieldHere 229 = .ok (.bipush 6, 2) := by decide +kernel
theorem dX12_fieldHere_231 : decode cX12_fieldHere 231 = .ok (.ireturn, 1) := by decide +kernel
theorem dX12_fieldHere_232 : decode cX12_fieldHere 232 = .ok (.aload_n 0, 1) := by decide +kernel
theorem dX12_fieldHere_233 : decode cX12_fieldHere 233 = .ok (.getfield 467, 3) := by decide +kernel
theorem dX12_fieldHere_236 : decode cX12_fieldHere 236 = .ok (.bipush 108, 2) := by decide +kernel
theorem dX12_fieldHere_238 : decode cX12_fieldHere 238 = .ok (.bipush 97, 2) := by decide +kernel
theorem dX12_fieldHere_240 : decode cX12_fieldHere 240 = .ok (.bipush 115, 2) := by decide +kernel
theorem dX12_fieldHere_242 : decode cX12_fieldHere 242 = .ok (.bipush 116, 2) := by decide +kernel
theorem dX12_fieldHere_244 : decode cX12_fieldHere 244 = .ok (.iconst 0, 1) := by decide +kernel
theorem dX12_fieldHere_245 : decode cX12_fieldHere 245 = .ok (.iconst 0, 1) := by decide +kernel
theorem dX12_fieldHere_246 : decode cX12_fieldHere 246 = .ok (.invokestatic 495, 3) := by decide +kernel
theorem dX12_fieldHere_249 : decode cX12_fieldHere 249 = .ok (.lcmp, 1) := by decide +kernel
theorem dX12_fieldHere_250 : decode cX12_fieldHere 250 = .ok (.ifCond .ne 6, 3) := by decide +kernel
theorem dX12_fieldHere_253 : decode cX12_fieldHere 253 = .ok (.bipush 7, 2) := by decide +kernel
theorem dX12_fieldHere_255 : decode cX12_fieldHere 255 = .ok (.ireturn, 1) := by decide +kernel
theorem dX12_fieldHere_256 : decode cX12_fieldHere 256 = .ok (.aload_n 0, 1) := by decide +kernel
theorem dX12_fieldHere_257 : decode cX12_fieldHere 257 = .ok (.getfield 467, 3) := by decide +kernel
theorem dX12_fieldHere_260 : decode cX12_fieldHere 260 = .ok (.bipush 114, 2) := by decide +kernel
theorem dX12_fieldHere_262 : decode cX12_fieldHere 262 = .ok (.bipush 97, 2) := by decide +kernel
theorem dX12_fieldHere_264 : decode cX12_fieldHere 264 = .ok (.bipush 116, 2) := by decide +kernel
theorem dX12_fieldHere_266 : decode cX12_fieldHere 266 = .ok (.bipush 101, 2) := by decide +kernel
theorem dX12_fieldHere_268 : decode cX12_fieldHere 268 = .ok (.iconst 0, 1) := by decide +kernel
theorem dX12_fieldHere_269 : decode cX12_fieldHere 269 = .ok (.iconst 0, 1) := by decide +kernel
theorem dX12_fieldHere_270 : decode cX12_fieldHere 270 = .ok (.invokestatic 495, 3) := by decide +kernel
theorem dX12_fieldHere_273 : decode cX12_fieldHere 273 = .ok (.lcmp, 1) := by decide +kernel
theorem dX12_fieldHere_274 : decode cX12_fieldHere 274 = .ok (.ifCond .ne 8, 3) := by decide +kernel
theorem dX12_fieldHere_277 : decode cX12_fieldHere 277 = .ok (.bipush 8, 2) := by decide +kernel
theorem dX12_fieldHere_279 : decode cX12_fieldHere 279 = .ok (.goto 4, 3) := by decide +kernel
theorem dX12_fieldHere_282 : decode cX12_fieldHere 282 = .ok (.iconst (-1), 1) := by decide +kernel
theorem dX12_fieldHere_283 : decode cX12_fieldHere 283 = .ok (.ireturn, 1) := by decide +kernel

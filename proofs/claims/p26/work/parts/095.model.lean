set_option maxRecDepth 20000 in
theorem ggX12_advanceToken_X12_byteAt : GoodIn wsX12_advanceToken wsX12_byteAt := goodIn_ca ((goodIn_ca (goodIn_r _ [13, 14, 15] rfl (by decide +kernel)) (goodIn_sub (fun _ h => List.mem_cons_of_mem _ (List.mem_append_left _ (List.mem_append_right _ h))) gw_wsX120))) (goodIn_sub (fun _ h => List.mem_cons_of_mem _ (List.mem_append_right _ h)) (all_fg _))
set_option maxRecDepth 20000 in
theorem gX12_advanceToken_X12_byteAt : GoodIn wsX12_advanceToken (wsV RX12 461 RX12 yX12_byteAt wsX12_byteAt) := goodIn_app (goodIn_m (mem_cA (List.mem_cons_of_mem _ (List.mem_append_left _ (List.mem_append_left _ (List.mem_append_left _ (List.mem_of_getElem? (i := 8) rfl))))) (mem_cA (List.mem_cons_of_mem _ (List.mem_append_left _ (List.mem_append_left _ (List.mem_append_left _ (List.mem_of_getElem? (i := 9) rfl))))) (mem_cA (List.mem_cons_of_mem _ (List.mem_append_left _ (List.mem_append_left _ (List.mem_append_left _ (List.mem_of_getElem? (i := 10) rfl))))) (mem_cA (List.mem_cons_of_mem _ (List.mem_append_left _ (List.mem_append_left _ (List.mem_append_left _ (List.mem_of_getElem? (i := 11) rfl))))) mem_cZ)))) (by decide +kernel)) ggX12_advanceToken_X12_byteAt
set_option maxRecDepth 20000 in
theorem ggX12_advanceToken_X12_isLetter : GoodIn wsX12_advanceToken wsX12_isLetter := (goodIn_r _ [18, 19, 20, 21, 22, 12, 23] rfl (by decide +kernel))
set_option maxRecDepth 20000 in
theorem gX12_advanceToken_X12_isLetter : GoodIn wsX12_advanceToken (va_wsS RX12 470 yX12_isLetter wsX12_isLetter) := goodIn_app (goodIn_m (mem_cA (List.mem_cons_of_mem _ (List.mem_append_left _ (List.mem_append_left _ (List.mem_append_left _ (List.mem_of_getElem? (i := 15) rfl))))) (mem_cA (List.mem_cons_of_mem _ (List.mem_append_left _ (List.mem_append_left _ (List.mem_append_left _ (List.mem_of_getElem? (i := 16) rfl))))) (mem_cA (List.mem_cons_of_mem _ (List.mem_append_left _ (List.mem_append_left _ (List.mem_append_left _ (List.mem_of_getElem? (i := 11) rfl))))) mem_cZ))) (by decide +kernel)) ggX12_advanceToken_X12_isLetter
set_option maxRecDepth 20000 in
theorem ggX12_advanceToken_X12_isDigit : GoodIn wsX12_advanceToken wsX12_isDigit := (goodIn_r _ [26, 8, 27, 21, 22, 12, 23] rfl (by decide +kernel))
set_option maxRecDepth 20000 in
theorem gX12_advanceToken_X12_isDigit : GoodIn wsX12_advanceToken (va_wsS RX12 473 yX12_isDigit wsX12_isDigit) := goodIn_app (goodIn_m (mem_cA (List.mem_cons_of_mem _ (List.mem_append_left _ (List.mem_append_left _ (List.mem_append_left _ (List.mem_of_getElem? (i := 23) rfl))))) (mem_cA (List.mem_cons_of_mem _ (List.mem_append_left _ (List.mem_append_left _ (List.mem_append_right _ (List.mem_of_getElem? (i := 0) rfl))))) (mem_cA (List.mem_cons_of_mem _ (List.mem_append_left _ (List.mem_append_left _ (List.mem_append_left _ (List.mem_of_getElem? (i := 11) rfl))))) mem_cZ))) (by decide +kernel)) ggX12_advanceToken_X12_isDigit
theorem dX12_advanceToken_0 : decode cX12_advanceToken 0 = .ok (.aload_n 0, 1) := by decide +kernel
theorem dX12_advanceToken_1 : decode cX12_advanceToken 1 = .ok (.aload_n 0, 1) := by decide +kernel
theorem dX12_advanceToken_2 : decode cX12_advanceToken 2 = .ok (.getfield 458, 3) := by decide +kernel
theorem dX12_advanceToken_5 : decode cX12_advanceToken 5 = .ok (.invokevirtual 461, 3) := by decide +kernel
theorem dX12_advanceToken_8 : decode cX12_advanceToken 8 = .ok (.bipush 32, 2) := by decide +kernel
theorem dX12_advanceToken_10 : decode cX12_advanceToken 10 = .ok (.if_icmp .eq 16, 3) := by decide +kernel
theorem dX12_advanceToken_13 : decode cX12_advanceToken 13 = .ok (.aload_n 0, 1) := by decide +kernel
theorem dX12_advanceToken_14 : decode cX12_advanceToken 14 = .ok (.aload_n 0, 1) := by decide +kernel
theorem dX12_advanceToken_15 : decode cX12_advanceToken 15 = .ok (.getfield 458, 3) := by decide +kernel
theorem dX12_advanceToken_18 : decode cX12_advanceToken 18 = .ok (.invokevirtual 461, 3) := by decide +kernel
theorem dX12_advanceToken_21 : decode cX12_advanceToken 21 = .ok (.bipush 10, 2) := by decide +kernel
theorem dX12_advanceToken_23 : decode cX12_advanceToken 23 = .ok (.if_icmp .ne 16, 3) := by decide +kernel
theorem dX12_advanceToken_26 : decode cX12_advanceToken 26 = .ok (.aload_n 0, 1) := by decide +kernel
theorem dX12_advanceToken_27 : decode cX12_advanceToken 27 = .ok (.dup, 1) := by decide +kernel
theorem dX12_advanceToken_28 : decode cX12_advanceToken 28 = .ok (.getfield 458, 3) := by decide +kernel
theorem dX12_advanceToken_31 : decode cX12_advanceToken 31 = .ok (.iconst 1, 1) := by decide +kernel
theorem dX12_advanceToken_32 : decode cX12_advanceToken 32 = .ok (.iadd, 1) := by decide +kernel
theorem dX12_advanceToken_33 : decode cX12_advanceToken 33 = .ok (.putfield 458, 3) := by decide +kernel
theorem dX12_advanceToken_36 : decode cX12_advanceToken 36 = .ok (.goto (-36), 3) := by decide +kernel
theorem dX12_advanceToken_39 : decode cX12_advanceToken 39 = .ok (.aload_n 0, 1) := by decide +kernel
theorem dX12_advanceToken_40 : decode cX12_advanceToken 40 = .ok (.aload_n 0, 1) := by decide +kernel
theorem dX12_advanceToken_41 : decode cX12_advanceToken 41 = .ok (.getfield 458, 3) := by decide +kernel
theorem dX12_advanceToken_44 : decode cX12_advanceToken 44 = .ok (.putfield 464, 3) := by decide +kernel
theorem dX12_advanceToken_47 : decode cX12_advanceToken 47 = .ok (.aload_n 0, 1) := by decide +kernel
theorem dX12_advanceToken_48 : decode cX12_advanceToken 48 = .ok (.lconst 0, 1) := by decide +kernel
theorem dX12_advanceToken_49 : decode cX12_advanceToken 49 = .ok (.putfield 467, 3) := by decide +kernel
theorem dX12_advanceToken_52 : decode cX12_advanceToken 52 = .ok (.aload_n 0, 1) := by decide +kernel
theorem dX12_advanceToken_53 : decode cX12_advanceToken 53 = .ok (.aload_n 0, 1) := by decide +kernel
theorem dX12_advanceToken_54 : decode cX12_advanceToken 54 = .ok (.getfield 464, 3) := by decide +kernel
theorem dX12_advanceToken_57 : decode cX12_advanceToken 57 = .ok (.invokevirtual 461, 3) := by decide +kernel
theorem dX12_advanceToken_60 : decode cX12_advanceToken 60 = .ok (.istore_n 1, 1) := by decide +kernel
theorem dX12_advanceToken_61 : decode cX12_advanceToken 61 = .ok (.aload_n 0, 1) := by decide +kernel
theorem dX12_advanceToken_62 : decode cX12_advanceToken 62 = .ok (.iload_n 1, 1) := by decide +kernel
theorem dX12_advanceToken_63 : decode cX12_advanceToken 63 = .ok (.iconst (-1), 1) := by decide +kernel
theorem dX12_advanceToken_64 : decode cX12_advanceToken 64 = .ok (.if_icmp .ne 7, 3) := by decide +kernel
theorem dX12_advanceToken_67 : decode cX12_advanceToken 67 = .ok (.iconst 0, 1) := by decide +kernel
theorem dX12_advanceToken_68 : decode cX12_advanceToken 68 = .ok (.goto 36, 3) := by decide +kernel
theorem dX12_advanceToken_71 : decode cX12_advanceToken 71 = .ok (.iload_n 1, 1) := by decide +kernel
theorem dX12_advanceToken_72 : decode cX12_advanceToken 72 = .ok (.invokestatic 470, 3) := by decide +kernel
theorem dX12_advanceToken_75 : decode cX12_advanceToken 75 = .ok (.ifCond .eq 7, 3) := by decide +kernel
theorem dX12_advanceToken_78 : decode cX12_advanceToken 78 = .ok (.iconst 1, 1) := by decide +kernel
theorem dX12_advanceToken_79 : decode cX12_advanceToken 79 = .ok (.goto 25, 3) := by decide +kernel
theorem dX12_advanceToken_82 : decode cX12_advanceToken 82 = .ok (.iload_n 1, 1) := by decide +kernel
theorem dX12_advanceToken_83 : decode cX12_advanceToken 83 = .ok (.invokestatic 473, 3) := by decide +kernel
theorem dX12_advanceToken_86 : decode cX12_advanceToken 86 = .ok (.ifCond .eq 7, 3) := by decide +kernel
theorem dX12_advanceToken_89 : decode cX12_advanceToken 89 = .ok (.iconst 2, 1) := by decide +kernel
theorem dX12_advanceToken_90 : decode cX12_advanceToken 90 = .ok (.goto 14, 3) := by decide +kernel
theorem dX12_advanceToken_93 : decode cX12_advanceToken 93 = .ok (.iload_n 1, 1) := by decide +kernel
theorem dX12_advanceToken_94 : decode cX12_advanceToken 94 = .ok (.bipush 59, 2) := by decide +kernel
theorem dX12_advanceToken_96 : decode cX12_advanceToken 96 = .ok (.if_icmp .ne 7, 3) := by decide +kernel
theorem dX12_advanceToken_99 : decode cX12_advanceToken 99 = .ok (.iconst 3, 1) := by decide +kernel
theorem dX12_advanceToken_100 : decode cX12_advanceToken 100 = .ok (.goto 4, 3) := by decide +kernel
theorem dX12_advanceToken_103 : decode cX12_advanceToken 103 = .ok (.iconst 4, 1) := by decide +kernel
theorem dX12_advanceToken_104 : decode cX12_advanceToken 104 = .ok (.putfield 476, 3) := by decide +kernel
theorem dX12_advanceToken_107 : decode cX12_advanceToken 107 = .ok (.aload_n 0, 1) := by decide +kernel
theorem dX12_advanceToken_108 : decode cX12_advanceToken 108 = .ok (.getfield 476, 3) := by decide +kernel
theorem dX12_advanceToken_111 : decode cX12_advanceToken 111 = .ok (.iconst 3, 1) := by decide +kernel
theorem dX12_advanceToken_112 : decode cX12_advanceToken 112 = .ok (.if_icmp .eq 11, 3) := by decide +kernel
theorem dX12_advanceToken_115 : decode cX12_advanceToken 115 = .ok (.aload_n 0, 1) := by decide +kernel
theorem dX12_advanceToken_116 : decode cX12_advanceToken 116 = .ok (.getfield 476, 3) := by decide +kernel
theorem dX12_advanceToken_119 : decode cX12_advanceToken 119 = .ok (.iconst 4, 1) := by decide +kernel
theorem dX12_advanceToken_120 : decode cX12_advanceToken 120 = .ok (.if_icmp .ne 13, 3) := by decide +kernel
theorem dX12_advanceToken_123 : decode cX12_advanceToken 123 = .ok (.aload_n 0, 1) := by decide +kernel
theorem dX12_advanceToken_124 : decode cX12_advanceToken 124 = .ok (.dup, 1) := by decide +kernel
theorem dX12_advanceToken_125 : decode cX12_advanceToken 125 = .ok (.getfield 458, 3) := by decide +kernel
theorem dX12_advanceToken_128 : decode cX12_advanceToken 128 = .ok (.iconst 1, 1) := by decide +kernel
theorem dX12_advanceToken_129 : decode cX12_advanceToken 129 = .ok (.iadd, 1) := by decide +kernel
theorem dX12_advanceToken_130 : decode cX12_advanceToken 130 = .ok (.putfield 458, 3) := by decide +kernel
theorem dX12_advanceToken_133 : decode cX12_advanceToken 133 = .ok (.aload_n 0, 1) := by decide +kernel
theorem dX12_advanceToken_134 : decode cX12_advanceToken 134 = .ok (.getfield 476, 3) := by decide +kernel
theorem dX12_advanceToken_137 : decode cX12_advanceToken 137 = .ok (.iconst 1, 1) := by decide +kernel
theorem dX12_advanceToken_138 : decode cX12_advanceToken 138 = .ok (.if_icmp .ne 70, 3) := by decide +kernel
theorem dX12_advanceToken_141 : decode cX12_advanceToken 141 = .ok (.aload_n 0, 1) := by decide +kernel
theorem dX12_advanceToken_142 : decode cX12_advanceToken 142 = .ok (.aload_n 0, 1) := by decide +kernel
theorem dX12_advanceToken_143 : decode cX12_advanceToken 143 = .ok (.getfield 458, 3) := by decide +kernel
theorem dX12_advanceToken_146 : decode cX12_advanceToken 146 = .ok (.invokevirtual 461, 3) := by decide +kernel
theorem dX12_advanceToken_149 : decode cX12_advanceToken 149 = .ok (.invokestatic 470, 3) := by decide +kernel
theorem dX12_advanceToken_152 : decode cX12_advanceToken 152 = .ok (.ifCond .eq 56, 3) := by decide +kernel
theorem dX12_advanceToken_155 : decode cX12_advanceToken 155 = .ok (.aload_n 0, 1) := by decide +kernel
theorem dX12_advanceToken_156 : decode cX12_advanceToken 156 = .ok (.getfield 458, 3) := by decide +kernel
theorem dX12_advanceToken_159 : decode cX12_advanceToken 159 = .ok (.aload_n 0, 1) := by decide +kernel
theorem dX12_advanceToken_160 : decode cX12_advanceToken 160 = .ok (.getfield 464, 3) := by decide +kernel
theorem dX12_advanceToken_163 : decode cX12_advanceToken 163 = .ok (.isub, 1) := by decide +kernel
theorem dX12_advanceToken_164 : decode cX12_advanceToken 164 = .ok (.bipush 12, 2) := by decide +kernel
theorem dX12_advanceToken_166 : decode cX12_advanceToken 166 = .ok (.if_icmp .ge 29, 3) := by decide +kernel
theorem dX12_advanceToken_169 : decode cX12_advanceToken 169 = .ok (.aload_n 0, 1) := by decide +kernel
theorem dX12_advanceToken_170 : decode cX12_advanceToken 170 = .ok (.aload_n 0, 1) := by decide +kernel
theorem dX12_advanceToken_171 : decode cX12_advanceToken 171 = .ok (.getfield 467, 3) := by decide +kernel
theorem dX12_advanceToken_174 : decode cX12_advanceToken 174 = .ok (.ldc2_w 479, 3) := by decide +kernel
theorem dX12_advanceToken_177 : decode cX12_advanceToken 177 = .ok (.lmul, 1) := by decide +kernel
theorem dX12_advanceToken_178 : decode cX12_advanceToken 178 = .ok (.aload_n 0, 1) := by decide +kernel
theorem dX12_advanceToken_179 : decode cX12_advanceToken 179 = .ok (.aload_n 0, 1) := by decide +kernel
theorem dX12_advanceToken_180 : decode cX12_advanceToken 180 = .ok (.getfield 458, 3) := by decide +kernel
theorem dX12_advanceToken_183 : decode cX12_advanceToken 183 = .ok (.invokevirtual 461, 3) := by decide +kernel
theorem dX12_advanceToken_186 : decode cX12_advanceToken 186 = .ok (.i2l, 1) := by decide +kernel
theorem dX12_advanceToken_187 : decode cX12_advanceToken 187 = .ok (.ladd, 1) := by decide +kernel
theorem dX12_advanceToken_188 : decode cX12_advanceToken 188 = .ok (.ldc2_w 481, 3) := by decide +kernel
theorem dX12_advanceToken_191 : decode cX12_advanceToken 191 = .ok (.lsub, 1) := by decide +kernel
theorem dX12_advanceToken_192 : decode cX12_advanceToken 192 = .ok (.putfield 467, 3) := by decide +kernel
theorem dX12_advanceToken_195 : decode cX12_advanceToken 195 = .ok (.aload_n 0, 1) := by decide +kernel
theorem dX12_advanceToken_196 : decode cX12_advanceToken 196 = .ok (.dup, 1) := by decide +kernel
theorem dX12_advanceToken_197 : decode cX12_advanceToken 197 = .ok (.getfield 458, 3) := by decide +kernel
theorem dX12_advanceToken_200 : decode cX12_advanceToken 200 = .ok (.iconst 1, 1) := by decide +kernel
theorem dX12_advanceToken_201 : decode cX12_advanceToken 201 = .ok (.iadd, 1) := by decide +kernel
theorem dX12_advanceToken_202 : decode cX12_advanceToken 202 = .ok (.putfield 458, 3) := by decide +kernel
theorem dX12_advanceToken_205 : decode cX12_advanceToken 205 = .ok (.goto (-72), 3) := by decide +kernel
theorem dX12_advanceToken_208 : decode cX12_advanceToken 208 = .ok (.aload_n 0, 1) := by decide +kernel
theorem dX12_advanceToken_209 : decode cX12_advanceToken 209 = .ok (.getfield 476, 3) := by decide +kernel
theorem dX12_advanceToken_212 : decode cX12_advanceToken 212 = .ok (.iconst 2, 1) := by decide +kernel
theorem dX12_advanceToken_213 : decode cX12_advanceToken 213 = .ok (.if_icmp .ne 70, 3) := by decide +kernel
theorem dX12_advanceToken_216 : decode cX12_advanceToken 216 = .ok (.aload_n 0, 1) := by decide +kernel
theorem dX12_advanceToken_217 : decode cX12_advanceToken 217 = .ok (.aload_n 0, 1) := by decide +kernel
theorem dX12_advanceToken_218 : decode cX12_advanceToken 218 = .ok (.getfield 458, 3) := by decide +kernel
theorem dX12_advanceToken_221 : decode cX12_advanceToken 221 = .ok (.invokevirtual 461, 3) := by decide +kernel
theorem dX12_advanceToken_224 : decode cX12_advanceToken 224 = .ok (.invokestatic 473, 3) := by decide +kernel
theorem dX12_advanceToken_227 : decode cX12_advanceToken 227 = .ok (.ifCond .eq 56, 3) := by decide +kernel
theorem dX12_advanceToken_230 : decode cX12_advanceToken 230 = .ok (.aload_n 0, 1) := by decide +kernel
theorem dX12_advanceToken_231 : decode cX12_advanceToken 231 = .ok (.getfield 458, 3) := by decide +kernel
theorem dX12_advanceToken_234 : decode cX12_advanceToken 234 = .ok (.aload_n 0, 1) := by decide +kernel
theorem dX12_advanceToken_235 : decode cX12_advanceToken 235 = .ok (.getfield 464, 3) := by decide +kernel
theorem dX12_advanceToken_238 : decode cX12_advanceToken 238 = .ok (.isub, 1) := by decide +kernel
theorem dX12_advanceToken_239 : decode cX12_advanceToken 239 = .ok (.bipush 6, 2) := by decide +kernel
theorem dX12_advanceToken_241 : decode cX12_advanceToken 241 = .ok (.if_icmp .ge 29, 3) := by decide +kernel
theorem dX12_advanceToken_244 : decode cX12_advanceToken 244 = .ok (.aload_n 0, 1) := by decide +kernel
theorem dX12_advanceToken_245 : decode cX12_advanceToken 245 = .ok (.aload_n 0, 1) := by decide +kernel
theorem dX12_advanceToken_246 : decode cX12_advanceToken 246 = .ok (.getfield 467, 3) := by decide +kernel
theorem dX12_advanceToken_249 : decode cX12_advanceToken 249 = .ok (.ldc2_w 298, 3) := by decide +kernel
theorem dX12_advanceToken_252 : decode cX12_advanceToken 252 = .ok (.lmul, 1) := by decide +kernel
theorem dX12_advanceToken_253 : decode cX12_advanceToken 253 = .ok (.aload_n 0, 1) := by decide +kernel
theorem dX12_advanceToken_254 : decode cX12_advanceToken 254 = .ok (.aload_n 0, 1) := by decide +kernel
theorem dX12_advanceToken_255 : decode cX12_advanceToken 255 = .ok (.getfield 458, 3) := by decide +kernel
theorem dX12_advanceToken_258 : decode cX12_advanceToken 258 = .ok (.invokevirtual 461, 3) := by decide +kernel
theorem dX12_advanceToken_261 : decode cX12_advanceToken 261 = .ok (.i2l, 1) := by decide +kernel
theorem dX12_advanceToken_262 : decode cX12_advanceToken 262 = .ok (.ladd, 1) := by decide +kernel
theorem dX12_advanceToken_263 : decode cX12_advanceToken 263 = .ok (.ldc2_w 454, 3) := by decide +kernel
theorem dX12_advanceToken_266 : decode cX12_advanceToken 266 = .ok (.lsub, 1) := by decide +kernel
theorem dX12_advanceToken_267 : decode cX12_advanceToken 267 = .ok (.putfield 467, 3) := by decide +kernel
theorem dX12_advanceToken_270 : decode cX12_advanceToken 270 = .ok (.aload_n 0, 1) := by decide +kernel
theorem dX12_advanceToken_271 : decode cX12_advanceToken 271 = .ok (.dup, 1) := by decide +kernel
theorem dX12_advanceToken_272 : decode cX12_advanceToken 272 = .ok (.getfield 458, 3) := by decide +kernel
theorem dX12_advanceToken_275 : decode cX12_advanceToken 275 = .ok (.iconst 1, 1) := by decide +kernel
theorem dX12_advanceToken_276 : decode cX12_advanceToken 276 = .ok (.iadd, 1) := by decide +kernel
theorem dX12_advanceToken_277 : decode cX12_advanceToken 277 = .ok (.putfield 458, 3) := by decide +kernel
theorem dX12_advanceToken_280 : decode cX12_advanceToken 280 = .ok (.goto (-72), 3) := by decide +kernel
theorem dX12_advanceToken_283 : decode cX12_advanceToken 283 = .ok (.aload_n 0, 1) := by decide +kernel
theorem dX12_advanceToken_284 : decode cX12_advanceToken 284 = .ok (.getfield 476, 3) := by decide +kernel
theorem dX12_advanceToken_287 : decode cX12_advanceToken 287 = .ok (.iconst 1, 1) := by decide +kernel
theorem dX12_advanceToken_288 : decode cX12_advanceToken 288 = .ok (.if_icmp .ne 17, 3) := by decide +kernel
theorem dX12_advanceToken_291 : decode cX12_advanceToken 291 = .ok (.aload_n 0, 1) := by decide +kernel
theorem dX12_advanceToken_292 : decode cX12_advanceToken 292 = .ok (.getfield 458, 3) := by decide +kernel
theorem dX12_advanceToken_295 : decode cX12_advanceToken 295 = .ok (.aload_n 0, 1) := by decide +kernel
theorem dX12_advanceToken_296 : decode cX12_advanceToken 296 = .ok (.getfield 464, 3) := by decide +kernel
theorem dX12_advanceToken_299 : decode cX12_advanceToken 299 = .ok (.isub, 1) := by decide +kernel
theorem dX12_advanceToken_300 : decode cX12_advanceToken 300 = .ok (.bipush 12, 2) := by decide +kernel
theorem dX12_advanceToken_302 : decode cX12_advanceToken 302 = .ok (.if_icmp .gt 25, 3) := by decide +kernel
theorem dX12_advanceToken_305 : decode cX12_advanceToken 305 = .ok (.aload_n 0, 1) := by decide +kernel
theorem dX12_advanceToken_306 : decode cX12_advanceToken 306 = .ok (.getfield 476, 3) := by decide +kernel
theorem dX12_advanceToken_309 : decode cX12_advanceToken 309 = .ok (.iconst 2, 1) := by decide +kernel
theorem dX12_advanceToken_310 : decode cX12_advanceToken 310 = .ok (.if_icmp .ne 22, 3) := by decide +kernel
theorem dX12_advanceToken_313 : decode cX12_advanceToken 313 = .ok (.aload_n 0, 1) := by decide +kernel
theorem dX12_advanceToken_314 : decode cX12_advanceToken 314 = .ok (.getfield 458, 3) := by decide +kernel
theorem dX12_advanceToken_317 : decode cX12_advanceToken 317 = .ok (.aload_n 0, 1) := by decide +kernel
theorem dX12_advanceToken_318 : decode cX12_advanceToken 318 = .ok (.getfield 464, 3) := by decide +kernel
theorem dX12_advanceToken_321 : decode cX12_advanceToken 321 = .ok (.isub, 1) := by decide +kernel
theorem dX12_advanceToken_322 : decode cX12_advanceToken 322 = .ok (.bipush 6, 2) := by decide +kernel
theorem dX12_advanceToken_324 : decode cX12_advanceToken 324 = .ok (.if_icmp .le 8, 3) := by decide +kernel
theorem dX12_advanceToken_327 : decode cX12_advanceToken 327 = .ok (.aload_n 0, 1) := by decide +kernel
theorem dX12_advanceToken_328 : decode cX12_advanceToken 328 = .ok (.iconst 4, 1) := by decide +kernel
theorem dX12_advanceToken_329 : decode cX12_advanceToken 329 = .ok (.putfield 476, 3) := by decide +kernel
theorem dX12_advanceToken_332 : decode cX12_advanceToken 332 = .ok (.return_, 1) := by decide +kernel
set_option maxHeartbeats 4000000 in
set_option maxRecDepth 100000 in
theorem r_advanceToken (G : EnvG) (l : Launch) (Φ : Hm) (sz x : Nat) (rd : (Nat → Int32) → Prop) (nw : (Nat → Int32) → Prop) (cr : (Nat → Int64) → Prop) (tp : (Nat → Int32) → Prop) (tt : (Nat → Int64) → Prop) (sI : (Nat → Int32) → Prop) (sT : (Nat → Int32) → Prop) (pt : (Nat → Int32) → Prop) (ql : (Nat → Int32) → Prop) (fl : Nat) (pe : Nat) (le : Nat) (nx : Nat) (il : Nat) (qu : Nat) (kn : Int32) (ec : Int32) (nu : Int32) (va : Int64) (st : Nat) (ep : Int32) (ti : Int32) (ad : Int32) (ob : Int64) (ra : Int32) (rt : Nat) (ex : Int32) (sa : Int64) (us : Int64) (tk : Nat) (th : Int32) (me : Int32) (dr : Int32) (se : Int64) (sn : Int64) (fB : Nat → Int32) (hx : G.2.2.2 ≤ x) (hI : Im G x (rd, nw, cr, tp, tt, sI, sT, pt, ql, fl, pe, le, nx, il, qu, kn, ec, nu, va, st, ep, ti, ad, ob, ra, rt, ex, sa, us, tk, th, me, dr, se, sn) Φ) (hc0 : Φ (x + 25) = some (ab_ G 700 fB)) (hxl : nx ≤ il) (hll : il ≤ 700) (hnw : ∀ f9 : Nat → Int32, nw f9 → NN f9) : Ct G l yX12_advanceToken wsX12_advanceToken ({ frames := 2, cells := 0, slots := 0, locals := 45 }) 0 0 [.ref x] Φ sz (fun v Φ1 sz1 => (v = none) ∧ sz1 = sz ∧ (∃ (nx1 : Nat) (kn1 : Int32) (va1 : Int64) (st1 : Nat), (TkR (bA fB il) nx kn1 st1 nx1 va1) ∧ Im G x (rd, nw, cr, tp, tt, sI, sT, pt, ql, fl, pe, le, nx1, il, qu, kn1, ec, nu, va1, st1, ep, ti, ad, ob, ra, rt, ex, sa, us, tk, th, me, dr, se, sn) Φ1) ∧ Fr x (fun j9 => j9 = 0) Φ Φ1) := by
  refine Ct.of (cc := cX12_advanceToken) (maxL := 2) (ret := none) (by decide) rfl (Nat.le_of_ble_eq_true rfl) ?_
  intro p9 e9 s9 m9 w9 t9 k9 B
  show Z p9 l e9 _ s9 m9 _ w9 t9 k9 _ G 2 0 [(0, .ref x)] [] Φ sz 0 0
  refine z_lv [0] rfl ?_
  refine z_loop (α := Nat) (fun (a9 : Nat) Φi => Im G x (rd, nw, cr, tp, tt, sI, sT, pt, ql, fl, pe, le, a9, il, qu, kn, ec, nu, va, st, ep, ti, ad, ob, ra, rt, ex, sa, us, tk, th, me, dr, se, sn) Φi ∧ Fr x (fun j9 => j9 = 0) Φ Φi ∧ (nx ≤ a9) ∧ (a9 ≤ il) ∧ (∀ i9, nx ≤ i9 → i9 < a9 → kO (bA fB il i9) = 1) ∧ True) (fun a9 => [(0, .ref x)]) (fun a9 => il - a9) ?_ (nx) ⟨hI, fun _ _ => rfl, (show nx ≤ nx by omega), (show nx ≤ il by omega), (fun i9 h8 h7 => absurd h7 (by omega)), trivial⟩
  rintro i_1 Φl1 ⟨hI1, hF1, b_1, b_2, b_3, -⟩ ih1
  replace hI1 : Im G x (rd, nw, cr, tp, tt, sI, sT, pt, ql, fl, pe, le, i_1, il, qu, kn, ec, nu, va, st, ep, ti, ad, ob, ra, rt, ex, sa, us, tk, th, me, dr, se, sn) Φl1 := hI1
  replace b_1 : nx ≤ i_1 := b_1
  replace b_2 : i_1 ≤ il := b_2
  replace b_3 : ∀ i9, nx ≤ i9 → i9 < i_1 → kO (bA fB il i9) = 1 := b_3
  show Z p9 l e9 _ s9 m9 _ w9 t9 k9 _ G 2 0 [(0, .ref x)] [] Φl1 _ _ _
  refine z_aload_n B dX12_advanceToken_0 rfl 0 rfl ?_
  refine z_aload_n B dX12_advanceToken_1 rfl 0 rfl ?_
  obtain ⟨n_1, v_1, n_2, h_1, b_16, b_4, b_5, b_6, b_7, b_8, b_9, b_10, b_11, b_12, b_13, b_14, b_15⟩ := im0 hI1
  replace b_4 : 1 ≤ rt := b_4
  replace b_5 : rt ≤ 1024 := b_5
  replace b_6 : fl ≤ 12 := b_6
  replace b_7 : pe ≤ 24 := b_7
  replace b_8 : le ≤ 700 := b_8
  replace b_9 : qu ≤ 12 := b_9
  replace b_10 : n_1 ≤ 8 := b_10
  replace b_11 : n_2 ≤ 24 := b_11
  replace b_12 : tk ≤ 24 := b_12
  replace b_13 : il ≤ 700 := b_13
  replace b_14 : i_1 ≤ 701 := b_14
  replace b_15 : st ≤ 701 := b_15
  have h_2 : Φl1 x = some (o_ 14 [.int th, .ref (x + 1), .ref (x + 2), .int ti, .int ra, .int (nI rt), .int ex, .int ad, .ref (x + 3), .ref (x + 4), .int me, .long se, .ref (x + 5), .int (nI fl), .int dr, .long ob, .long sa, .long sn, .long us, .ref (x + 6), .ref (x + 7), .int (nI pe), .ref (x + 8), .int (nI le), .ref (x + 9), .ref (x + 10), .int (nI qu), .ref (x + 11), .ref (x + 12), .ref (x + 13), .ref (x + 14), .ref (x + 15), .ref (x + 16), .int (nI n_1), .long v_1, .ref (x + 17), .ref (x + 18), .ref (x + 19), .ref (x + 20), .ref (x + 21), .ref (x + 22), .int (nI n_2), .ref (x + 23), .ref (x + 24), .int (nI tk), .ref (x + 25), .int (nI il), .int (nI i_1), .int ec, .int ep, .int kn, .int (nI st), .int nu, .long va]) := h_1
  refine z_get (ref := "FlowExporterModel") (C := RX12) (T := TX12) (N := 54) (ci := 14) (v := .int (nI i_1)) B hu_X12_advanceToken_X12 rfl 47 (Nat.le_of_ble_eq_true rfl) hv_X12_advanceToken_458 rfl h_2 rfl dX12_advanceToken_2 ?_
  have h_3 : Φl1 (x + 25) = some (ab_ G 700 fB) := ((hF1 (x + 25) fq_1182).trans hc0)
  refine z_callV (As := [.int (nI i_1)]) (rest := []) B (r_byteAt G l Φl1 sz x rd nw cr tp tt sI sT pt ql fl pe le i_1 il qu kn ec nu va st ep ti ad ob ra rt ex sa us tk th me dr se sn fB i_1 hx hI1 h_3 (show i_1 ≤ 701 by omega) hnw) (cwV 1 B.1.2.2.2.2 gX12_advanceToken_X12_byteAt rfl rfl rfl (by decide +kernel) ⟨Nat.le_of_ble_eq_true rfl, Nat.le_of_ble_eq_true rfl⟩) h_2 rfl rfl rfl rfl (Nat.le_of_ble_eq_true rfl) dX12_advanceToken_5 ⟨Nat.le_of_ble_eq_true rfl, Nat.le_of_ble_eq_true rfl⟩ (fun r_1 Φ1 sz1 st1 hp1 hs1 => ?_)
  obtain ⟨rfl, hq1, hI2, hF2⟩ := hp1
  subst sz1
  replace hs1 : st1 = [.int (bA fB il i_1)] := hs1
  subst st1
  replace hI2 : Im G x (rd, nw, cr, tp, tt, sI, sT, pt, ql, fl, pe, le, i_1, il, qu, kn, ec, nu, va, st, ep, ti, ad, ob, ra, rt, ex, sa, us, tk, th, me, dr, se, sn) Φ1 := hI2
  refine z_bipush (v := 32) B dX12_advanceToken_8 rfl ?_
  refine z_icmp_eq (tgt := 26) B dX12_advanceToken_10 rfl (fun c_1 => ?_) (fun c_1 => ?_)
  · have e_1 := kO_1.mpr (Or.inl c_1)
    have b_17 := bA_k (by omega) e_1
    refine z_aload_n B dX12_advanceToken_26 rfl 0 rfl ?_
    refine z_dup B dX12_advanceToken_27 rfl ?_
    have h_4 : Φ1 x = some (o_ 14 [.int th, .ref (x + 1), .ref (x + 2), .int ti, .int ra, .int (nI rt), .int ex, .int ad, .ref (x + 3), .ref (x + 4), .int me, .long se, .ref (x + 5), .int (nI fl), .int dr, .long ob, .long sa, .long sn, .long us, .ref (x + 6), .ref (x + 7), .int (nI pe), .ref (x + 8), .int (nI le), .ref (x + 9), .ref (x + 10), .int (nI qu), .ref (x + 11), .ref (x + 12), .ref (x + 13), .ref (x + 14), .ref (x + 15), .ref (x + 16), .int (nI n_1), .long v_1, .ref (x + 17), .ref (x + 18), .ref (x + 19), .ref (x + 20), .ref (x + 21), .ref (x + 22), .int (nI n_2), .ref (x + 23), .ref (x + 24), .int (nI tk), .ref (x + 25), .int (nI il), .int (nI i_1), .int ec, .int ep, .int kn, .int (nI st), .int nu, .long va]) := ((hF2 x (fun j9 h8 h7 => (show False from h7).elim)).trans h_2)
    refine z_get (ref := "FlowExporterModel") (C := RX12) (T := TX12) (N := 54) (ci := 14) (v := .int (nI i_1)) B hu_X12_advanceToken_X12 rfl 47 (Nat.le_of_ble_eq_true rfl) hv_X12_advanceToken_458 rfl h_4 rfl dX12_advanceToken_28 ?_
    refine z_iconst (v := 1) B dX12_advanceToken_31 rfl ?_
    refine z_iadd B dX12_advanceToken_32 ?_
    refine z_top (st1 := [.int (nI (i_1 + 1)), .ref x]) (congrArg (fun w9 : Int32 => ([.int w9, .ref x] : List Value)) (nI_add i_1 1)) ?_
    refine z_put (ref := "FlowExporterModel") (C := RX12) (T := TX12) (N := 54) (ci := 14) (v := .int (nI (i_1 + 1))) B hu_X12_advanceToken_X12 tyX12 tyX12_ok nmX12 rfl 47 (Nat.le_of_ble_eq_true rfl) hv_X12_advanceToken_458 rfl (Or.inl rfl) h_4 hx rfl rfl (Nat.le_of_ble_eq_true rfl) dX12_advanceToken_33 (fun Φ2 hΦ1 => ?_)
    have h_5 : Φ2 x = some (o_ 14 [.int th, .ref (x + 1), .ref (x + 2), .int ti, .int ra, .int (nI rt), .int ex, .int ad, .ref (x + 3), .ref (x + 4), .int me, .long se, .ref (x + 5), .int (nI fl), .int dr, .long ob, .long sa, .long sn, .long us, .ref (x + 6), .ref (x + 7), .int (nI pe), .ref (x + 8), .int (nI le), .ref (x + 9), .ref (x + 10), .int (nI qu), .ref (x + 11), .ref (x + 12), .ref (x + 13), .ref (x + 14), .ref (x + 15), .ref (x + 16), .int (nI n_1), .long v_1, .ref (x + 17), .ref (x + 18), .ref (x + 19), .ref (x + 20), .ref (x + 21), .ref (x + 22), .int (nI n_2), .ref (x + 23), .ref (x + 24), .int (nI tk), .ref (x + 25), .int (nI il), .int (nI (i_1 + 1)), .int ec, .int ep, .int kn, .int (nI st), .int nu, .long va]) := fset_at hΦ1
    have hI3 : Im G x (rd, nw, cr, tp, tt, sI, sT, pt, ql, fl, pe, le, i_1 + 1, il, qu, kn, ec, nu, va, st, ep, ti, ad, ob, ra, rt, ex, sa, us, tk, th, me, dr, se, sn) Φ2 := Im.put0 hI2 hΦ1 ⟨n_1, v_1, n_2, rfl, b_16, b_4, b_5, b_6, b_7, b_8, b_9, b_10, b_11, b_12, b_13, (show (i_1 + 1) ≤ 701 by omega), b_15⟩
    refine z_goto (tgt := 0) B dX12_advanceToken_36 rfl ?_
    refine z_lv [0] rfl ?_
    exact ih1 (i_1 + 1) Φ2 (show il - (i_1 + 1) < il - i_1 by omega) ⟨hI3, (fun b9 h9 => ((fset_fr hΦ1 (fun h8 => h9 (0) h8 (show 0 = 0 by decide))).trans ((hF2 b9 (fun j9 h8 h7 => (show False from h7).elim)).trans ((hF1 b9 h9).trans rfl)))), (show nx ≤ (i_1 + 1) by omega), (show (i_1 + 1) ≤ il by omega), (no_b b_3 ⟨e_1, by omega⟩), trivial⟩
  · refine z_aload_n B dX12_advanceToken_13 rfl 0 rfl ?_
    refine z_aload_n B dX12_advanceToken_14 rfl 0 rfl ?_
    have h_6 : Φ1 x = some (o_ 14 [.int th, .ref (x + 1), .ref (x + 2), .int ti, .int ra, .int (nI rt), .int ex, .int ad, .ref (x + 3), .ref (x + 4), .int me, .long se, .ref (x + 5), .int (nI fl), .int dr, .long ob, .long sa, .long sn, .long us, .ref (x + 6), .ref (x + 7), .int (nI pe), .ref (x + 8), .int (nI le), .ref (x + 9), .ref (x + 10), .int (nI qu), .ref (x + 11), .ref (x + 12), .ref (x + 13), .ref (x + 14), .ref (x + 15), .ref (x + 16), .int (nI n_1), .long v_1, .ref (x + 17), .ref (x + 18), .ref (x + 19), .ref (x + 20), .ref (x + 21), .ref (x + 22), .int (nI n_2), .ref (x + 23), .ref (x + 24), .int (nI tk), .ref (x + 25), .int (nI il), .int (nI i_1), .int ec, .int ep, .int kn, .int (nI st), .int nu, .long va]) := ((hF2 x (fun j9 h8 h7 => (show False from h7).elim)).trans h_2)
    refine z_get (ref := "FlowExporterModel") (C := RX12) (T := TX12) (N := 54) (ci := 14) (v := .int (nI i_1)) B hu_X12_advanceToken_X12 rfl 47 (Nat.le_of_ble_eq_true rfl) hv_X12_advanceToken_458 rfl h_6 rfl dX12_advanceToken_15 ?_
    have h_7 : Φ1 (x + 25) = some (ab_ G 700 fB) := ((hF2 (x + 25) (fun j9 h8 h7 => (show False from h7).elim)).trans h_3)
    refine z_callV (As := [.int (nI i_1)]) (rest := []) B (r_byteAt G l Φ1 sz x rd nw cr tp tt sI sT pt ql fl pe le i_1 il qu kn ec nu va st ep ti ad ob ra rt ex sa us tk th me dr se sn fB i_1 hx hI2 h_7 (show i_1 ≤ 701 by omega) hnw) (cwV 1 B.1.2.2.2.2 gX12_advanceToken_X12_byteAt rfl rfl rfl (by decide +kernel) ⟨Nat.le_of_ble_eq_true rfl, Nat.le_of_ble_eq_true rfl⟩) h_6 rfl rfl rfl rfl (Nat.le_of_ble_eq_true rfl) dX12_advanceToken_18 ⟨Nat.le_of_ble_eq_true rfl, Nat.le_of_ble_eq_true rfl⟩ (fun r_2 Φ3 sz2 st2 hp2 hs2 => ?_)
    obtain ⟨rfl, hq2, hI4, hF3⟩ := hp2
    subst sz2
    replace hs2 : st2 = [.int (bA fB il i_1)] := hs2
    subst st2
    replace hI4 : Im G x (rd, nw, cr, tp, tt, sI, sT, pt, ql, fl, pe, le, i_1, il, qu, kn, ec, nu, va, st, ep, ti, ad, ob, ra, rt, ex, sa, us, tk, th, me, dr, se, sn) Φ3 := hI4
    refine z_bipush (v := 10) B dX12_advanceToken_21 rfl ?_
    refine z_icmp_ne (tgt := 39) B dX12_advanceToken_23 rfl (fun c_2 => ?_) (fun c_2 => ?_)
    · have e_2 : ¬ kO (bA fB il i_1) = 1 := fun h9 => (kO_1.mp h9).elim c_1 c_2
      refine z_aload_n B dX12_advanceToken_39 rfl 0 rfl ?_
      refine z_aload_n B dX12_advanceToken_40 rfl 0 rfl ?_
      have h_8 : Φ3 x = some (o_ 14 [.int th, .ref (x + 1), .ref (x + 2), .int ti, .int ra, .int (nI rt), .int ex, .int ad, .ref (x + 3), .ref (x + 4), .int me, .long se, .ref (x + 5), .int (nI fl), .int dr, .long ob, .long sa, .long sn, .long us, .ref (x + 6), .ref (x + 7), .int (nI pe), .ref (x + 8), .int (nI le), .ref (x + 9), .ref (x + 10), .int (nI qu), .ref (x + 11), .ref (x + 12), .ref (x + 13), .ref (x + 14), .ref (x + 15), .ref (x + 16), .int (nI n_1), .long v_1, .ref (x + 17), .ref (x + 18), .ref (x + 19), .ref (x + 20), .ref (x + 21), .ref (x + 22), .int (nI n_2), .ref (x + 23), .ref (x + 24), .int (nI tk), .ref (x + 25), .int (nI il), .int (nI i_1), .int ec, .int ep, .int kn, .int (nI st), .int nu, .long va]) := ((hF3 x (fun j9 h8 h7 => (show False from h7).elim)).trans h_6)
      refine z_get (ref := "FlowExporterModel") (C := RX12) (T := TX12) (N := 54) (ci := 14) (v := .int (nI i_1)) B hu_X12_advanceToken_X12 rfl 47 (Nat.le_of_ble_eq_true rfl) hv_X12_advanceToken_458 rfl h_8 rfl dX12_advanceToken_41 ?_
      refine z_put (ref := "FlowExporterModel") (C := RX12) (T := TX12) (N := 54) (ci := 14) (v := .int (nI i_1)) B hu_X12_advanceToken_X12 tyX12 tyX12_ok nmX12 rfl 51 (Nat.le_of_ble_eq_true rfl) hv_X12_advanceToken_464 rfl (Or.inl rfl) h_8 hx rfl rfl (Nat.le_of_ble_eq_true rfl) dX12_advanceToken_44 (fun Φ4 hΦ2 => ?_)
      have h_9 : Φ4 x = some (o_ 14 [.int th, .ref (x + 1), .ref (x + 2), .int ti, .int ra, .int (nI rt), .int ex, .int ad, .ref (x + 3), .ref (x + 4), .int me, .long se, .ref (x + 5), .int (nI fl), .int dr, .long ob, .long sa, .long sn, .long us, .ref (x + 6), .ref (x + 7), .int (nI pe), .ref (x + 8), .int (nI le), .ref (x + 9), .ref (x + 10), .int (nI qu), .ref (x + 11), .ref (x + 12), .ref (x + 13), .ref (x + 14), .ref (x + 15), .ref (x + 16), .int (nI n_1), .long v_1, .ref (x + 17), .ref (x + 18), .ref (x + 19), .ref (x + 20), .ref (x + 21), .ref (x + 22), .int (nI n_2), .ref (x + 23), .ref (x + 24), .int (nI tk), .ref (x + 25), .int (nI il), .int (nI i_1), .int ec, .int ep, .int kn, .int (nI i_1), .int nu, .long va]) := fset_at hΦ2
      have hI5 : Im G x (rd, nw, cr, tp, tt, sI, sT, pt, ql, fl, pe, le, i_1, il, qu, kn, ec, nu, va, i_1, ep, ti, ad, ob, ra, rt, ex, sa, us, tk, th, me, dr, se, sn) Φ4 := Im.put0 hI4 hΦ2 ⟨n_1, v_1, n_2, rfl, b_16, b_4, b_5, b_6, b_7, b_8, b_9, b_10, b_11, b_12, b_13, b_14, b_14⟩
      refine z_aload_n B dX12_advanceToken_47 rfl 0 rfl ?_
      refine z_lconst (v := 0) B dX12_advanceToken_48 rfl ?_
      refine z_put (ref := "FlowExporterModel") (C := RX12) (T := TX12) (N := 54) (ci := 14) (v := .long 0) B hu_X12_advanceToken_X12 tyX12 tyX12_ok nmX12 rfl 53 (Nat.le_of_ble_eq_true rfl) hv_X12_advanceToken_467 rfl (Or.inl rfl) h_9 hx rfl rfl (Nat.le_of_ble_eq_true rfl) dX12_advanceToken_49 (fun Φ5 hΦ3 => ?_)
      have h_10 : Φ5 x = some (o_ 14 [.int th, .ref (x + 1), .ref (x + 2), .int ti, .int ra, .int (nI rt), .int ex, .int ad, .ref (x + 3), .ref (x + 4), .int me, .long se, .ref (x + 5), .int (nI fl), .int dr, .long ob, .long sa, .long sn, .long us, .ref (x + 6), .ref (x + 7), .int (nI pe), .ref (x + 8), .int (nI le), .ref (x + 9), .ref (x + 10), .int (nI qu), .ref (x + 11), .ref (x + 12), .ref (x + 13), .ref (x + 14), .ref (x + 15), .ref (x + 16), .int (nI n_1), .long v_1, .ref (x + 17), .ref (x + 18), .ref (x + 19), .ref (x + 20), .ref (x + 21), .ref (x + 22), .int (nI n_2), .ref (x + 23), .ref (x + 24), .int (nI tk), .ref (x + 25), .int (nI il), .int (nI i_1), .int ec, .int ep, .int kn, .int (nI i_1), .int nu, .long 0]) := fset_at hΦ3
      have hI6 : Im G x (rd, nw, cr, tp, tt, sI, sT, pt, ql, fl, pe, le, i_1, il, qu, kn, ec, nu, 0, i_1, ep, ti, ad, ob, ra, rt, ex, sa, us, tk, th, me, dr, se, sn) Φ5 := Im.put0 hI5 hΦ3 ⟨n_1, v_1, n_2, rfl, b_16, b_4, b_5, b_6, b_7, b_8, b_9, b_10, b_11, b_12, b_13, b_14, b_14⟩
      refine z_aload_n B dX12_advanceToken_52 rfl 0 rfl ?_
      refine z_aload_n B dX12_advanceToken_53 rfl 0 rfl ?_
      refine z_get (ref := "FlowExporterModel") (C := RX12) (T := TX12) (N := 54) (ci := 14) (v := .int (nI i_1)) B hu_X12_advanceToken_X12 rfl 51 (Nat.le_of_ble_eq_true rfl) hv_X12_advanceToken_464 rfl h_10 rfl dX12_advanceToken_54 ?_
      have h_11 : Φ5 (x + 25) = some (ab_ G 700 fB) := ((fset_fr hΦ3 (ne_off (x := x) (i := 25) (j := 0) rfl)).trans ((fset_fr hΦ2 (ne_off (x := x) (i := 25) (j := 0) rfl)).trans ((hF3 (x + 25) (fun j9 h8 h7 => (show False from h7).elim)).trans h_7)))
      refine z_callV (As := [.int (nI i_1)]) (rest := []) B (r_byteAt G l Φ5 sz x rd nw cr tp tt sI sT pt ql fl pe le i_1 il qu kn ec nu 0 i_1 ep ti ad ob ra rt ex sa us tk th me dr se sn fB i_1 hx hI6 h_11 (show i_1 ≤ 701 by omega) hnw) (cwV 1 B.1.2.2.2.2 gX12_advanceToken_X12_byteAt rfl rfl rfl (by decide +kernel) ⟨Nat.le_of_ble_eq_true rfl, Nat.le_of_ble_eq_true rfl⟩) h_10 rfl rfl rfl rfl (Nat.le_of_ble_eq_true rfl) dX12_advanceToken_57 ⟨Nat.le_of_ble_eq_true rfl, Nat.le_of_ble_eq_true rfl⟩ (fun r_3 Φ6 sz3 st3 hp3 hs3 => ?_)
      obtain ⟨rfl, hq3, hI7, hF4⟩ := hp3
      subst sz3
      replace hs3 : st3 = [.int (bA fB il i_1)] := hs3
      subst st3
      replace hI7 : Im G x (rd, nw, cr, tp, tt, sI, sT, pt, ql, fl, pe, le, i_1, il, qu, kn, ec, nu, 0, i_1, ep, ti, ad, ob, ra, rt, ex, sa, us, tk, th, me, dr, se, sn) Φ6 := hI7
      refine z_istore_n (lv' := [(1, .int (bA fB il i_1)), (0, .ref x)]) B dX12_advanceToken_60 rfl (Nat.le_of_ble_eq_true rfl) rfl ?_
      refine z_aload_n B dX12_advanceToken_61 rfl 1 rfl ?_
      refine z_iload_n B dX12_advanceToken_62 rfl 0 rfl ?_
      refine z_iconst (v := (-1)) B dX12_advanceToken_63 rfl ?_
      refine z_icmp_ne (tgt := 71) B dX12_advanceToken_64 rfl (fun c_3 => ?_) (fun c_3 => ?_)
      · have e_3 : ¬ kO (bA fB il i_1) = 0 := fun h9 => c_3 (kO_0.mp h9)
        refine z_iload_n B dX12_advanceToken_71 rfl 0 rfl ?_
        refine z_callS (As := [.int (bA fB il i_1)]) (rest := [.ref x]) B (r_isLetter G l Φ6 sz x rd nw cr tp tt sI sT pt ql fl pe le i_1 il qu kn ec nu 0 i_1 ep ti ad ob ra rt ex sa us tk th me dr se sn (bA fB il i_1) hx hI7 hnw) (va_cwS 1 B.1.2.2.2.2 gX12_advanceToken_X12_isLetter rfl rfl rfl (by decide +kernel) ⟨Nat.le_of_ble_eq_true rfl, Nat.le_of_ble_eq_true rfl⟩) rfl rfl (Nat.le_of_ble_eq_true rfl) dX12_advanceToken_72 ⟨Nat.le_of_ble_eq_true rfl, Nat.le_of_ble_eq_true rfl⟩ (fun r_4 Φ7 sz4 st4 hp4 hs4 => ?_)
        obtain ⟨ha1, hq4, hI8, hF5⟩ := hp4
        subst sz4
        replace hI8 : Im G x (rd, nw, cr, tp, tt, sI, sT, pt, ql, fl, pe, le, i_1, il, qu, kn, ec, nu, 0, i_1, ep, ti, ad, ob, ra, rt, ex, sa, us, tk, th, me, dr, se, sn) Φ7 := hI8
        rcases ha1 with ⟨rfl, hL1⟩ | ⟨rfl, hL1⟩
        · replace hs4 : st4 = [.int 0, .ref x] := hs4
          subst st4
          replace hL1 : ¬ kO (bA fB il i_1) = 2 := hL1
          refine z_if_eq (tgt := 82) B dX12_advanceToken_75 rfl (fun c_4 => ?_) (fun h9 => absurd (by decide) h9)
          refine z_iload_n B dX12_advanceToken_82 rfl 0 rfl ?_
          refine z_callS (As := [.int (bA fB il i_1)]) (rest := [.ref x]) B (r_isDigit G l Φ7 sz x rd nw cr tp tt sI sT pt ql fl pe le i_1 il qu kn ec nu 0 i_1 ep ti ad ob ra rt ex sa us tk th me dr se sn (bA fB il i_1) hx hI8 hnw) (va_cwS 1 B.1.2.2.2.2 gX12_advanceToken_X12_isDigit rfl rfl rfl (by decide +kernel) ⟨Nat.le_of_ble_eq_true rfl, Nat.le_of_ble_eq_true rfl⟩) rfl rfl (Nat.le_of_ble_eq_true rfl) dX12_advanceToken_83 ⟨Nat.le_of_ble_eq_true rfl, Nat.le_of_ble_eq_true rfl⟩ (fun r_5 Φ8 sz5 st5 hp5 hs5 => ?_)
          obtain ⟨ha2, hq5, hI9, hF6⟩ := hp5
          subst sz5
          replace hI9 : Im G x (rd, nw, cr, tp, tt, sI, sT, pt, ql, fl, pe, le, i_1, il, qu, kn, ec, nu, 0, i_1, ep, ti, ad, ob, ra, rt, ex, sa, us, tk, th, me, dr, se, sn) Φ8 := hI9
          rcases ha2 with ⟨rfl, hL2⟩ | ⟨rfl, hL2⟩
          · replace hs5 : st5 = [.int 0, .ref x] := hs5
            subst st5
            replace hL2 : ¬ kO (bA fB il i_1) = 3 := hL2
            refine z_if_eq (tgt := 93) B dX12_advanceToken_86 rfl (fun c_5 => ?_) (fun h9 => absurd (by decide) h9)
            refine z_iload_n B dX12_advanceToken_93 rfl 0 rfl ?_
            refine z_bipush (v := 59) B dX12_advanceToken_94 rfl ?_
            refine z_icmp_ne (tgt := 103) B dX12_advanceToken_96 rfl (fun c_6 => ?_) (fun c_6 => ?_)
            · have e_4 : kO (bA fB il i_1) = 5 := kO_5 e_3 e_2 hL1 hL2 c_6
              refine z_iconst (v := 4) B dX12_advanceToken_103 rfl ?_
              have h_12 : Φ8 x = some (o_ 14 [.int th, .ref (x + 1), .ref (x + 2), .int ti, .int ra, .int (nI rt), .int ex, .int ad, .ref (x + 3), .ref (x + 4), .int me, .long se, .ref (x + 5), .int (nI fl), .int dr, .long ob, .long sa, .long sn, .long us, .ref (x + 6), .ref (x + 7), .int (nI pe), .ref (x + 8), .int (nI le), .ref (x + 9), .ref (x + 10), .int (nI qu), .ref (x + 11), .ref (x + 12), .ref (x + 13), .ref (x + 14), .ref (x + 15), .ref (x + 16), .int (nI n_1), .long v_1, .ref (x + 17), .ref (x + 18), .ref (x + 19), .ref (x + 20), .ref (x + 21), .ref (x + 22), .int (nI n_2), .ref (x + 23), .ref (x + 24), .int (nI tk), .ref (x + 25), .int (nI il), .int (nI i_1), .int ec, .int ep, .int kn, .int (nI i_1), .int nu, .long 0]) := ((hF6 x (fun j9 h8 h7 => (show False from h7).elim)).trans ((hF5 x (fun j9 h8 h7 => (show False from h7).elim)).trans ((hF4 x (fun j9 h8 h7 => (show False from h7).elim)).trans h_10)))
              refine z_put (ref := "FlowExporterModel") (C := RX12) (T := TX12) (N := 54) (ci := 14) (v := .int 4) B hu_X12_advanceToken_X12 tyX12 tyX12_ok nmX12 rfl 50 (Nat.le_of_ble_eq_true rfl) hv_X12_advanceToken_476 rfl (Or.inl rfl) h_12 hx rfl rfl (Nat.le_of_ble_eq_true rfl) dX12_advanceToken_104 (fun Φ9 hΦ4 => ?_)
              have h_13 : Φ9 x = some (o_ 14 [.int th, .ref (x + 1), .ref (x + 2), .int ti, .int ra, .int (nI rt), .int ex, .int ad, .ref (x + 3), .ref (x + 4), .int me, .long se, .ref (x + 5), .int (nI fl), .int dr, .long ob, .long sa, .long sn, .long us, .ref (x + 6), .ref (x + 7), .int (nI pe), .ref (x + 8), .int (nI le), .ref (x + 9), .ref (x + 10), .int (nI qu), .ref (x + 11), .ref (x + 12), .ref (x + 13), .ref (x + 14), .ref (x + 15), .ref (x + 16), .int (nI n_1), .long v_1, .ref (x + 17), .ref (x + 18), .ref (x + 19), .ref (x + 20), .ref (x + 21), .ref (x + 22), .int (nI n_2), .ref (x + 23), .ref (x + 24), .int (nI tk), .ref (x + 25), .int (nI il), .int (nI i_1), .int ec, .int ep, .int 4, .int (nI i_1), .int nu, .long 0]) := fset_at hΦ4
              have hI10 : Im G x (rd, nw, cr, tp, tt, sI, sT, pt, ql, fl, pe, le, i_1, il, qu, 4, ec, nu, 0, i_1, ep, ti, ad, ob, ra, rt, ex, sa, us, tk, th, me, dr, se, sn) Φ9 := Im.put0 hI9 hΦ4 ⟨n_1, v_1, n_2, rfl, b_16, b_4, b_5, b_6, b_7, b_8, b_9, b_10, b_11, b_12, b_13, b_14, b_14⟩
              refine z_aload_n B dX12_advanceToken_107 rfl 1 rfl ?_
              refine z_get (ref := "FlowExporterModel") (C := RX12) (T := TX12) (N := 54) (ci := 14) (v := .int 4) B hu_X12_advanceToken_X12 rfl 50 (Nat.le_of_ble_eq_true rfl) hv_X12_advanceToken_476 rfl h_13 rfl dX12_advanceToken_108 ?_
              refine z_iconst (v := 3) B dX12_advanceToken_111 rfl ?_
              refine z_icmp_eq (tgt := 123) B dX12_advanceToken_112 rfl (fun h9 => absurd h9 (by decide)) (fun c_7 => ?_)
              refine z_aload_n B dX12_advanceToken_115 rfl 1 rfl ?_
              refine z_get (ref := "FlowExporterModel") (C := RX12) (T := TX12) (N := 54) (ci := 14) (v := .int 4) B hu_X12_advanceToken_X12 rfl 50 (Nat.le_of_ble_eq_true rfl) hv_X12_advanceToken_476 rfl h_13 rfl dX12_advanceToken_116 ?_
              refine z_iconst (v := 4) B dX12_advanceToken_119 rfl ?_
              refine z_icmp_ne (tgt := 133) B dX12_advanceToken_120 rfl (fun h9 => absurd (by decide) h9) (fun c_8 => ?_)
              refine z_aload_n B dX12_advanceToken_123 rfl 1 rfl ?_
              refine z_dup B dX12_advanceToken_124 rfl ?_
              refine z_get (ref := "FlowExporterModel") (C := RX12) (T := TX12) (N := 54) (ci := 14) (v := .int (nI i_1)) B hu_X12_advanceToken_X12 rfl 47 (Nat.le_of_ble_eq_true rfl) hv_X12_advanceToken_458 rfl h_13 rfl dX12_advanceToken_125 ?_
              refine z_iconst (v := 1) B dX12_advanceToken_128 rfl ?_
              refine z_iadd B dX12_advanceToken_129 ?_
              refine z_top (st1 := [.int (nI (i_1 + 1)), .ref x]) (congrArg (fun w9 : Int32 => ([.int w9, .ref x] : List Value)) (nI_add i_1 1)) ?_
              refine z_put (ref := "FlowExporterModel") (C := RX12) (T := TX12) (N := 54) (ci := 14) (v := .int (nI (i_1 + 1))) B hu_X12_advanceToken_X12 tyX12 tyX12_ok nmX12 rfl 47 (Nat.le_of_ble_eq_true rfl) hv_X12_advanceToken_458 rfl (Or.inl rfl) h_13 hx rfl rfl (Nat.le_of_ble_eq_true rfl) dX12_advanceToken_130 (fun Φ10 hΦ5 => ?_)
              have h_14 : Φ10 x = some (o_ 14 [.int th, .ref (x + 1), .ref (x + 2), .int ti, .int ra, .int (nI rt), .int ex, .int ad, .ref (x + 3), .ref (x + 4), .int me, .long se, .ref (x + 5), .int (nI fl), .int dr, .long ob, .long sa, .long sn, .long us, .ref (x + 6), .ref (x + 7), .int (nI pe), .ref (x + 8), .int (nI le), .ref (x + 9), .ref (x + 10), .int (nI qu), .ref (x + 11), .ref (x + 12), .ref (x + 13), .ref (x + 14), .ref (x + 15), .ref (x + 16), .int (nI n_1), .long v_1, .ref (x + 17), .ref (x + 18), .ref (x + 19), .ref (x + 20), .ref (x + 21), .ref (x + 22), .int (nI n_2), .ref (x + 23), .ref (x + 24), .int (nI tk), .ref (x + 25), .int (nI il), .int (nI (i_1 + 1)), .int ec, .int ep, .int 4, .int (nI i_1), .int nu, .long 0]) := fset_at hΦ5
              have hI11 : Im G x (rd, nw, cr, tp, tt, sI, sT, pt, ql, fl, pe, le, i_1 + 1, il, qu, 4, ec, nu, 0, i_1, ep, ti, ad, ob, ra, rt, ex, sa, us, tk, th, me, dr, se, sn) Φ10 := Im.put0 hI10 hΦ5 ⟨n_1, v_1, n_2, rfl, b_16, b_4, b_5, b_6, b_7, b_8, b_9, b_10, b_11, b_12, b_13, (show (i_1 + 1) ≤ 701 by omega), b_14⟩
              refine z_aload_n B dX12_advanceToken_133 rfl 1 rfl ?_
              refine z_get (ref := "FlowExporterModel") (C := RX12) (T := TX12) (N := 54) (ci := 14) (v := .int 4) B hu_X12_advanceToken_X12 rfl 50 (Nat.le_of_ble_eq_true rfl) hv_X12_advanceToken_476 rfl h_14 rfl dX12_advanceToken_134 ?_
              refine z_iconst (v := 1) B dX12_advanceToken_137 rfl ?_
              refine z_icmp_ne (tgt := 208) B dX12_advanceToken_138 rfl (fun c_9 => ?_) (fun h9 => absurd h9 (by decide))
              refine z_aload_n B dX12_advanceToken_208 rfl 1 rfl ?_
              refine z_get (ref := "FlowExporterModel") (C := RX12) (T := TX12) (N := 54) (ci := 14) (v := .int 4) B hu_X12_advanceToken_X12 rfl 50 (Nat.le_of_ble_eq_true rfl) hv_X12_advanceToken_476 rfl h_14 rfl dX12_advanceToken_209 ?_
              refine z_iconst (v := 2) B dX12_advanceToken_212 rfl ?_
              refine z_icmp_ne (tgt := 283) B dX12_advanceToken_213 rfl (fun c_10 => ?_) (fun h9 => absurd h9 (by decide))
              refine z_aload_n B dX12_advanceToken_283 rfl 1 rfl ?_
              refine z_get (ref := "FlowExporterModel") (C := RX12) (T := TX12) (N := 54) (ci := 14) (v := .int 4) B hu_X12_advanceToken_X12 rfl 50 (Nat.le_of_ble_eq_true rfl) hv_X12_advanceToken_476 rfl h_14 rfl dX12_advanceToken_284 ?_
              refine z_iconst (v := 1) B dX12_advanceToken_287 rfl ?_
              refine z_icmp_ne (tgt := 305) B dX12_advanceToken_288 rfl (fun c_11 => ?_) (fun h9 => absurd h9 (by decide))
              refine z_aload_n B dX12_advanceToken_305 rfl 1 rfl ?_
              refine z_get (ref := "FlowExporterModel") (C := RX12) (T := TX12) (N := 54) (ci := 14) (v := .int 4) B hu_X12_advanceToken_X12 rfl 50 (Nat.le_of_ble_eq_true rfl) hv_X12_advanceToken_476 rfl h_14 rfl dX12_advanceToken_306 ?_
              refine z_iconst (v := 2) B dX12_advanceToken_309 rfl ?_
              refine z_icmp_ne (tgt := 332) B dX12_advanceToken_310 rfl (fun c_12 => ?_) (fun h9 => absurd h9 (by decide))
              refine z_ret_v B dX12_advanceToken_332 ⟨rfl, rfl, ⟨i_1 + 1, 4, 0, i_1, ?_, hI11⟩, ?_⟩
              · exact (TkR.mk (k := 5) (e_4 ▸ Tk_one (by omega) b_3 (by omega)) rfl (by decide) (fun h9 => absurd h9 (by decide)) (fun h9 => absurd h9 (by decide)))
              · exact (fun b9 h9 => ((fset_fr hΦ5 (fun h8 => h9 (0) h8 (show 0 = 0 by decide))).trans ((fset_fr hΦ4 (fun h8 => h9 (0) h8 (show 0 = 0 by decide))).trans ((hF6 b9 (fun j9 h8 h7 => (show False from h7).elim)).trans ((hF5 b9 (fun j9 h8 h7 => (show False from h7).elim)).trans ((hF4 b9 (fun j9 h8 h7 => (show False from h7).elim)).trans ((fset_fr hΦ3 (fun h8 => h9 (0) h8 (show 0 = 0 by decide))).trans ((fset_fr hΦ2 (fun h8 => h9 (0) h8 (show 0 = 0 by decide))).trans ((hF3 b9 (fun j9 h8 h7 => (show False from h7).elim)).trans ((hF2 b9 (fun j9 h8 h7 => (show False from h7).elim)).trans ((hF1 b9 h9).trans rfl)))))))))))
            · have e_5 : kO (bA fB il i_1) = 4 := kO_4 c_6
              refine z_iconst (v := 3) B dX12_advanceToken_99 rfl ?_
              refine z_goto (tgt := 104) B dX12_advanceToken_100 rfl ?_
              have h_15 : Φ8 x = some (o_ 14 [.int th, .ref (x + 1), .ref (x + 2), .int ti, .int ra, .int (nI rt), .int ex, .int ad, .ref (x + 3), .ref (x + 4), .int me, .long se, .ref (x + 5), .int (nI fl), .int dr, .long ob, .long sa, .long sn, .long us, .ref (x + 6), .ref (x + 7), .int (nI pe), .ref (x + 8), .int (nI le), .ref (x + 9), .ref (x + 10), .int (nI qu), .ref (x + 11), .ref (x + 12), .ref (x + 13), .ref (x + 14), .ref (x + 15), .ref (x + 16), .int (nI n_1), .long v_1, .ref (x + 17), .ref (x + 18), .ref (x + 19), .ref (x + 20), .ref (x + 21), .ref (x + 22), .int (nI n_2), .ref (x + 23), .ref (x + 24), .int (nI tk), .ref (x + 25), .int (nI il), .int (nI i_1), .int ec, .int ep, .int kn, .int (nI i_1), .int nu, .long 0]) := ((hF6 x (fun j9 h8 h7 => (show False from h7).elim)).trans ((hF5 x (fun j9 h8 h7 => (show False from h7).elim)).trans ((hF4 x (fun j9 h8 h7 => (show False from h7).elim)).trans h_10)))
              refine z_put (ref := "FlowExporterModel") (C := RX12) (T := TX12) (N := 54) (ci := 14) (v := .int 3) B hu_X12_advanceToken_X12 tyX12 tyX12_ok nmX12 rfl 50 (Nat.le_of_ble_eq_true rfl) hv_X12_advanceToken_476 rfl (Or.inl rfl) h_15 hx rfl rfl (Nat.le_of_ble_eq_true rfl) dX12_advanceToken_104 (fun Φ11 hΦ6 => ?_)
              have h_16 : Φ11 x = some (o_ 14 [.int th, .ref (x + 1), .ref (x + 2), .int ti, .int ra, .int (nI rt), .int ex, .int ad, .ref (x + 3), .ref (x + 4), .int me, .long se, .ref (x + 5), .int (nI fl), .int dr, .long ob, .long sa, .long sn, .long us, .ref (x + 6), .ref (x + 7), .int (nI pe), .ref (x + 8), .int (nI le), .ref (x + 9), .ref (x + 10), .int (nI qu), .ref (x + 11), .ref (x + 12), .ref (x + 13), .ref (x + 14), .ref (x + 15), .ref (x + 16), .int (nI n_1), .long v_1, .ref (x + 17), .ref (x + 18), .ref (x + 19), .ref (x + 20), .ref (x + 21), .ref (x + 22), .int (nI n_2), .ref (x + 23), .ref (x + 24), .int (nI tk), .ref (x + 25), .int (nI il), .int (nI i_1), .int ec, .int ep, .int 3, .int (nI i_1), .int nu, .long 0]) := fset_at hΦ6
              have hI12 : Im G x (rd, nw, cr, tp, tt, sI, sT, pt, ql, fl, pe, le, i_1, il, qu, 3, ec, nu, 0, i_1, ep, ti, ad, ob, ra, rt, ex, sa, us, tk, th, me, dr, se, sn) Φ11 := Im.put0 hI9 hΦ6 ⟨n_1, v_1, n_2, rfl, b_16, b_4, b_5, b_6, b_7, b_8, b_9, b_10, b_11, b_12, b_13, b_14, b_14⟩
              refine z_aload_n B dX12_advanceToken_107 rfl 1 rfl ?_
              refine z_get (ref := "FlowExporterModel") (C := RX12) (T := TX12) (N := 54) (ci := 14) (v := .int 3) B hu_X12_advanceToken_X12 rfl 50 (Nat.le_of_ble_eq_true rfl) hv_X12_advanceToken_476 rfl h_16 rfl dX12_advanceToken_108 ?_
              refine z_iconst (v := 3) B dX12_advanceToken_111 rfl ?_
              refine z_icmp_eq (tgt := 123) B dX12_advanceToken_112 rfl (fun c_13 => ?_) (fun h9 => absurd (by decide) h9)
              refine z_aload_n B dX12_advanceToken_123 rfl 1 rfl ?_
              refine z_dup B dX12_advanceToken_124 rfl ?_
              refine z_get (ref := "FlowExporterModel") (C := RX12) (T := TX12) (N := 54) (ci := 14) (v := .int (nI i_1)) B hu_X12_advanceToken_X12 rfl 47 (Nat.le_of_ble_eq_true rfl) hv_X12_advanceToken_458 rfl h_16 rfl dX12_advanceToken_125 ?_
              refine z_iconst (v := 1) B dX12_advanceToken_128 rfl ?_
              refine z_iadd B dX12_advanceToken_129 ?_
              refine z_top (st1 := [.int (nI (i_1 + 1)), .ref x]) (congrArg (fun w9 : Int32 => ([.int w9, .ref x] : List Value)) (nI_add i_1 1)) ?_
              refine z_put (ref := "FlowExporterModel") (C := RX12) (T := TX12) (N := 54) (ci := 14) (v := .int (nI (i_1 + 1))) B hu_X12_advanceToken_X12 tyX12 tyX12_ok nmX12 rfl 47 (Nat.le_of_ble_eq_true rfl) hv_X12_advanceToken_458 rfl (Or.inl rfl) h_16 hx rfl rfl (Nat.le_of_ble_eq_true rfl) dX12_advanceToken_130 (fun Φ12 hΦ7 => ?_)
              have h_17 : Φ12 x = some (o_ 14 [.int th, .ref (x + 1), .ref (x + 2), .int ti, .int ra, .int (nI rt), .int ex, .int ad, .ref (x + 3), .ref (x + 4), .int me, .long se, .ref (x + 5), .int (nI fl), .int dr, .long ob, .long sa, .long sn, .long us, .ref (x + 6), .ref (x + 7), .int (nI pe), .ref (x + 8), .int (nI le), .ref (x + 9), .ref (x + 10), .int (nI qu), .ref (x + 11), .ref (x + 12), .ref (x + 13), .ref (x + 14), .ref (x + 15), .ref (x + 16), .int (nI n_1), .long v_1, .ref (x + 17), .ref (x + 18), .ref (x + 19), .ref (x + 20), .ref (x + 21), .ref (x + 22), .int (nI n_2), .ref (x + 23), .ref (x + 24), .int (nI tk), .ref (x + 25), .int (nI il), .int (nI (i_1 + 1)), .int ec, .int ep, .int 3, .int (nI i_1), .int nu, .long 0]) := fset_at hΦ7
              have hI13 : Im G x (rd, nw, cr, tp, tt, sI, sT, pt, ql, fl, pe, le, i_1 + 1, il, qu, 3, ec, nu, 0, i_1, ep, ti, ad, ob, ra, rt, ex, sa, us, tk, th, me, dr, se, sn) Φ12 := Im.put0 hI12 hΦ7 ⟨n_1, v_1, n_2, rfl, b_16, b_4, b_5, b_6, b_7, b_8, b_9, b_10, b_11, b_12, b_13, (show (i_1 + 1) ≤ 701 by omega), b_14⟩
              refine z_aload_n B dX12_advanceToken_133 rfl 1 rfl ?_
              refine z_get (ref := "FlowExporterModel") (C := RX12) (T := TX12) (N := 54) (ci := 14) (v := .int 3) B hu_X12_advanceToken_X12 rfl 50 (Nat.le_of_ble_eq_true rfl) hv_X12_advanceToken_476 rfl h_17 rfl dX12_advanceToken_134 ?_
              refine z_iconst (v := 1) B dX12_advanceToken_137 rfl ?_
              refine z_icmp_ne (tgt := 208) B dX12_advanceToken_138 rfl (fun c_14 => ?_) (fun h9 => absurd h9 (by decide))
              refine z_aload_n B dX12_advanceToken_208 rfl 1 rfl ?_
              refine z_get (ref := "FlowExporterModel") (C := RX12) (T := TX12) (N := 54) (ci := 14) (v := .int 3) B hu_X12_advanceToken_X12 rfl 50 (Nat.le_of_ble_eq_true rfl) hv_X12_advanceToken_476 rfl h_17 rfl dX12_advanceToken_209 ?_
              refine z_iconst (v := 2) B dX12_advanceToken_212 rfl ?_
              refine z_icmp_ne (tgt := 283) B dX12_advanceToken_213 rfl (fun c_15 => ?_) (fun h9 => absurd h9 (by decide))
              refine z_aload_n B dX12_advanceToken_283 rfl 1 rfl ?_
              refine z_get (ref := "FlowExporterModel") (C := RX12) (T := TX12) (N := 54) (ci := 14) (v := .int 3) B hu_X12_advanceToken_X12 rfl 50 (Nat.le_of_ble_eq_true rfl) hv_X12_advanceToken_476 rfl h_17 rfl dX12_advanceToken_284 ?_
              refine z_iconst (v := 1) B dX12_advanceToken_287 rfl ?_
              refine z_icmp_ne (tgt := 305) B dX12_advanceToken_288 rfl (fun c_16 => ?_) (fun h9 => absurd h9 (by decide))
              refine z_aload_n B dX12_advanceToken_305 rfl 1 rfl ?_
              refine z_get (ref := "FlowExporterModel") (C := RX12) (T := TX12) (N := 54) (ci := 14) (v := .int 3) B hu_X12_advanceToken_X12 rfl 50 (Nat.le_of_ble_eq_true rfl) hv_X12_advanceToken_476 rfl h_17 rfl dX12_advanceToken_306 ?_
              refine z_iconst (v := 2) B dX12_advanceToken_309 rfl ?_
              refine z_icmp_ne (tgt := 332) B dX12_advanceToken_310 rfl (fun c_17 => ?_) (fun h9 => absurd h9 (by decide))
              refine z_ret_v B dX12_advanceToken_332 ⟨rfl, rfl, ⟨i_1 + 1, 3, 0, i_1, ?_, hI13⟩, ?_⟩
              · exact (TkR.mk (k := 4) (e_5 ▸ Tk_one (by omega) b_3 (by omega)) rfl (by decide) (fun h9 => absurd h9 (by decide)) (fun h9 => absurd h9 (by decide)))
              · exact (fun b9 h9 => ((fset_fr hΦ7 (fun h8 => h9 (0) h8 (show 0 = 0 by decide))).trans ((fset_fr hΦ6 (fun h8 => h9 (0) h8 (show 0 = 0 by decide))).trans ((hF6 b9 (fun j9 h8 h7 => (show False from h7).elim)).trans ((hF5 b9 (fun j9 h8 h7 => (show False from h7).elim)).trans ((hF4 b9 (fun j9 h8 h7 => (show False from h7).elim)).trans ((fset_fr hΦ3 (fun h8 => h9 (0) h8 (show 0 = 0 by decide))).trans ((fset_fr hΦ2 (fun h8 => h9 (0) h8 (show 0 = 0 by decide))).trans ((hF3 b9 (fun j9 h8 h7 => (show False from h7).elim)).trans ((hF2 b9 (fun j9 h8 h7 => (show False from h7).elim)).trans ((hF1 b9 h9).trans rfl)))))))))))
          · replace hs5 : st5 = [.int 1, .ref x] := hs5
            subst st5
            replace hL2 : kO (bA fB il i_1) = 3 := hL2
            have b_18 := bA_k (by omega) hL2
            refine z_if_eq (tgt := 93) B dX12_advanceToken_86 rfl (fun h9 => absurd h9 (by decide)) (fun c_18 => ?_)
            refine z_iconst (v := 2) B dX12_advanceToken_89 rfl ?_
            refine z_goto (tgt := 104) B dX12_advanceToken_90 rfl ?_
            have h_18 : Φ8 x = some (o_ 14 [.int th, .ref (x + 1), .ref (x + 2), .int ti, .int ra, .int (nI rt), .int ex, .int ad, .ref (x + 3), .ref (x + 4), .int me, .long se, .ref (x + 5), .int (nI fl), .int dr, .long ob, .long sa, .long sn, .long us, .ref (x + 6), .ref (x + 7), .int (nI pe), .ref (x + 8), .int (nI le), .ref (x + 9), .ref (x + 10), .int (nI qu), .ref (x + 11), .ref (x + 12), .ref (x + 13), .ref (x + 14), .ref (x + 15), .ref (x + 16), .int (nI n_1), .long v_1, .ref (x + 17), .ref (x + 18), .ref (x + 19), .ref (x + 20), .ref (x + 21), .ref (x + 22), .int (nI n_2), .ref (x + 23), .ref (x + 24), .int (nI tk), .ref (x + 25), .int (nI il), .int (nI i_1), .int ec, .int ep, .int kn, .int (nI i_1), .int nu, .long 0]) := ((hF6 x (fun j9 h8 h7 => (show False from h7).elim)).trans ((hF5 x (fun j9 h8 h7 => (show False from h7).elim)).trans ((hF4 x (fun j9 h8 h7 => (show False from h7).elim)).trans h_10)))
            refine z_put (ref := "FlowExporterModel") (C := RX12) (T := TX12) (N := 54) (ci := 14) (v := .int 2) B hu_X12_advanceToken_X12 tyX12 tyX12_ok nmX12 rfl 50 (Nat.le_of_ble_eq_true rfl) hv_X12_advanceToken_476 rfl (Or.inl rfl) h_18 hx rfl rfl (Nat.le_of_ble_eq_true rfl) dX12_advanceToken_104 (fun Φ13 hΦ8 => ?_)
            have h_19 : Φ13 x = some (o_ 14 [.int th, .ref (x + 1), .ref (x + 2), .int ti, .int ra, .int (nI rt), .int ex, .int ad, .ref (x + 3), .ref (x + 4), .int me, .long se, .ref (x + 5), .int (nI fl), .int dr, .long ob, .long sa, .long sn, .long us, .ref (x + 6), .ref (x + 7), .int (nI pe), .ref (x + 8), .int (nI le), .ref (x + 9), .ref (x + 10), .int (nI qu), .ref (x + 11), .ref (x + 12), .ref (x + 13), .ref (x + 14), .ref (x + 15), .ref (x + 16), .int (nI n_1), .long v_1, .ref (x + 17), .ref (x + 18), .ref (x + 19), .ref (x + 20), .ref (x + 21), .ref (x + 22), .int (nI n_2), .ref (x + 23), .ref (x + 24), .int (nI tk), .ref (x + 25), .int (nI il), .int (nI i_1), .int ec, .int ep, .int 2, .int (nI i_1), .int nu, .long 0]) := fset_at hΦ8
            have hI14 : Im G x (rd, nw, cr, tp, tt, sI, sT, pt, ql, fl, pe, le, i_1, il, qu, 2, ec, nu, 0, i_1, ep, ti, ad, ob, ra, rt, ex, sa, us, tk, th, me, dr, se, sn) Φ13 := Im.put0 hI9 hΦ8 ⟨n_1, v_1, n_2, rfl, b_16, b_4, b_5, b_6, b_7, b_8, b_9, b_10, b_11, b_12, b_13, b_14, b_14⟩
            refine z_aload_n B dX12_advanceToken_107 rfl 1 rfl ?_
            refine z_get (ref := "FlowExporterModel") (C := RX12) (T := TX12) (N := 54) (ci := 14) (v := .int 2) B hu_X12_advanceToken_X12 rfl 50 (Nat.le_of_ble_eq_true rfl) hv_X12_advanceToken_476 rfl h_19 rfl dX12_advanceToken_108 ?_
            refine z_iconst (v := 3) B dX12_advanceToken_111 rfl ?_
            refine z_icmp_eq (tgt := 123) B dX12_advanceToken_112 rfl (fun h9 => absurd h9 (by decide)) (fun c_19 => ?_)
            refine z_aload_n B dX12_advanceToken_115 rfl 1 rfl ?_
            refine z_get (ref := "FlowExporterModel") (C := RX12) (T := TX12) (N := 54) (ci := 14) (v := .int 2) B hu_X12_advanceToken_X12 rfl 50 (Nat.le_of_ble_eq_true rfl) hv_X12_advanceToken_476 rfl h_19 rfl dX12_advanceToken_116 ?_
            refine z_iconst (v := 4) B dX12_advanceToken_119 rfl ?_
            refine z_icmp_ne (tgt := 133) B dX12_advanceToken_120 rfl (fun c_20 => ?_) (fun h9 => absurd h9 (by decide))
            refine z_aload_n B dX12_advanceToken_133 rfl 1 rfl ?_
            refine z_get (ref := "FlowExporterModel") (C := RX12) (T := TX12) (N := 54) (ci := 14) (v := .int 2) B hu_X12_advanceToken_X12 rfl 50 (Nat.le_of_ble_eq_true rfl) hv_X12_advanceToken_476 rfl h_19 rfl dX12_advanceToken_134 ?_
            refine z_iconst (v := 1) B dX12_advanceToken_137 rfl ?_
            refine z_icmp_ne (tgt := 208) B dX12_advanceToken_138 rfl (fun c_21 => ?_) (fun h9 => absurd h9 (by decide))
            refine z_lv [1] rfl ?_
            refine z_loop (α := Nat × Int64) (fun (a9 : Nat × Int64) Φi => Im G x (rd, nw, cr, tp, tt, sI, sT, pt, ql, fl, pe, le, a9.1, il, qu, 2, ec, nu, a9.2, i_1, ep, ti, ad, ob, ra, rt, ex, sa, us, tk, th, me, dr, se, sn) Φi ∧ Fr x (fun j9 => j9 = 0) Φ13 Φi ∧ (i_1 ≤ a9.1) ∧ (a9.1 ≤ il) ∧ (∀ i9, i_1 ≤ i9 → i9 < a9.1 → kO (bA fB il i9) = 3) ∧ (NvR (bA fB il) i_1 a9.1 a9.2) ∧ True) (fun a9 => [(0, .ref x)]) (fun a9 => il - a9.1) ?_ (i_1, 0) ⟨hI14, fun _ _ => rfl, (show i_1 ≤ i_1 by omega), (show i_1 ≤ il by omega), (fun i9 h8 h7 => absurd h7 (by omega)), NvR_0, trivial⟩
            rintro ⟨i_2, i_3⟩ Φl2 ⟨hI15, hF7, b_19, b_20, b_21, b_22, -⟩ ih2
            replace hI15 : Im G x (rd, nw, cr, tp, tt, sI, sT, pt, ql, fl, pe, le, i_2, il, qu, 2, ec, nu, i_3, i_1, ep, ti, ad, ob, ra, rt, ex, sa, us, tk, th, me, dr, se, sn) Φl2 := hI15
            replace b_19 : i_1 ≤ i_2 := b_19
            replace b_20 : i_2 ≤ il := b_20
            replace b_21 : ∀ i9, i_1 ≤ i9 → i9 < i_2 → kO (bA fB il i9) = 3 := b_21
            replace b_22 : NvR (bA fB il) i_1 i_2 i_3 := b_22
            show Z p9 l e9 _ s9 m9 _ w9 t9 k9 _ G 2 208 [(0, .ref x)] [] Φl2 _ _ _
            refine z_aload_n B dX12_advanceToken_208 rfl 0 rfl ?_
            obtain ⟨n_3, v_2, n_4, h_20, b_35, b_23, b_24, b_25, b_26, b_27, b_28, b_29, b_30, b_31, b_32, b_33, b_34⟩ := im0 hI15
            replace b_23 : 1 ≤ rt := b_23
            replace b_24 : rt ≤ 1024 := b_24
            replace b_25 : fl ≤ 12 := b_25
            replace b_26 : pe ≤ 24 := b_26
            replace b_27 : le ≤ 700 := b_27
            replace b_28 : qu ≤ 12 := b_28
            replace b_29 : n_3 ≤ 8 := b_29
            replace b_30 : n_4 ≤ 24 := b_30
            replace b_31 : tk ≤ 24 := b_31
            replace b_32 : il ≤ 700 := b_32
            replace b_33 : i_2 ≤ 701 := b_33
            replace b_34 : i_1 ≤ 701 := b_34
            have h_21 : Φl2 x = some (o_ 14 [.int th, .ref (x + 1), .ref (x + 2), .int ti, .int ra, .int (nI rt), .int ex, .int ad, .ref (x + 3), .ref (x + 4), .int me, .long se, .ref (x + 5), .int (nI fl), .int dr, .long ob, .long sa, .long sn, .long us, .ref (x + 6), .ref (x + 7), .int (nI pe), .ref (x + 8), .int (nI le), .ref (x + 9), .ref (x + 10), .int (nI qu), .ref (x + 11), .ref (x + 12), .ref (x + 13), .ref (x + 14), .ref (x + 15), .ref (x + 16), .int (nI n_3), .long v_2, .ref (x + 17), .ref (x + 18), .ref (x + 19), .ref (x + 20), .ref (x + 21), .ref (x + 22), .int (nI n_4), .ref (x + 23), .ref (x + 24), .int (nI tk), .ref (x + 25), .int (nI il), .int (nI i_2), .int ec, .int ep, .int 2, .int (nI i_1), .int nu, .long i_3]) := h_20
            refine z_get (ref := "FlowExporterModel") (C := RX12) (T := TX12) (N := 54) (ci := 14) (v := .int 2) B hu_X12_advanceToken_X12 rfl 50 (Nat.le_of_ble_eq_true rfl) hv_X12_advanceToken_476 rfl h_21 rfl dX12_advanceToken_209 ?_
            refine z_iconst (v := 2) B dX12_advanceToken_212 rfl ?_
            refine z_icmp_ne (tgt := 283) B dX12_advanceToken_213 rfl (fun h9 => absurd (by decide) h9) (fun c_22 => ?_)
            refine z_aload_n B dX12_advanceToken_216 rfl 0 rfl ?_
            refine z_aload_n B dX12_advanceToken_217 rfl 0 rfl ?_
            refine z_get (ref := "FlowExporterModel") (C := RX12) (T := TX12) (N := 54) (ci := 14) (v := .int (nI i_2)) B hu_X12_advanceToken_X12 rfl 47 (Nat.le_of_ble_eq_true rfl) hv_X12_advanceToken_458 rfl h_21 rfl dX12_advanceToken_218 ?_
            have h_22 : Φl2 (x + 25) = some (ab_ G 700 fB) := ((hF7 (x + 25) fq_1182).trans ((fset_fr hΦ8 (ne_off (x := x) (i := 25) (j := 0) rfl)).trans ((hF6 (x + 25) (fun j9 h8 h7 => (show False from h7).elim)).trans ((hF5 (x + 25) (fun j9 h8 h7 => (show False from h7).elim)).trans ((hF4 (x + 25) (fun j9 h8 h7 => (show False from h7).elim)).trans h_11)))))
            refine z_callV (As := [.int (nI i_2)]) (rest := []) B (r_byteAt G l Φl2 sz x rd nw cr tp tt sI sT pt ql fl pe le i_2 il qu 2 ec nu i_3 i_1 ep ti ad ob ra rt ex sa us tk th me dr se sn fB i_2 hx hI15 h_22 (show i_2 ≤ 701 by omega) hnw) (cwV 1 B.1.2.2.2.2 gX12_advanceToken_X12_byteAt rfl rfl rfl (by decide +kernel) ⟨Nat.le_of_ble_eq_true rfl, Nat.le_of_ble_eq_true rfl⟩) h_21 rfl rfl rfl rfl (Nat.le_of_ble_eq_true rfl) dX12_advanceToken_221 ⟨Nat.le_of_ble_eq_true rfl, Nat.le_of_ble_eq_true rfl⟩ (fun r_6 Φ14 sz6 st6 hp6 hs6 => ?_)
            obtain ⟨rfl, hq6, hI16, hF8⟩ := hp6
            subst sz6
            replace hs6 : st6 = [.int (bA fB il i_2)] := hs6
            subst st6
            replace hI16 : Im G x (rd, nw, cr, tp, tt, sI, sT, pt, ql, fl, pe, le, i_2, il, qu, 2, ec, nu, i_3, i_1, ep, ti, ad, ob, ra, rt, ex, sa, us, tk, th, me, dr, se, sn) Φ14 := hI16
            refine z_callS (As := [.int (bA fB il i_2)]) (rest := []) B (r_isDigit G l Φ14 sz x rd nw cr tp tt sI sT pt ql fl pe le i_2 il qu 2 ec nu i_3 i_1 ep ti ad ob ra rt ex sa us tk th me dr se sn (bA fB il i_2) hx hI16 hnw) (va_cwS 1 B.1.2.2.2.2 gX12_advanceToken_X12_isDigit rfl rfl rfl (by decide +kernel) ⟨Nat.le_of_ble_eq_true rfl, Nat.le_of_ble_eq_true rfl⟩) rfl rfl (Nat.le_of_ble_eq_true rfl) dX12_advanceToken_224 ⟨Nat.le_of_ble_eq_true rfl, Nat.le_of_ble_eq_true rfl⟩ (fun r_7 Φ15 sz7 st7 hp7 hs7 => ?_)
            obtain ⟨ha3, hq7, hI17, hF9⟩ := hp7
            subst sz7
            replace hI17 : Im G x (rd, nw, cr, tp, tt, sI, sT, pt, ql, fl, pe, le, i_2, il, qu, 2, ec, nu, i_3, i_1, ep, ti, ad, ob, ra, rt, ex, sa, us, tk, th, me, dr, se, sn) Φ15 := hI17
            rcases ha3 with ⟨rfl, hL3⟩ | ⟨rfl, hL3⟩
            · replace hs7 : st7 = [.int 0] := hs7
              subst st7
              replace hL3 : ¬ kO (bA fB il i_2) = 3 := hL3
              refine z_if_eq (tgt := 283) B dX12_advanceToken_227 rfl (fun c_23 => ?_) (fun h9 => absurd (by decide) h9)
              refine z_aload_n B dX12_advanceToken_283 rfl 0 rfl ?_
              have h_23 : Φ15 x = some (o_ 14 [.int th, .ref (x + 1), .ref (x + 2), .int ti, .int ra, .int (nI rt), .int ex, .int ad, .ref (x + 3), .ref (x + 4), .int me, .long se, .ref (x + 5), .int (nI fl), .int dr, .long ob, .long sa, .long sn, .long us, .ref (x + 6), .ref (x + 7), .int (nI pe), .ref (x + 8), .int (nI le), .ref (x + 9), .ref (x + 10), .int (nI qu), .ref (x + 11), .ref (x + 12), .ref (x + 13), .ref (x + 14), .ref (x + 15), .ref (x + 16), .int (nI n_3), .long v_2, .ref (x + 17), .ref (x + 18), .ref (x + 19), .ref (x + 20), .ref (x + 21), .ref (x + 22), .int (nI n_4), .ref (x + 23), .ref (x + 24), .int (nI tk), .ref (x + 25), .int (nI il), .int (nI i_2), .int ec, .int ep, .int 2, .int (nI i_1), .int nu, .long i_3]) := ((hF9 x (fun j9 h8 h7 => (show False from h7).elim)).trans ((hF8 x (fun j9 h8 h7 => (show False from h7).elim)).trans h_21))
              refine z_get (ref := "FlowExporterModel") (C := RX12) (T := TX12) (N := 54) (ci := 14) (v := .int 2) B hu_X12_advanceToken_X12 rfl 50 (Nat.le_of_ble_eq_true rfl) hv_X12_advanceToken_476 rfl h_23 rfl dX12_advanceToken_284 ?_
              refine z_iconst (v := 1) B dX12_advanceToken_287 rfl ?_
              refine z_icmp_ne (tgt := 305) B dX12_advanceToken_288 rfl (fun c_24 => ?_) (fun h9 => absurd h9 (by decide))
              refine z_aload_n B dX12_advanceToken_305 rfl 0 rfl ?_
              refine z_get (ref := "FlowExporterModel") (C := RX12) (T := TX12) (N := 54) (ci := 14) (v := .int 2) B hu_X12_advanceToken_X12 rfl 50 (Nat.le_of_ble_eq_true rfl) hv_X12_advanceToken_476 rfl h_23 rfl dX12_advanceToken_306 ?_
              refine z_iconst (v := 2) B dX12_advanceToken_309 rfl ?_
              refine z_icmp_ne (tgt := 332) B dX12_advanceToken_310 rfl (fun h9 => absurd (by decide) h9) (fun c_25 => ?_)
              refine z_aload_n B dX12_advanceToken_313 rfl 0 rfl ?_
              refine z_get (ref := "FlowExporterModel") (C := RX12) (T := TX12) (N := 54) (ci := 14) (v := .int (nI i_2)) B hu_X12_advanceToken_X12 rfl 47 (Nat.le_of_ble_eq_true rfl) hv_X12_advanceToken_458 rfl h_23 rfl dX12_advanceToken_314 ?_
              refine z_aload_n B dX12_advanceToken_317 rfl 0 rfl ?_
              refine z_get (ref := "FlowExporterModel") (C := RX12) (T := TX12) (N := 54) (ci := 14) (v := .int (nI i_1)) B hu_X12_advanceToken_X12 rfl 51 (Nat.le_of_ble_eq_true rfl) hv_X12_advanceToken_464 rfl h_23 rfl dX12_advanceToken_318 ?_
              refine z_isub B dX12_advanceToken_321 ?_
              refine z_top (st1 := [.int (nI (i_2 - i_1))]) (congrArg (fun w9 : Int32 => ([.int w9] : List Value)) (nI_sub (show i_1 ≤ i_2 by omega))) ?_
              refine z_bipush (v := 6) B dX12_advanceToken_322 rfl ?_
              refine z_icmp_le (tgt := 332) B dX12_advanceToken_324 rfl (fun c_26 => ?_) (fun c_26 => ?_)
              · have e_6 : i_2 - i_1 ≤ 6 := (nI_leI (a := i_2 - i_1) (b := 6) (by omega) (by omega)).mp c_26
                refine z_ret_v B dX12_advanceToken_332 ⟨rfl, rfl, ⟨i_2, 2, i_3, i_1, ?_, hI17⟩, ?_⟩
                · exact (TkR.mk (k := 3) (Tk_run (by omega) b_3 e_2 (by omega) (by omega) (by omega) (fun i9 h8 h7 => (b_21 i9 h8 h7).trans hL2.symm) (Or.inl (fun h9 => hL3 (h9.trans hL2))) (by omega) (by omega)) rfl (by decide) (fun h9 => absurd h9 (by decide)) (fun _ => ⟨b_22, by omega⟩))
                · exact (fun b9 h9 => ((hF9 b9 (fun j9 h8 h7 => (show False from h7).elim)).trans ((hF8 b9 (fun j9 h8 h7 => (show False from h7).elim)).trans ((hF7 b9 h9).trans ((fset_fr hΦ8 (fun h8 => h9 (0) h8 (show 0 = 0 by decide))).trans ((hF6 b9 (fun j9 h8 h7 => (show False from h7).elim)).trans ((hF5 b9 (fun j9 h8 h7 => (show False from h7).elim)).trans ((hF4 b9 (fun j9 h8 h7 => (show False from h7).elim)).trans ((fset_fr hΦ3 (fun h8 => h9 (0) h8 (show 0 = 0 by decide))).trans ((fset_fr hΦ2 (fun h8 => h9 (0) h8 (show 0 = 0 by decide))).trans ((hF3 b9 (fun j9 h8 h7 => (show False from h7).elim)).trans ((hF2 b9 (fun j9 h8 h7 => (show False from h7).elim)).trans ((hF1 b9 h9).trans rfl)))))))))))))
              · have e_7 : ¬ (i_2 - i_1 ≤ 6) := fun h9 => c_26 ((nI_leI (a := i_2 - i_1) (b := 6) (by omega) (by omega)).mpr h9)
                refine z_aload_n B dX12_advanceToken_327 rfl 0 rfl ?_
                refine z_iconst (v := 4) B dX12_advanceToken_328 rfl ?_
                refine z_put (ref := "FlowExporterModel") (C := RX12) (T := TX12) (N := 54) (ci := 14) (v := .int 4) B hu_X12_advanceToken_X12 tyX12 tyX12_ok nmX12 rfl 50 (Nat.le_of_ble_eq_true rfl) hv_X12_advanceToken_476 rfl (Or.inl rfl) h_23 hx rfl rfl (Nat.le_of_ble_eq_true rfl) dX12_advanceToken_329 (fun Φ16 hΦ9 => ?_)
                have h_24 : Φ16 x = some (o_ 14 [.int th, .ref (x + 1), .ref (x + 2), .int ti, .int ra, .int (nI rt), .int ex, .int ad, .ref (x + 3), .ref (x + 4), .int me, .long se, .ref (x + 5), .int (nI fl), .int dr, .long ob, .long sa, .long sn, .long us, .ref (x + 6), .ref (x + 7), .int (nI pe), .ref (x + 8), .int (nI le), .ref (x + 9), .ref (x + 10), .int (nI qu), .ref (x + 11), .ref (x + 12), .ref (x + 13), .ref (x + 14), .ref (x + 15), .ref (x + 16), .int (nI n_3), .long v_2, .ref (x + 17), .ref (x + 18), .ref (x + 19), .ref (x + 20), .ref (x + 21), .ref (x + 22), .int (nI n_4), .ref (x + 23), .ref (x + 24), .int (nI tk), .ref (x + 25), .int (nI il), .int (nI i_2), .int ec, .int ep, .int 4, .int (nI i_1), .int nu, .long i_3]) := fset_at hΦ9
                have hI18 : Im G x (rd, nw, cr, tp, tt, sI, sT, pt, ql, fl, pe, le, i_2, il, qu, 4, ec, nu, i_3, i_1, ep, ti, ad, ob, ra, rt, ex, sa, us, tk, th, me, dr, se, sn) Φ16 := Im.put0 hI17 hΦ9 ⟨n_3, v_2, n_4, rfl, b_35, b_23, b_24, b_25, b_26, b_27, b_28, b_29, b_30, b_31, b_32, b_33, b_34⟩
                refine z_ret_v B dX12_advanceToken_332 ⟨rfl, rfl, ⟨i_2, 4, i_3, i_1, ?_, hI18⟩, ?_⟩
                · exact (TkR.mk (k := 5) (Tk_run (by omega) b_3 e_2 (by omega) (by omega) (by omega) (fun i9 h8 h7 => (b_21 i9 h8 h7).trans hL2.symm) (Or.inl (fun h9 => hL3 (h9.trans hL2))) (by omega) (by omega)) rfl (by decide) (fun h9 => absurd h9 (by decide)) (fun h9 => absurd h9 (by decide)))
                · exact (fun b9 h9 => ((fset_fr hΦ9 (fun h8 => h9 (0) h8 (show 0 = 0 by decide))).trans ((hF9 b9 (fun j9 h8 h7 => (show False from h7).elim)).trans ((hF8 b9 (fun j9 h8 h7 => (show False from h7).elim)).trans ((hF7 b9 h9).trans ((fset_fr hΦ8 (fun h8 => h9 (0) h8 (show 0 = 0 by decide))).trans ((hF6 b9 (fun j9 h8 h7 => (show False from h7).elim)).trans ((hF5 b9 (fun j9 h8 h7 => (show False from h7).elim)).trans ((hF4 b9 (fun j9 h8 h7 => (show False from h7).elim)).trans ((fset_fr hΦ3 (fun h8 => h9 (0) h8 (show 0 = 0 by decide))).trans ((fset_fr hΦ2 (fun h8 => h9 (0) h8 (show 0 = 0 by decide))).trans ((hF3 b9 (fun j9 h8 h7 => (show False from h7).elim)).trans ((hF2 b9 (fun j9 h8 h7 => (show False from h7).elim)).trans ((hF1 b9 h9).trans rfl))))))))))))))
            · replace hs7 : st7 = [.int 1] := hs7
              subst st7
              replace hL3 : kO (bA fB il i_2) = 3 := hL3
              have b_36 := bA_k (by omega) hL3
              refine z_if_eq (tgt := 283) B dX12_advanceToken_227 rfl (fun h9 => absurd h9 (by decide)) (fun c_27 => ?_)
              refine z_aload_n B dX12_advanceToken_230 rfl 0 rfl ?_
              have h_25 : Φ15 x = some (o_ 14 [.int th, .ref (x + 1), .ref (x + 2), .int ti, .int ra, .int (nI rt), .int ex, .int ad, .ref (x + 3), .ref (x + 4), .int me, .long se, .ref (x + 5), .int (nI fl), .int dr, .long ob, .long sa, .long sn, .long us, .ref (x + 6), .ref (x + 7), .int (nI pe), .ref (x + 8), .int (nI le), .ref (x + 9), .ref (x + 10), .int (nI qu), .ref (x + 11), .ref (x + 12), .ref (x + 13), .ref (x + 14), .ref (x + 15), .ref (x + 16), .int (nI n_3), .long v_2, .ref (x + 17), .ref (x + 18), .ref (x + 19), .ref (x + 20), .ref (x + 21), .ref (x + 22), .int (nI n_4), .ref (x + 23), .ref (x + 24), .int (nI tk), .ref (x + 25), .int (nI il), .int (nI i_2), .int ec, .int ep, .int 2, .int (nI i_1), .int nu, .long i_3]) := ((hF9 x (fun j9 h8 h7 => (show False from h7).elim)).trans ((hF8 x (fun j9 h8 h7 => (show False from h7).elim)).trans h_21))
              refine z_get (ref := "FlowExporterModel") (C := RX12) (T := TX12) (N := 54) (ci := 14) (v := .int (nI i_2)) B hu_X12_advanceToken_X12 rfl 47 (Nat.le_of_ble_eq_true rfl) hv_X12_advanceToken_458 rfl h_25 rfl dX12_advanceToken_231 ?_
              refine z_aload_n B dX12_advanceToken_234 rfl 0 rfl ?_
              refine z_get (ref := "FlowExporterModel") (C := RX12) (T := TX12) (N := 54) (ci := 14) (v := .int (nI i_1)) B hu_X12_advanceToken_X12 rfl 51 (Nat.le_of_ble_eq_true rfl) hv_X12_advanceToken_464 rfl h_25 rfl dX12_advanceToken_235 ?_
              refine z_isub B dX12_advanceToken_238 ?_
              refine z_top (st1 := [.int (nI (i_2 - i_1))]) (congrArg (fun w9 : Int32 => ([.int w9] : List Value)) (nI_sub (show i_1 ≤ i_2 by omega))) ?_
              refine z_bipush (v := 6) B dX12_advanceToken_239 rfl ?_
              refine z_icmp_ge (tgt := 270) B dX12_advanceToken_241 rfl (fun c_28 => ?_) (fun c_28 => ?_)
              · have e_8 : 6 ≤ i_2 - i_1 := (nI_leI (a := 6) (b := i_2 - i_1) (by omega) (by omega)).mp c_28
                refine z_aload_n B dX12_advanceToken_270 rfl 0 rfl ?_
                refine z_dup B dX12_advanceToken_271 rfl ?_
                refine z_get (ref := "FlowExporterModel") (C := RX12) (T := TX12) (N := 54) (ci := 14) (v := .int (nI i_2)) B hu_X12_advanceToken_X12 rfl 47 (Nat.le_of_ble_eq_true rfl) hv_X12_advanceToken_458 rfl h_25 rfl dX12_advanceToken_272 ?_
                refine z_iconst (v := 1) B dX12_advanceToken_275 rfl ?_
                refine z_iadd B dX12_advanceToken_276 ?_
                refine z_top (st1 := [.int (nI (i_2 + 1)), .ref x]) (congrArg (fun w9 : Int32 => ([.int w9, .ref x] : List Value)) (nI_add i_2 1)) ?_
                refine z_put (ref := "FlowExporterModel") (C := RX12) (T := TX12) (N := 54) (ci := 14) (v := .int (nI (i_2 + 1))) B hu_X12_advanceToken_X12 tyX12 tyX12_ok nmX12 rfl 47 (Nat.le_of_ble_eq_true rfl) hv_X12_advanceToken_458 rfl (Or.inl rfl) h_25 hx rfl rfl (Nat.le_of_ble_eq_true rfl) dX12_advanceToken_277 (fun Φ17 hΦ10 => ?_)
                have h_26 : Φ17 x = some (o_ 14 [.int th, .ref (x + 1), .ref (x + 2), .int ti, .int ra, .int (nI rt), .int ex, .int ad, .ref (x + 3), .ref (x + 4), .int me, .long se, .ref (x + 5), .int (nI fl), .int dr, .long ob, .long sa, .long sn, .long us, .ref (x + 6), .ref (x + 7), .int (nI pe), .ref (x + 8), .int (nI le), .ref (x + 9), .ref (x + 10), .int (nI qu), .ref (x + 11), .ref (x + 12), .ref (x + 13), .ref (x + 14), .ref (x + 15), .ref (x + 16), .int (nI n_3), .long v_2, .ref (x + 17), .ref (x + 18), .ref (x + 19), .ref (x + 20), .ref (x + 21), .ref (x + 22), .int (nI n_4), .ref (x + 23), .ref (x + 24), .int (nI tk), .ref (x + 25), .int (nI il), .int (nI (i_2 + 1)), .int ec, .int ep, .int 2, .int (nI i_1), .int nu, .long i_3]) := fset_at hΦ10
                have hI19 : Im G x (rd, nw, cr, tp, tt, sI, sT, pt, ql, fl, pe, le, i_2 + 1, il, qu, 2, ec, nu, i_3, i_1, ep, ti, ad, ob, ra, rt, ex, sa, us, tk, th, me, dr, se, sn) Φ17 := Im.put0 hI17 hΦ10 ⟨n_3, v_2, n_4, rfl, b_35, b_23, b_24, b_25, b_26, b_27, b_28, b_29, b_30, b_31, b_32, (show (i_2 + 1) ≤ 701 by omega), b_34⟩
                refine z_goto (tgt := 208) B dX12_advanceToken_280 rfl ?_
                refine z_lv [0] rfl ?_
                exact ih2 (i_2 + 1, i_3) Φ17 (show il - (i_2 + 1) < il - i_2 by omega) ⟨hI19, (fun b9 h9 => ((fset_fr hΦ10 (fun h8 => h9 (0) h8 (show 0 = 0 by decide))).trans ((hF9 b9 (fun j9 h8 h7 => (show False from h7).elim)).trans ((hF8 b9 (fun j9 h8 h7 => (show False from h7).elim)).trans ((hF7 b9 h9).trans rfl))))), (show i_1 ≤ (i_2 + 1) by omega), (show (i_2 + 1) ≤ il by omega), (al_b b_21 ⟨hL3, by omega⟩), (NvR_x (by omega)), trivial⟩
              · have e_9 : ¬ (6 ≤ i_2 - i_1) := fun h9 => c_28 ((nI_leI (a := 6) (b := i_2 - i_1) (by omega) (by omega)).mpr h9)
                refine z_aload_n B dX12_advanceToken_244 rfl 0 rfl ?_
                refine z_aload_n B dX12_advanceToken_245 rfl 0 rfl ?_
                refine z_get (ref := "FlowExporterModel") (C := RX12) (T := TX12) (N := 54) (ci := 14) (v := .long i_3) B hu_X12_advanceToken_X12 rfl 53 (Nat.le_of_ble_eq_true rfl) hv_X12_advanceToken_467 rfl h_25 rfl dX12_advanceToken_246 ?_
                refine z_ldc2 (v := 10) B (by decide +kernel) dX12_advanceToken_249 ?_
                refine z_lmul B dX12_advanceToken_252 ?_
                refine z_aload_n B dX12_advanceToken_253 rfl 0 rfl ?_
                refine z_aload_n B dX12_advanceToken_254 rfl 0 rfl ?_
                refine z_get (ref := "FlowExporterModel") (C := RX12) (T := TX12) (N := 54) (ci := 14) (v := .int (nI i_2)) B hu_X12_advanceToken_X12 rfl 47 (Nat.le_of_ble_eq_true rfl) hv_X12_advanceToken_458 rfl h_25 rfl dX12_advanceToken_255 ?_
                have h_27 : Φ15 (x + 25) = some (ab_ G 700 fB) := ((hF9 (x + 25) (fun j9 h8 h7 => (show False from h7).elim)).trans ((hF8 (x + 25) (fun j9 h8 h7 => (show False from h7).elim)).trans h_22))
                refine z_callV (As := [.int (nI i_2)]) (rest := [.long (i_3 * 10), .ref x]) B (r_byteAt G l Φ15 sz x rd nw cr tp tt sI sT pt ql fl pe le i_2 il qu 2 ec nu i_3 i_1 ep ti ad ob ra rt ex sa us tk th me dr se sn fB i_2 hx hI17 h_27 (show i_2 ≤ 701 by omega) hnw) (cwV 1 B.1.2.2.2.2 gX12_advanceToken_X12_byteAt rfl rfl rfl (by decide +kernel) ⟨Nat.le_of_ble_eq_true rfl, Nat.le_of_ble_eq_true rfl⟩) h_25 rfl rfl rfl rfl (Nat.le_of_ble_eq_true rfl) dX12_advanceToken_258 ⟨Nat.le_of_ble_eq_true rfl, Nat.le_of_ble_eq_true rfl⟩ (fun r_8 Φ18 sz8 st8 hp8 hs8 => ?_)
                obtain ⟨rfl, hq8, hI20, hF10⟩ := hp8
                subst sz8
                replace hs8 : st8 = [.int (bA fB il i_2), .long (i_3 * 10), .ref x] := hs8
                subst st8
                replace hI20 : Im G x (rd, nw, cr, tp, tt, sI, sT, pt, ql, fl, pe, le, i_2, il, qu, 2, ec, nu, i_3, i_1, ep, ti, ad, ob, ra, rt, ex, sa, us, tk, th, me, dr, se, sn) Φ18 := hI20
                refine z_i2l (v := (bA fB il i_2).toInt64) B dX12_advanceToken_261 rfl ?_
                refine z_ladd B dX12_advanceToken_262 ?_
                refine z_ldc2 (v := 48) B (by decide +kernel) dX12_advanceToken_263 ?_
                refine z_lsub B dX12_advanceToken_266 ?_
                have h_28 : Φ18 x = some (o_ 14 [.int th, .ref (x + 1), .ref (x + 2), .int ti, .int ra, .int (nI rt), .int ex, .int ad, .ref (x + 3), .ref (x + 4), .int me, .long se, .ref (x + 5), .int (nI fl), .int dr, .long ob, .long sa, .long sn, .long us, .ref (x + 6), .ref (x + 7), .int (nI pe), .ref (x + 8), .int (nI le), .ref (x + 9), .ref (x + 10), .int (nI qu), .ref (x + 11), .ref (x + 12), .ref (x + 13), .ref (x + 14), .ref (x + 15), .ref (x + 16), .int (nI n_3), .long v_2, .ref (x + 17), .ref (x + 18), .ref (x + 19), .ref (x + 20), .ref (x + 21), .ref (x + 22), .int (nI n_4), .ref (x + 23), .ref (x + 24), .int (nI tk), .ref (x + 25), .int (nI il), .int (nI i_2), .int ec, .int ep, .int 2, .int (nI i_1), .int nu, .long i_3]) := ((hF10 x (fun j9 h8 h7 => (show False from h7).elim)).trans h_25)
                refine z_put (ref := "FlowExporterModel") (C := RX12) (T := TX12) (N := 54) (ci := 14) (v := .long (((i_3 * 10) + ((bA fB il i_2).toInt64)) - 48)) B hu_X12_advanceToken_X12 tyX12 tyX12_ok nmX12 rfl 53 (Nat.le_of_ble_eq_true rfl) hv_X12_advanceToken_467 rfl (Or.inl rfl) h_28 hx rfl rfl (Nat.le_of_ble_eq_true rfl) dX12_advanceToken_267 (fun Φ19 hΦ11 => ?_)
                have h_29 : Φ19 x = some (o_ 14 [.int th, .ref (x + 1), .ref (x + 2), .int ti, .int ra, .int (nI rt), .int ex, .int ad, .ref (x + 3), .ref (x + 4), .int me, .long se, .ref (x + 5), .int (nI fl), .int dr, .long ob, .long sa, .long sn, .long us, .ref (x + 6), .ref (x + 7), .int (nI pe), .ref (x + 8), .int (nI le), .ref (x + 9), .ref (x + 10), .int (nI qu), .ref (x + 11), .ref (x + 12), .ref (x + 13), .ref (x + 14), .ref (x + 15), .ref (x + 16), .int (nI n_3), .long v_2, .ref (x + 17), .ref (x + 18), .ref (x + 19), .ref (x + 20), .ref (x + 21), .ref (x + 22), .int (nI n_4), .ref (x + 23), .ref (x + 24), .int (nI tk), .ref (x + 25), .int (nI il), .int (nI i_2), .int ec, .int ep, .int 2, .int (nI i_1), .int nu, .long (((i_3 * 10) + ((bA fB il i_2).toInt64)) - 48)]) := fset_at hΦ11
                have hI21 : Im G x (rd, nw, cr, tp, tt, sI, sT, pt, ql, fl, pe, le, i_2, il, qu, 2, ec, nu, ((i_3 * 10) + ((bA fB il i_2).toInt64)) - 48, i_1, ep, ti, ad, ob, ra, rt, ex, sa, us, tk, th, me, dr, se, sn) Φ19 := Im.put0 hI20 hΦ11 ⟨n_3, v_2, n_4, rfl, b_35, b_23, b_24, b_25, b_26, b_27, b_28, b_29, b_30, b_31, b_32, b_33, b_34⟩
                refine z_aload_n B dX12_advanceToken_270 rfl 0 rfl ?_
                refine z_dup B dX12_advanceToken_271 rfl ?_
                refine z_get (ref := "FlowExporterModel") (C := RX12) (T := TX12) (N := 54) (ci := 14) (v := .int (nI i_2)) B hu_X12_advanceToken_X12 rfl 47 (Nat.le_of_ble_eq_true rfl) hv_X12_advanceToken_458 rfl h_29 rfl dX12_advanceToken_272 ?_
                refine z_iconst (v := 1) B dX12_advanceToken_275 rfl ?_
                refine z_iadd B dX12_advanceToken_276 ?_
                refine z_top (st1 := [.int (nI (i_2 + 1)), .ref x]) (congrArg (fun w9 : Int32 => ([.int w9, .ref x] : List Value)) (nI_add i_2 1)) ?_
                refine z_put (ref := "FlowExporterModel") (C := RX12) (T := TX12) (N := 54) (ci := 14) (v := .int (nI (i_2 + 1))) B hu_X12_advanceToken_X12 tyX12 tyX12_ok nmX12 rfl 47 (Nat.le_of_ble_eq_true rfl) hv_X12_advanceToken_458 rfl (Or.inl rfl) h_29 hx rfl rfl (Nat.le_of_ble_eq_true rfl) dX12_advanceToken_277 (fun Φ20 hΦ12 => ?_)
                have h_30 : Φ20 x = some (o_ 14 [.int th, .ref (x + 1), .ref (x + 2), .int ti, .int ra, .int (nI rt), .int ex, .int ad, .ref (x + 3), .ref (x + 4), .int me, .long se, .ref (x + 5), .int (nI fl), .int dr, .long ob, .long sa, .long sn, .long us, .ref (x + 6), .ref (x + 7), .int (nI pe), .ref (x + 8), .int (nI le), .ref (x + 9), .ref (x + 10), .int (nI qu), .ref (x + 11), .ref (x + 12), .ref (x + 13), .ref (x + 14), .ref (x + 15), .ref (x + 16), .int (nI n_3), .long v_2, .ref (x + 17), .ref (x + 18), .ref (x + 19), .ref (x + 20), .ref (x + 21), .ref (x + 22), .int (nI n_4), .ref (x + 23), .ref (x + 24), .int (nI tk), .ref (x + 25), .int (nI il), .int (nI (i_2 + 1)), .int ec, .int ep, .int 2, .int (nI i_1), .int nu, .long (((i_3 * 10) + ((bA fB il i_2).toInt64)) - 48)]) := fset_at hΦ12
                have hI22 : Im G x (rd, nw, cr, tp, tt, sI, sT, pt, ql, fl, pe, le, i_2 + 1, il, qu, 2, ec, nu, ((i_3 * 10) + ((bA fB il i_2).toInt64)) - 48, i_1, ep, ti, ad, ob, ra, rt, ex, sa, us, tk, th, me, dr, se, sn) Φ20 := Im.put0 hI21 hΦ12 ⟨n_3, v_2, n_4, rfl, b_35, b_23, b_24, b_25, b_26, b_27, b_28, b_29, b_30, b_31, b_32, (show (i_2 + 1) ≤ 701 by omega), b_34⟩
                refine z_goto (tgt := 208) B dX12_advanceToken_280 rfl ?_
                refine z_lv [0] rfl ?_
                exact ih2 (i_2 + 1, ((i_3 * 10) + ((bA fB il i_2).toInt64)) - 48) Φ20 (show il - (i_2 + 1) < il - i_2 by omega) ⟨hI22, (fun b9 h9 => ((fset_fr hΦ12 (fun h8 => h9 (0) h8 (show 0 = 0 by decide))).trans ((fset_fr hΦ11 (fun h8 => h9 (0) h8 (show 0 = 0 by decide))).trans ((hF10 b9 (fun j9 h8 h7 => (show False from h7).elim)).trans ((hF9 b9 (fun j9 h8 h7 => (show False from h7).elim)).trans ((hF8 b9 (fun j9 h8 h7 => (show False from h7).elim)).trans ((hF7 b9 h9).trans rfl))))))), (show i_1 ≤ (i_2 + 1) by omega), (show (i_2 + 1) ≤ il by omega), (al_b b_21 ⟨hL3, by omega⟩), (NvR_s b_22 (by omega) (by omega) b_21 hL3 (by omega)), trivial⟩
        · replace hs4 : st4 = [.int 1, .ref x] := hs4
          subst st4
          replace hL1 : kO (bA fB il i_1) = 2 := hL1
          have b_37 := bA_k (by omega) hL1
          refine z_if_eq (tgt := 82) B dX12_advanceToken_75 rfl (fun h9 => absurd h9 (by decide)) (fun c_29 => ?_)
          refine z_iconst (v := 1) B dX12_advanceToken_78 rfl ?_
          refine z_goto (tgt := 104) B dX12_advanceToken_79 rfl ?_
          have h_31 : Φ7 x = some (o_ 14 [.int th, .ref (x + 1), .ref (x + 2), .int ti, .int ra, .int (nI rt), .int ex, .int ad, .ref (x + 3), .ref (x + 4), .int me, .long se, .ref (x + 5), .int (nI fl), .int dr, .long ob, .long sa, .long sn, .long us, .ref (x + 6), .ref (x + 7), .int (nI pe), .ref (x + 8), .int (nI le), .ref (x + 9), .ref (x + 10), .int (nI qu), .ref (x + 11), .ref (x + 12), .ref (x + 13), .ref (x + 14), .ref (x + 15), .ref (x + 16), .int (nI n_1), .long v_1, .ref (x + 17), .ref (x + 18), .ref (x + 19), .ref (x + 20), .ref (x + 21), .ref (x + 22), .int (nI n_2), .ref (x + 23), .ref (x + 24), .int (nI tk), .ref (x + 25), .int (nI il), .int (nI i_1), .int ec, .int ep, .int kn, .int (nI i_1), .int nu, .long 0]) := ((hF5 x (fun j9 h8 h7 => (show False from h7).elim)).trans ((hF4 x (fun j9 h8 h7 => (show False from h7).elim)).trans h_10))
          refine z_put (ref := "FlowExporterModel") (C := RX12) (T := TX12) (N := 54) (ci := 14) (v := .int 1) B hu_X12_advanceToken_X12 tyX12 tyX12_ok nmX12 rfl 50 (Nat.le_of_ble_eq_true rfl) hv_X12_advanceToken_476 rfl (Or.inl rfl) h_31 hx rfl rfl (Nat.le_of_ble_eq_true rfl) dX12_advanceToken_104 (fun Φ21 hΦ13 => ?_)
          have h_32 : Φ21 x = some (o_ 14 [.int th, .ref (x + 1), .ref (x + 2), .int ti, .int ra, .int (nI rt), .int ex, .int ad, .ref (x + 3), .ref (x + 4), .int me, .long se, .ref (x + 5), .int (nI fl), .int dr, .long ob, .long sa, .long sn, .long us, .ref (x + 6), .ref (x + 7), .int (nI pe), .ref (x + 8), .int (nI le), .ref (x + 9), .ref (x + 10), .int (nI qu), .ref (x + 11), .ref (x + 12), .ref (x + 13), .ref (x + 14), .ref (x + 15), .ref (x + 16), .int (nI n_1), .long v_1, .ref (x + 17), .ref (x + 18), .ref (x + 19), .ref (x + 20), .ref (x + 21), .ref (x + 22), .int (nI n_2), .ref (x + 23), .ref (x + 24), .int (nI tk), .ref (x + 25), .int (nI il), .int (nI i_1), .int ec, .int ep, .int 1, .int (nI i_1), .int nu, .long 0]) := fset_at hΦ13
          have hI23 : Im G x (rd, nw, cr, tp, tt, sI, sT, pt, ql, fl, pe, le, i_1, il, qu, 1, ec, nu, 0, i_1, ep, ti, ad, ob, ra, rt, ex, sa, us, tk, th, me, dr, se, sn) Φ21 := Im.put0 hI8 hΦ13 ⟨n_1, v_1, n_2, rfl, b_16, b_4, b_5, b_6, b_7, b_8, b_9, b_10, b_11, b_12, b_13, b_14, b_14⟩
          refine z_aload_n B dX12_advanceToken_107 rfl 1 rfl ?_
          refine z_get (ref := "FlowExporterModel") (C := RX12) (T := TX12) (N := 54) (ci := 14) (v := .int 1) B hu_X12_advanceToken_X12 rfl 50 (Nat.le_of_ble_eq_true rfl) hv_X12_advanceToken_476 rfl h_32 rfl dX12_advanceToken_108 ?_
          refine z_iconst (v := 3) B dX12_advanceToken_111 rfl ?_
          refine z_icmp_eq (tgt := 123) B dX12_advanceToken_112 rfl (fun h9 => absurd h9 (by decide)) (fun c_30 => ?_)
          refine z_aload_n B dX12_advanceToken_115 rfl 1 rfl ?_
          refine z_get (ref := "FlowExporterModel") (C := RX12) (T := TX12) (N := 54) (ci := 14) (v := .int 1) B hu_X12_advanceToken_X12 rfl 50 (Nat.le_of_ble_eq_true rfl) hv_X12_advanceToken_476 rfl h_32 rfl dX12_advanceToken_116 ?_
          refine z_iconst (v := 4) B dX12_advanceToken_119 rfl ?_
          refine z_icmp_ne (tgt := 133) B dX12_advanceToken_120 rfl (fun c_31 => ?_) (fun h9 => absurd h9 (by decide))
          refine z_lv [1] rfl ?_
          refine z_loop (α := Nat × Int64) (fun (a9 : Nat × Int64) Φi => Im G x (rd, nw, cr, tp, tt, sI, sT, pt, ql, fl, pe, le, a9.1, il, qu, 1, ec, nu, a9.2, i_1, ep, ti, ad, ob, ra, rt, ex, sa, us, tk, th, me, dr, se, sn) Φi ∧ Fr x (fun j9 => j9 = 0) Φ21 Φi ∧ (i_1 ≤ a9.1) ∧ (a9.1 ≤ il) ∧ (∀ i9, i_1 ≤ i9 → i9 < a9.1 → kO (bA fB il i9) = 2) ∧ (WvR (bA fB il) i_1 a9.1 a9.2) ∧ True) (fun a9 => [(0, .ref x)]) (fun a9 => il - a9.1) ?_ (i_1, 0) ⟨hI23, fun _ _ => rfl, (show i_1 ≤ i_1 by omega), (show i_1 ≤ il by omega), (fun i9 h8 h7 => absurd h7 (by omega)), WvR_0, trivial⟩
          rintro ⟨i_4, i_5⟩ Φl3 ⟨hI24, hF11, b_38, b_39, b_40, b_41, -⟩ ih3
          replace hI24 : Im G x (rd, nw, cr, tp, tt, sI, sT, pt, ql, fl, pe, le, i_4, il, qu, 1, ec, nu, i_5, i_1, ep, ti, ad, ob, ra, rt, ex, sa, us, tk, th, me, dr, se, sn) Φl3 := hI24
          replace b_38 : i_1 ≤ i_4 := b_38
          replace b_39 : i_4 ≤ il := b_39
          replace b_40 : ∀ i9, i_1 ≤ i9 → i9 < i_4 → kO (bA fB il i9) = 2 := b_40
          replace b_41 : WvR (bA fB il) i_1 i_4 i_5 := b_41
          show Z p9 l e9 _ s9 m9 _ w9 t9 k9 _ G 2 133 [(0, .ref x)] [] Φl3 _ _ _
          refine z_aload_n B dX12_advanceToken_133 rfl 0 rfl ?_
          obtain ⟨n_5, v_3, n_6, h_33, b_54, b_42, b_43, b_44, b_45, b_46, b_47, b_48, b_49, b_50, b_51, b_52, b_53⟩ := im0 hI24
          replace b_42 : 1 ≤ rt := b_42
          replace b_43 : rt ≤ 1024 := b_43
          replace b_44 : fl ≤ 12 := b_44
          replace b_45 : pe ≤ 24 := b_45
          replace b_46 : le ≤ 700 := b_46
          replace b_47 : qu ≤ 12 := b_47
          replace b_48 : n_5 ≤ 8 := b_48
          replace b_49 : n_6 ≤ 24 := b_49
          replace b_50 : tk ≤ 24 := b_50
          replace b_51 : il ≤ 700 := b_51
          replace b_52 : i_4 ≤ 701 := b_52
          replace b_53 : i_1 ≤ 701 := b_53
          have h_34 : Φl3 x = some (o_ 14 [.int th, .ref (x + 1), .ref (x + 2), .int ti, .int ra, .int (nI rt), .int ex, .int ad, .ref (x + 3), .ref (x + 4), .int me, .long se, .ref (x + 5), .int (nI fl), .int dr, .long ob, .long sa, .long sn, .long us, .ref (x + 6), .ref (x + 7), .int (nI pe), .ref (x + 8), .int (nI le), .ref (x + 9), .ref (x + 10), .int (nI qu), .ref (x + 11), .ref (x + 12), .ref (x + 13), .ref (x + 14), .ref (x + 15), .ref (x + 16), .int (nI n_5), .long v_3, .ref (x + 17), .ref (x + 18), .ref (x + 19), .ref (x + 20), .ref (x + 21), .ref (x + 22), .int (nI n_6), .ref (x + 23), .ref (x + 24), .int (nI tk), .ref (x + 25), .int (nI il), .int (nI i_4), .int ec, .int ep, .int 1, .int (nI i_1), .int nu, .long i_5]) := h_33
          refine z_get (ref := "FlowExporterModel") (C := RX12) (T := TX12) (N := 54) (ci := 14) (v := .int 1) B hu_X12_advanceToken_X12 rfl 50 (Nat.le_of_ble_eq_true rfl) hv_X12_advanceToken_476 rfl h_34 rfl dX12_advanceToken_134 ?_
          refine z_iconst (v := 1) B dX12_advanceToken_137 rfl ?_
          refine z_icmp_ne (tgt := 208) B dX12_advanceToken_138 rfl (fun h9 => absurd (by decide) h9) (fun c_32 => ?_)
          refine z_aload_n B dX12_advanceToken_141 rfl 0 rfl ?_
          refine z_aload_n B dX12_advanceToken_142 rfl 0 rfl ?_
          refine z_get (ref := "FlowExporterModel") (C := RX12) (T := TX12) (N := 54) (ci := 14) (v := .int (nI i_4)) B hu_X12_advanceToken_X12 rfl 47 (Nat.le_of_ble_eq_true rfl) hv_X12_advanceToken_458 rfl h_34 rfl dX12_advanceToken_143 ?_
          have h_35 : Φl3 (x + 25) = some (ab_ G 700 fB) := ((hF11 (x + 25) fq_1182).trans ((fset_fr hΦ13 (ne_off (x := x) (i := 25) (j := 0) rfl)).trans ((hF5 (x + 25) (fun j9 h8 h7 => (show False from h7).elim)).trans ((hF4 (x + 25) (fun j9 h8 h7 => (show False from h7).elim)).trans h_11))))
          refine z_callV (As := [.int (nI i_4)]) (rest := []) B (r_byteAt G l Φl3 sz x rd nw cr tp tt sI sT pt ql fl pe le i_4 il qu 1 ec nu i_5 i_1 ep ti ad ob ra rt ex sa us tk th me dr se sn fB i_4 hx hI24 h_35 (show i_4 ≤ 701 by omega) hnw) (cwV 1 B.1.2.2.2.2 gX12_advanceToken_X12_byteAt rfl rfl rfl (by decide +kernel) ⟨Nat.le_of_ble_eq_true rfl, Nat.le_of_ble_eq_true rfl⟩) h_34 rfl rfl rfl rfl (Nat.le_of_ble_eq_true rfl) dX12_advanceToken_146 ⟨Nat.le_of_ble_eq_true rfl, Nat.le_of_ble_eq_true rfl⟩ (fun r_9 Φ22 sz9 st9 hp9 hs9 => ?_)
          obtain ⟨rfl, hq9, hI25, hF12⟩ := hp9
          subst sz9
          replace hs9 : st9 = [.int (bA fB il i_4)] := hs9
          subst st9
          replace hI25 : Im G x (rd, nw, cr, tp, tt, sI, sT, pt, ql, fl, pe, le, i_4, il, qu, 1, ec, nu, i_5, i_1, ep, ti, ad, ob, ra, rt, ex, sa, us, tk, th, me, dr, se, sn) Φ22 := hI25
          refine z_callS (As := [.int (bA fB il i_4)]) (rest := []) B (r_isLetter G l Φ22 sz x rd nw cr tp tt sI sT pt ql fl pe le i_4 il qu 1 ec nu i_5 i_1 ep ti ad ob ra rt ex sa us tk th me dr se sn (bA fB il i_4) hx hI25 hnw) (va_cwS 1 B.1.2.2.2.2 gX12_advanceToken_X12_isLetter rfl rfl rfl (by decide +kernel) ⟨Nat.le_of_ble_eq_true rfl, Nat.le_of_ble_eq_true rfl⟩) rfl rfl (Nat.le_of_ble_eq_true rfl) dX12_advanceToken_149 ⟨Nat.le_of_ble_eq_true rfl, Nat.le_of_ble_eq_true rfl⟩ (fun r_10 Φ23 sz10 st10 hp10 hs10 => ?_)
          obtain ⟨ha4, hq10, hI26, hF13⟩ := hp10
          subst sz10
          replace hI26 : Im G x (rd, nw, cr, tp, tt, sI, sT, pt, ql, fl, pe, le, i_4, il, qu, 1, ec, nu, i_5, i_1, ep, ti, ad, ob, ra, rt, ex, sa, us, tk, th, me, dr, se, sn) Φ23 := hI26
          rcases ha4 with ⟨rfl, hL4⟩ | ⟨rfl, hL4⟩
          · replace hs10 : st10 = [.int 0] := hs10
            subst st10
            replace hL4 : ¬ kO (bA fB il i_4) = 2 := hL4
            refine z_if_eq (tgt := 208) B dX12_advanceToken_152 rfl (fun c_33 => ?_) (fun h9 => absurd (by decide) h9)
            refine z_aload_n B dX12_advanceToken_208 rfl 0 rfl ?_
            have h_36 : Φ23 x = some (o_ 14 [.int th, .ref (x + 1), .ref (x + 2), .int ti, .int ra, .int (nI rt), .int ex, .int ad, .ref (x + 3), .ref (x + 4), .int me, .long se, .ref (x + 5), .int (nI fl), .int dr, .long ob, .long sa, .long sn, .long us, .ref (x + 6), .ref (x + 7), .int (nI pe), .ref (x + 8), .int (nI le), .ref (x + 9), .ref (x + 10), .int (nI qu), .ref (x + 11), .ref (x + 12), .ref (x + 13), .ref (x + 14), .ref (x + 15), .ref (x + 16), .int (nI n_5), .long v_3, .ref (x + 17), .ref (x + 18), .ref (x + 19), .ref (x + 20), .ref (x + 21), .ref (x + 22), .int (nI n_6), .ref (x + 23), .ref (x + 24), .int (nI tk), .ref (x + 25), .int (nI il), .int (nI i_4), .int ec, .int ep, .int 1, .int (nI i_1), .int nu, .long i_5]) := ((hF13 x (fun j9 h8 h7 => (show False from h7).elim)).trans ((hF12 x (fun j9 h8 h7 => (show False from h7).elim)).trans h_34))
            refine z_get (ref := "FlowExporterModel") (C := RX12) (T := TX12) (N := 54) (ci := 14) (v := .int 1) B hu_X12_advanceToken_X12 rfl 50 (Nat.le_of_ble_eq_true rfl) hv_X12_advanceToken_476 rfl h_36 rfl dX12_advanceToken_209 ?_
            refine z_iconst (v := 2) B dX12_advanceToken_212 rfl ?_
            refine z_icmp_ne (tgt := 283) B dX12_advanceToken_213 rfl (fun c_34 => ?_) (fun h9 => absurd h9 (by decide))
            refine z_aload_n B dX12_advanceToken_283 rfl 0 rfl ?_
            refine z_get (ref := "FlowExporterModel") (C := RX12) (T := TX12) (N := 54) (ci := 14) (v := .int 1) B hu_X12_advanceToken_X12 rfl 50 (Nat.le_of_ble_eq_true rfl) hv_X12_advanceToken_476 rfl h_36 rfl dX12_advanceToken_284 ?_
            refine z_iconst (v := 1) B dX12_advanceToken_287 rfl ?_
            refine z_icmp_ne (tgt := 305) B dX12_advanceToken_288 rfl (fun h9 => absurd (by decide) h9) (fun c_35 => ?_)
            refine z_aload_n B dX12_advanceToken_291 rfl 0 rfl ?_
            refine z_get (ref := "FlowExporterModel") (C := RX12) (T := TX12) (N := 54) (ci := 14) (v := .int (nI i_4)) B hu_X12_advanceToken_X12 rfl 47 (Nat.le_of_ble_eq_true rfl) hv_X12_advanceToken_458 rfl h_36 rfl dX12_advanceToken_292 ?_
            refine z_aload_n B dX12_advanceToken_295 rfl 0 rfl ?_
            refine z_get (ref := "FlowExporterModel") (C := RX12) (T := TX12) (N := 54) (ci := 14) (v := .int (nI i_1)) B hu_X12_advanceToken_X12 rfl 51 (Nat.le_of_ble_eq_true rfl) hv_X12_advanceToken_464 rfl h_36 rfl dX12_advanceToken_296 ?_
            refine z_isub B dX12_advanceToken_299 ?_
            refine z_top (st1 := [.int (nI (i_4 - i_1))]) (congrArg (fun w9 : Int32 => ([.int w9] : List Value)) (nI_sub (show i_1 ≤ i_4 by omega))) ?_
            refine z_bipush (v := 12) B dX12_advanceToken_300 rfl ?_
            refine z_icmp_gt (tgt := 327) B dX12_advanceToken_302 rfl (fun c_36 => ?_) (fun c_36 => ?_)
            · have e_10 : 12 < i_4 - i_1 := (nI_ltI (a := 12) (b := i_4 - i_1) (by omega) (by omega)).mp c_36
              refine z_aload_n B dX12_advanceToken_327 rfl 0 rfl ?_
              refine z_iconst (v := 4) B dX12_advanceToken_328 rfl ?_
              refine z_put (ref := "FlowExporterModel") (C := RX12) (T := TX12) (N := 54) (ci := 14) (v := .int 4) B hu_X12_advanceToken_X12 tyX12 tyX12_ok nmX12 rfl 50 (Nat.le_of_ble_eq_true rfl) hv_X12_advanceToken_476 rfl (Or.inl rfl) h_36 hx rfl rfl (Nat.le_of_ble_eq_true rfl) dX12_advanceToken_329 (fun Φ24 hΦ14 => ?_)
              have h_37 : Φ24 x = some (o_ 14 [.int th, .ref (x + 1), .ref (x + 2), .int ti, .int ra, .int (nI rt), .int ex, .int ad, .ref (x + 3), .ref (x + 4), .int me, .long se, .ref (x + 5), .int (nI fl), .int dr, .long ob, .long sa, .long sn, .long us, .ref (x + 6), .ref (x + 7), .int (nI pe), .ref (x + 8), .int (nI le), .ref (x + 9), .ref (x + 10), .int (nI qu), .ref (x + 11), .ref (x + 12), .ref (x + 13), .ref (x + 14), .ref (x + 15), .ref (x + 16), .int (nI n_5), .long v_3, .ref (x + 17), .ref (x + 18), .ref (x + 19), .ref (x + 20), .ref (x + 21), .ref (x + 22), .int (nI n_6), .ref (x + 23), .ref (x + 24), .int (nI tk), .ref (x + 25), .int (nI il), .int (nI i_4), .int ec, .int ep, .int 4, .int (nI i_1), .int nu, .long i_5]) := fset_at hΦ14
              have hI27 : Im G x (rd, nw, cr, tp, tt, sI, sT, pt, ql, fl, pe, le, i_4, il, qu, 4, ec, nu, i_5, i_1, ep, ti, ad, ob, ra, rt, ex, sa, us, tk, th, me, dr, se, sn) Φ24 := Im.put0 hI26 hΦ14 ⟨n_5, v_3, n_6, rfl, b_54, b_42, b_43, b_44, b_45, b_46, b_47, b_48, b_49, b_50, b_51, b_52, b_53⟩
              refine z_ret_v B dX12_advanceToken_332 ⟨rfl, rfl, ⟨i_4, 4, i_5, i_1, ?_, hI27⟩, ?_⟩
              · exact (TkR.mk (k := 5) (Tk_run (by omega) b_3 e_2 (by omega) (by omega) (by omega) (fun i9 h8 h7 => (b_40 i9 h8 h7).trans hL1.symm) (Or.inl (fun h9 => hL4 (h9.trans hL1))) (by omega) (by omega)) rfl (by decide) (fun h9 => absurd h9 (by decide)) (fun h9 => absurd h9 (by decide)))
              · exact (fun b9 h9 => ((fset_fr hΦ14 (fun h8 => h9 (0) h8 (show 0 = 0 by decide))).trans ((hF13 b9 (fun j9 h8 h7 => (show False from h7).elim)).trans ((hF12 b9 (fun j9 h8 h7 => (show False from h7).elim)).trans ((hF11 b9 h9).trans ((fset_fr hΦ13 (fun h8 => h9 (0) h8 (show 0 = 0 by decide))).trans ((hF5 b9 (fun j9 h8 h7 => (show False from h7).elim)).trans ((hF4 b9 (fun j9 h8 h7 => (show False from h7).elim)).trans ((fset_fr hΦ3 (fun h8 => h9 (0) h8 (show 0 = 0 by decide))).trans ((fset_fr hΦ2 (fun h8 => h9 (0) h8 (show 0 = 0 by decide))).trans ((hF3 b9 (fun j9 h8 h7 => (show False from h7).elim)).trans ((hF2 b9 (fun j9 h8 h7 => (show False from h7).elim)).trans ((hF1 b9 h9).trans rfl)))))))))))))
            · have e_11 : ¬ (12 < i_4 - i_1) := fun h9 => c_36 ((nI_ltI (a := 12) (b := i_4 - i_1) (by omega) (by omega)).mpr h9)
              refine z_aload_n B dX12_advanceToken_305 rfl 0 rfl ?_
              refine z_get (ref := "FlowExporterModel") (C := RX12) (T := TX12) (N := 54) (ci := 14) (v := .int 1) B hu_X12_advanceToken_X12 rfl 50 (Nat.le_of_ble_eq_true rfl) hv_X12_advanceToken_476 rfl h_36 rfl dX12_advanceToken_306 ?_
              refine z_iconst (v := 2) B dX12_advanceToken_309 rfl ?_
              refine z_icmp_ne (tgt := 332) B dX12_advanceToken_310 rfl (fun c_37 => ?_) (fun h9 => absurd h9 (by decide))
              refine z_ret_v B dX12_advanceToken_332 ⟨rfl, rfl, ⟨i_4, 1, i_5, i_1, ?_, hI26⟩, ?_⟩
              · exact (TkR.mk (k := 2) (Tk_run (by omega) b_3 e_2 (by omega) (by omega) (by omega) (fun i9 h8 h7 => (b_40 i9 h8 h7).trans hL1.symm) (Or.inl (fun h9 => hL4 (h9.trans hL1))) (by omega) (by omega)) rfl (by decide) (fun _ => ⟨b_41, by omega⟩) (fun h9 => absurd h9 (by decide)))
              · exact (fun b9 h9 => ((hF13 b9 (fun j9 h8 h7 => (show False from h7).elim)).trans ((hF12 b9 (fun j9 h8 h7 => (show False from h7).elim)).trans ((hF11 b9 h9).trans ((fset_fr hΦ13 (fun h8 => h9 (0) h8 (show 0 = 0 by decide))).trans ((hF5 b9 (fun j9 h8 h7 => (show False from h7).elim)).trans ((hF4 b9 (fun j9 h8 h7 => (show False from h7).elim)).trans ((fset_fr hΦ3 (fun h8 => h9 (0) h8 (show 0 = 0 by decide))).trans ((fset_fr hΦ2 (fun h8 => h9 (0) h8 (show 0 = 0 by decide))).trans ((hF3 b9 (fun j9 h8 h7 => (show False from h7).elim)).trans ((hF2 b9 (fun j9 h8 h7 => (show False from h7).elim)).trans ((hF1 b9 h9).trans rfl))))))))))))
          · replace hs10 : st10 = [.int 1] := hs10
            subst st10
            replace hL4 : kO (bA fB il i_4) = 2 := hL4
            have b_55 := bA_k (by omega) hL4
            refine z_if_eq (tgt := 208) B dX12_advanceToken_152 rfl (fun h9 => absurd h9 (by decide)) (fun c_38 => ?_)
            refine z_aload_n B dX12_advanceToken_155 rfl 0 rfl ?_
            have h_38 : Φ23 x = some (o_ 14 [.int th, .ref (x + 1), .ref (x + 2), .int ti, .int ra, .int (nI rt), .int ex, .int ad, .ref (x + 3), .ref (x + 4), .int me, .long se, .ref (x + 5), .int (nI fl), .int dr, .long ob, .long sa, .long sn, .long us, .ref (x + 6), .ref (x + 7), .int (nI pe), .ref (x + 8), .int (nI le), .ref (x + 9), .ref (x + 10), .int (nI qu), .ref (x + 11), .ref (x + 12), .ref (x + 13), .ref (x + 14), .ref (x + 15), .ref (x + 16), .int (nI n_5), .long v_3, .ref (x + 17), .ref (x + 18), .ref (x + 19), .ref (x + 20), .ref (x + 21), .ref (x + 22), .int (nI n_6), .ref (x + 23), .ref (x + 24), .int (nI tk), .ref (x + 25), .int (nI il), .int (nI i_4), .int ec, .int ep, .int 1, .int (nI i_1), .int nu, .long i_5]) := ((hF13 x (fun j9 h8 h7 => (show False from h7).elim)).trans ((hF12 x (fun j9 h8 h7 => (show False from h7).elim)).trans h_34))
            refine z_get (ref := "FlowExporterModel") (C := RX12) (T := TX12) (N := 54) (ci := 14) (v := .int (nI i_4)) B hu_X12_advanceToken_X12 rfl 47 (Nat.le_of_ble_eq_true rfl) hv_X12_advanceToken_458 rfl h_38 rfl dX12_advanceToken_156 ?_
            refine z_aload_n B dX12_advanceToken_159 rfl 0 rfl ?_
            refine z_get (ref := "FlowExporterModel") (C := RX12) (T := TX12) (N := 54) (ci := 14) (v := .int (nI i_1)) B hu_X12_advanceToken_X12 rfl 51 (Nat.le_of_ble_eq_true rfl) hv_X12_advanceToken_464 rfl h_38 rfl dX12_advanceToken_160 ?_
            refine z_isub B dX12_advanceToken_163 ?_
            refine z_top (st1 := [.int (nI (i_4 - i_1))]) (congrArg (fun w9 : Int32 => ([.int w9] : List Value)) (nI_sub (show i_1 ≤ i_4 by omega))) ?_
            refine z_bipush (v := 12) B dX12_advanceToken_164 rfl ?_
            refine z_icmp_ge (tgt := 195) B dX12_advanceToken_166 rfl (fun c_39 => ?_) (fun c_39 => ?_)
            · have e_12 : 12 ≤ i_4 - i_1 := (nI_leI (a := 12) (b := i_4 - i_1) (by omega) (by omega)).mp c_39
              refine z_aload_n B dX12_advanceToken_195 rfl 0 rfl ?_
              refine z_dup B dX12_advanceToken_196 rfl ?_
              refine z_get (ref := "FlowExporterModel") (C := RX12) (T := TX12) (N := 54) (ci := 14) (v := .int (nI i_4)) B hu_X12_advanceToken_X12 rfl 47 (Nat.le_of_ble_eq_true rfl) hv_X12_advanceToken_458 rfl h_38 rfl dX12_advanceToken_197 ?_
              refine z_iconst (v := 1) B dX12_advanceToken_200 rfl ?_
              refine z_iadd B dX12_advanceToken_201 ?_
              refine z_top (st1 := [.int (nI (i_4 + 1)), .ref x]) (congrArg (fun w9 : Int32 => ([.int w9, .ref x] : List Value)) (nI_add i_4 1)) ?_
              refine z_put (ref := "FlowExporterModel") (C := RX12) (T := TX12) (N := 54) (ci := 14) (v := .int (nI (i_4 + 1))) B hu_X12_advanceToken_X12 tyX12 tyX12_ok nmX12 rfl 47 (Nat.le_of_ble_eq_true rfl) hv_X12_advanceToken_458 rfl (Or.inl rfl) h_38 hx rfl rfl (Nat.le_of_ble_eq_true rfl) dX12_advanceToken_202 (fun Φ25 hΦ15 => ?_)
              have h_39 : Φ25 x = some (o_ 14 [.int th, .ref (x + 1), .ref (x + 2), .int ti, .int ra, .int (nI rt), .int ex, .int ad, .ref (x + 3), .ref (x + 4), .int me, .long se, .ref (x + 5), .int (nI fl), .int dr, .long ob, .long sa, .long sn, .long us, .ref (x + 6), .ref (x + 7), .int (nI pe), .ref (x + 8), .int (nI le), .ref (x + 9), .ref (x + 10), .int (nI qu), .ref (x + 11), .ref (x + 12), .ref (x + 13), .ref (x + 14), .ref (x + 15), .ref (x + 16), .int (nI n_5), .long v_3, .ref (x + 17), .ref (x + 18), .ref (x + 19), .ref (x + 20), .ref (x + 21), .ref (x + 22), .int (nI n_6), .ref (x + 23), .ref (x + 24), .int (nI tk), .ref (x + 25), .int (nI il), .int (nI (i_4 + 1)), .int ec, .int ep, .int 1, .int (nI i_1), .int nu, .long i_5]) := fset_at hΦ15
              have hI28 : Im G x (rd, nw, cr, tp, tt, sI, sT, pt, ql, fl, pe, le, i_4 + 1, il, qu, 1, ec, nu, i_5, i_1, ep, ti, ad, ob, ra, rt, ex, sa, us, tk, th, me, dr, se, sn) Φ25 := Im.put0 hI26 hΦ15 ⟨n_5, v_3, n_6, rfl, b_54, b_42, b_43, b_44, b_45, b_46, b_47, b_48, b_49, b_50, b_51, (show (i_4 + 1) ≤ 701 by omega), b_53⟩
              refine z_goto (tgt := 133) B dX12_advanceToken_205 rfl ?_
              refine z_lv [0] rfl ?_
              exact ih3 (i_4 + 1, i_5) Φ25 (show il - (i_4 + 1) < il - i_4 by omega) ⟨hI28, (fun b9 h9 => ((fset_fr hΦ15 (fun h8 => h9 (0) h8 (show 0 = 0 by decide))).trans ((hF13 b9 (fun j9 h8 h7 => (show False from h7).elim)).trans ((hF12 b9 (fun j9 h8 h7 => (show False from h7).elim)).trans ((hF11 b9 h9).trans rfl))))), (show i_1 ≤ (i_4 + 1) by omega), (show (i_4 + 1) ≤ il by omega), (al_b b_40 ⟨hL4, by omega⟩), (WvR_x (by omega)), trivial⟩
            · have e_13 : ¬ (12 ≤ i_4 - i_1) := fun h9 => c_39 ((nI_leI (a := 12) (b := i_4 - i_1) (by omega) (by omega)).mpr h9)
              refine z_aload_n B dX12_advanceToken_169 rfl 0 rfl ?_
              refine z_aload_n B dX12_advanceToken_170 rfl 0 rfl ?_
              refine z_get (ref := "FlowExporterModel") (C := RX12) (T := TX12) (N := 54) (ci := 14) (v := .long i_5) B hu_X12_advanceToken_X12 rfl 53 (Nat.le_of_ble_eq_true rfl) hv_X12_advanceToken_467 rfl h_38 rfl dX12_advanceToken_171 ?_
              refine z_ldc2 (v := 32) B (by decide +kernel) dX12_advanceToken_174 ?_
              refine z_lmul B dX12_advanceToken_177 ?_
              refine z_aload_n B dX12_advanceToken_178 rfl 0 rfl ?_
              refine z_aload_n B dX12_advanceToken_179 rfl 0 rfl ?_
              refine z_get (ref := "FlowExporterModel") (C := RX12) (T := TX12) (N := 54) (ci := 14) (v := .int (nI i_4)) B hu_X12_advanceToken_X12 rfl 47 (Nat.le_of_ble_eq_true rfl) hv_X12_advanceToken_458 rfl h_38 rfl dX12_advanceToken_180 ?_
              have h_40 : Φ23 (x + 25) = some (ab_ G 700 fB) := ((hF13 (x + 25) (fun j9 h8 h7 => (show False from h7).elim)).trans ((hF12 (x + 25) (fun j9 h8 h7 => (show False from h7).elim)).trans h_35))
              refine z_callV (As := [.int (nI i_4)]) (rest := [.long (i_5 * 32), .ref x]) B (r_byteAt G l Φ23 sz x rd nw cr tp tt sI sT pt ql fl pe le i_4 il qu 1 ec nu i_5 i_1 ep ti ad ob ra rt ex sa us tk th me dr se sn fB i_4 hx hI26 h_40 (show i_4 ≤ 701 by omega) hnw) (cwV 1 B.1.2.2.2.2 gX12_advanceToken_X12_byteAt rfl rfl rfl (by decide +kernel) ⟨Nat.le_of_ble_eq_true rfl, Nat.le_of_ble_eq_true rfl⟩) h_38 rfl rfl rfl rfl (Nat.le_of_ble_eq_true rfl) dX12_advanceToken_183 ⟨Nat.le_of_ble_eq_true rfl, Nat.le_of_ble_eq_true rfl⟩ (fun r_11 Φ26 sz11 st11 hp11 hs11 => ?_)
              obtain ⟨rfl, hq11, hI29, hF14⟩ := hp11
              subst sz11
              replace hs11 : st11 = [.int (bA fB il i_4), .long (i_5 * 32), .ref x] := hs11
              subst st11
              replace hI29 : Im G x (rd, nw, cr, tp, tt, sI, sT, pt, ql, fl, pe, le, i_4, il, qu, 1, ec, nu, i_5, i_1, ep, ti, ad, ob, ra, rt, ex, sa, us, tk, th, me, dr, se, sn) Φ26 := hI29
              refine z_i2l (v := (bA fB il i_4).toInt64) B dX12_advanceToken_186 rfl ?_
              refine z_ladd B dX12_advanceToken_187 ?_
              refine z_ldc2 (v := 96) B (by decide +kernel) dX12_advanceToken_188 ?_
              refine z_lsub B dX12_advanceToken_191 ?_
              have h_41 : Φ26 x = some (o_ 14 [.int th, .ref (x + 1), .ref (x + 2), .int ti, .int ra, .int (nI rt), .int ex, .int ad, .ref (x + 3), .ref (x + 4), .int me, .long se, .ref (x + 5), .int (nI fl), .int dr, .long ob, .long sa, .long sn, .long us, .ref (x + 6), .ref (x + 7), .int (nI pe), .ref (x + 8), .int (nI le), .ref (x + 9), .ref (x + 10), .int (nI qu), .ref (x + 11), .ref (x + 12), .ref (x + 13), .ref (x + 14), .ref (x + 15), .ref (x + 16), .int (nI n_5), .long v_3, .ref (x + 17), .ref (x + 18), .ref (x + 19), .ref (x + 20), .ref (x + 21), .ref (x + 22), .int (nI n_6), .ref (x + 23), .ref (x + 24), .int (nI tk), .ref (x + 25), .int (nI il), .int (nI i_4), .int ec, .int ep, .int 1, .int (nI i_1), .int nu, .long i_5]) := ((hF14 x (fun j9 h8 h7 => (show False from h7).elim)).trans h_38)
              refine z_put (ref := "FlowExporterModel") (C := RX12) (T := TX12) (N := 54) (ci := 14) (v := .long (((i_5 * 32) + ((bA fB il i_4).toInt64)) - 96)) B hu_X12_advanceToken_X12 tyX12 tyX12_ok nmX12 rfl 53 (Nat.le_of_ble_eq_true rfl) hv_X12_advanceToken_467 rfl (Or.inl rfl) h_41 hx rfl rfl (Nat.le_of_ble_eq_true rfl) dX12_advanceToken_192 (fun Φ27 hΦ16 => ?_)
              have h_42 : Φ27 x = some (o_ 14 [.int th, .ref (x + 1), .ref (x + 2), .int ti, .int ra, .int (nI rt), .int ex, .int ad, .ref (x + 3), .ref (x + 4), .int me, .long se, .ref (x + 5), .int (nI fl), .int dr, .long ob, .long sa, .long sn, .long us, .ref (x + 6), .ref (x + 7), .int (nI pe), .ref (x + 8), .int (nI le), .ref (x + 9), .ref (x + 10), .int (nI qu), .ref (x + 11), .ref (x + 12), .ref (x + 13), .ref (x + 14), .ref (x + 15), .ref (x + 16), .int (nI n_5), .long v_3, .ref (x + 17), .ref (x + 18), .ref (x + 19), .ref (x + 20), .ref (x + 21), .ref (x + 22), .int (nI n_6), .ref (x + 23), .ref (x + 24), .int (nI tk), .ref (x + 25), .int (nI il), .int (nI i_4), .int ec, .int ep, .int 1, .int (nI i_1), .int nu, .long (((i_5 * 32) + ((bA fB il i_4).toInt64)) - 96)]) := fset_at hΦ16
              have hI30 : Im G x (rd, nw, cr, tp, tt, sI, sT, pt, ql, fl, pe, le, i_4, il, qu, 1, ec, nu, ((i_5 * 32) + ((bA fB il i_4).toInt64)) - 96, i_1, ep, ti, ad, ob, ra, rt, ex, sa, us, tk, th, me, dr, se, sn) Φ27 := Im.put0 hI29 hΦ16 ⟨n_5, v_3, n_6, rfl, b_54, b_42, b_43, b_44, b_45, b_46, b_47, b_48, b_49, b_50, b_51, b_52, b_53⟩
              refine z_aload_n B dX12_advanceToken_195 rfl 0 rfl ?_
              refine z_dup B dX12_advanceToken_196 rfl ?_
              refine z_get (ref := "FlowExporterModel") (C := RX12) (T := TX12) (N := 54) (ci := 14) (v := .int (nI i_4)) B hu_X12_advanceToken_X12 rfl 47 (Nat.le_of_ble_eq_true rfl) hv_X12_advanceToken_458 rfl h_42 rfl dX12_advanceToken_197 ?_
              refine z_iconst (v := 1) B dX12_advanceToken_200 rfl ?_
              refine z_iadd B dX12_advanceToken_201 ?_
              refine z_top (st1 := [.int (nI (i_4 + 1)), .ref x]) (congrArg (fun w9 : Int32 => ([.int w9, .ref x] : List Value)) (nI_add i_4 1)) ?_
              refine z_put (ref := "FlowExporterModel") (C := RX12) (T := TX12) (N := 54) (ci := 14) (v := .int (nI (i_4 + 1))) B hu_X12_advanceToken_X12 tyX12 tyX12_ok nmX12 rfl 47 (Nat.le_of_ble_eq_true rfl) hv_X12_advanceToken_458 rfl (Or.inl rfl) h_42 hx rfl rfl (Nat.le_of_ble_eq_true rfl) dX12_advanceToken_202 (fun Φ28 hΦ17 => ?_)
              have h_43 : Φ28 x = some (o_ 14 [.int th, .ref (x + 1), .ref (x + 2), .int ti, .int ra, .int (nI rt), .int ex, .int ad, .ref (x + 3), .ref (x + 4), .int me, .long se, .ref (x + 5), .int (nI fl), .int dr, .long ob, .long sa, .long sn, .long us, .ref (x + 6), .ref (x + 7), .int (nI pe), .ref (x + 8), .int (nI le), .ref (x + 9), .ref (x + 10), .int (nI qu), .ref (x + 11), .ref (x + 12), .ref (x + 13), .ref (x + 14), .ref (x + 15), .ref (x + 16), .int (nI n_5), .long v_3, .ref (x + 17), .ref (x + 18), .ref (x + 19), .ref (x + 20), .ref (x + 21), .ref (x + 22), .int (nI n_6), .ref (x + 23), .ref (x + 24), .int (nI tk), .ref (x + 25), .int (nI il), .int (nI (i_4 + 1)), .int ec, .int ep, .int 1, .int (nI i_1), .int nu, .long (((i_5 * 32) + ((bA fB il i_4).toInt64)) - 96)]) := fset_at hΦ17
              have hI31 : Im G x (rd, nw, cr, tp, tt, sI, sT, pt, ql, fl, pe, le, i_4 + 1, il, qu, 1, ec, nu, ((i_5 * 32) + ((bA fB il i_4).toInt64)) - 96, i_1, ep, ti, ad, ob, ra, rt, ex, sa, us, tk, th, me, dr, se, sn) Φ28 := Im.put0 hI30 hΦ17 ⟨n_5, v_3, n_6, rfl, b_54, b_42, b_43, b_44, b_45, b_46, b_47, b_48, b_49, b_50, b_51, (show (i_4 + 1) ≤ 701 by omega), b_53⟩
              refine z_goto (tgt := 133) B dX12_advanceToken_205 rfl ?_
              refine z_lv [0] rfl ?_
              exact ih3 (i_4 + 1, ((i_5 * 32) + ((bA fB il i_4).toInt64)) - 96) Φ28 (show il - (i_4 + 1) < il - i_4 by omega) ⟨hI31, (fun b9 h9 => ((fset_fr hΦ17 (fun h8 => h9 (0) h8 (show 0 = 0 by decide))).trans ((fset_fr hΦ16 (fun h8 => h9 (0) h8 (show 0 = 0 by decide))).trans ((hF14 b9 (fun j9 h8 h7 => (show False from h7).elim)).trans ((hF13 b9 (fun j9 h8 h7 => (show False from h7).elim)).trans ((hF12 b9 (fun j9 h8 h7 => (show False from h7).elim)).trans ((hF11 b9 h9).trans rfl))))))), (show i_1 ≤ (i_4 + 1) by omega), (show (i_4 + 1) ≤ il by omega), (al_b b_40 ⟨hL4, by omega⟩), (WvR_s b_41 (by omega) (by omega) b_40 hL4 (by omega)), trivial⟩
      · have e_14 : kO (bA fB il i_1) = 0 := kO_0.mpr c_3
        refine z_iconst (v := 0) B dX12_advanceToken_67 rfl ?_
        refine z_goto (tgt := 104) B dX12_advanceToken_68 rfl ?_
        have h_44 : Φ6 x = some (o_ 14 [.int th, .ref (x + 1), .ref (x + 2), .int ti, .int ra, .int (nI rt), .int ex, .int ad, .ref (x + 3), .ref (x + 4), .int me, .long se, .ref (x + 5), .int (nI fl), .int dr, .long ob, .long sa, .long sn, .long us, .ref (x + 6), .ref (x + 7), .int (nI pe), .ref (x + 8), .int (nI le), .ref (x + 9), .ref (x + 10), .int (nI qu), .ref (x + 11), .ref (x + 12), .ref (x + 13), .ref (x + 14), .ref (x + 15), .ref (x + 16), .int (nI n_1), .long v_1, .ref (x + 17), .ref (x + 18), .ref (x + 19), .ref (x + 20), .ref (x + 21), .ref (x + 22), .int (nI n_2), .ref (x + 23), .ref (x + 24), .int (nI tk), .ref (x + 25), .int (nI il), .int (nI i_1), .int ec, .int ep, .int kn, .int (nI i_1), .int nu, .long 0]) := ((hF4 x (fun j9 h8 h7 => (show False from h7).elim)).trans h_10)
        refine z_put (ref := "FlowExporterModel") (C := RX12) (T := TX12) (N := 54) (ci := 14) (v := .int 0) B hu_X12_advanceToken_X12 tyX12 tyX12_ok nmX12 rfl 50 (Nat.le_of_ble_eq_true rfl) hv_X12_advanceToken_476 rfl (Or.inl rfl) h_44 hx rfl rfl (Nat.le_of_ble_eq_true rfl) dX12_advanceToken_104 (fun Φ29 hΦ18 => ?_)
        have h_45 : Φ29 x = some (o_ 14 [.int th, .ref (x + 1), .ref (x + 2), .int ti, .int ra, .int (nI rt), .int ex, .int ad, .ref (x + 3), .ref (x + 4), .int me, .long se, .ref (x + 5), .int (nI fl), .int dr, .long ob, .long sa, .long sn, .long us, .ref (x + 6), .ref (x + 7), .int (nI pe), .ref (x + 8), .int (nI le), .ref (x + 9), .ref (x + 10), .int (nI qu), .ref (x + 11), .ref (x + 12), .ref (x + 13), .ref (x + 14), .ref (x + 15), .ref (x + 16), .int (nI n_1), .long v_1, .ref (x + 17), .ref (x + 18), .ref (x + 19), .ref (x + 20), .ref (x + 21), .ref (x + 22), .int (nI n_2), .ref (x + 23), .ref (x + 24), .int (nI tk), .ref (x + 25), .int (nI il), .int (nI i_1), .int ec, .int ep, .int 0, .int (nI i_1), .int nu, .long 0]) := fset_at hΦ18
        have hI32 : Im G x (rd, nw, cr, tp, tt, sI, sT, pt, ql, fl, pe, le, i_1, il, qu, 0, ec, nu, 0, i_1, ep, ti, ad, ob, ra, rt, ex, sa, us, tk, th, me, dr, se, sn) Φ29 := Im.put0 hI7 hΦ18 ⟨n_1, v_1, n_2, rfl, b_16, b_4, b_5, b_6, b_7, b_8, b_9, b_10, b_11, b_12, b_13, b_14, b_14⟩
        refine z_aload_n B dX12_advanceToken_107 rfl 1 rfl ?_
        refine z_get (ref := "FlowExporterModel") (C := RX12) (T := TX12) (N := 54) (ci := 14) (v := .int 0) B hu_X12_advanceToken_X12 rfl 50 (Nat.le_of_ble_eq_true rfl) hv_X12_advanceToken_476 rfl h_45 rfl dX12_advanceToken_108 ?_
        refine z_iconst (v := 3) B dX12_advanceToken_111 rfl ?_
        refine z_icmp_eq (tgt := 123) B dX12_advanceToken_112 rfl (fun h9 => absurd h9 (by decide)) (fun c_40 => ?_)
        refine z_aload_n B dX12_advanceToken_115 rfl 1 rfl ?_
        refine z_get (ref := "FlowExporterModel") (C := RX12) (T := TX12) (N := 54) (ci := 14) (v := .int 0) B hu_X12_advanceToken_X12 rfl 50 (Nat.le_of_ble_eq_true rfl) hv_X12_advanceToken_476 rfl h_45 rfl dX12_advanceToken_116 ?_
        refine z_iconst (v := 4) B dX12_advanceToken_119 rfl ?_
        refine z_icmp_ne (tgt := 133) B dX12_advanceToken_120 rfl (fun c_41 => ?_) (fun h9 => absurd h9 (by decide))
        refine z_aload_n B dX12_advanceToken_133 rfl 1 rfl ?_
        refine z_get (ref := "FlowExporterModel") (C := RX12) (T := TX12) (N := 54) (ci := 14) (v := .int 0) B hu_X12_advanceToken_X12 rfl 50 (Nat.le_of_ble_eq_true rfl) hv_X12_advanceToken_476 rfl h_45 rfl dX12_advanceToken_134 ?_
        refine z_iconst (v := 1) B dX12_advanceToken_137 rfl ?_
        refine z_icmp_ne (tgt := 208) B dX12_advanceToken_138 rfl (fun c_42 => ?_) (fun h9 => absurd h9 (by decide))
        refine z_aload_n B dX12_advanceToken_208 rfl 1 rfl ?_
        refine z_get (ref := "FlowExporterModel") (C := RX12) (T := TX12) (N := 54) (ci := 14) (v := .int 0) B hu_X12_advanceToken_X12 rfl 50 (Nat.le_of_ble_eq_true rfl) hv_X12_advanceToken_476 rfl h_45 rfl dX12_advanceToken_209 ?_
        refine z_iconst (v := 2) B dX12_advanceToken_212 rfl ?_
        refine z_icmp_ne (tgt := 283) B dX12_advanceToken_213 rfl (fun c_43 => ?_) (fun h9 => absurd h9 (by decide))
        refine z_aload_n B dX12_advanceToken_283 rfl 1 rfl ?_
        refine z_get (ref := "FlowExporterModel") (C := RX12) (T := TX12) (N := 54) (ci := 14) (v := .int 0) B hu_X12_advanceToken_X12 rfl 50 (Nat.le_of_ble_eq_true rfl) hv_X12_advanceToken_476 rfl h_45 rfl dX12_advanceToken_284 ?_
        refine z_iconst (v := 1) B dX12_advanceToken_287 rfl ?_
        refine z_icmp_ne (tgt := 305) B dX12_advanceToken_288 rfl (fun c_44 => ?_) (fun h9 => absurd h9 (by decide))
        refine z_aload_n B dX12_advanceToken_305 rfl 1 rfl ?_
        refine z_get (ref := "FlowExporterModel") (C := RX12) (T := TX12) (N := 54) (ci := 14) (v := .int 0) B hu_X12_advanceToken_X12 rfl 50 (Nat.le_of_ble_eq_true rfl) hv_X12_advanceToken_476 rfl h_45 rfl dX12_advanceToken_306 ?_
        refine z_iconst (v := 2) B dX12_advanceToken_309 rfl ?_
        refine z_icmp_ne (tgt := 332) B dX12_advanceToken_310 rfl (fun c_45 => ?_) (fun h9 => absurd h9 (by decide))
        refine z_ret_v B dX12_advanceToken_332 ⟨rfl, rfl, ⟨i_1, 0, 0, i_1, ?_, hI32⟩, ?_⟩
        · exact (TkR.mk (k := 0) (Tk_run (by omega) b_3 e_2 (by omega) (by omega) (by omega) (fun i9 h8 h7 => absurd h7 (by omega)) (Or.inr (bA_z e_14)) (by omega) (by omega)) rfl (by decide) (fun h9 => absurd h9 (by decide)) (fun h9 => absurd h9 (by decide)))
        · exact (fun b9 h9 => ((fset_fr hΦ18 (fun h8 => h9 (0) h8 (show 0 = 0 by decide))).trans ((hF4 b9 (fun j9 h8 h7 => (show False from h7).elim)).trans ((fset_fr hΦ3 (fun h8 => h9 (0) h8 (show 0 = 0 by decide))).trans ((fset_fr hΦ2 (fun h8 => h9 (0) h8 (show 0 = 0 by decide))).trans ((hF3 b9 (fun j9 h8 h7 => (show False from h7).elim)).trans ((hF2 b9 (fun j9 h8 h7 => (show False from h7).elim)).trans ((hF1 b9 h9).trans rfl))))))))
    · have e_15 := kO_1.mpr (Or.inr c_2)
      have b_56 := bA_k (by omega) e_15
      refine z_aload_n B dX12_advanceToken_26 rfl 0 rfl ?_
      refine z_dup B dX12_advanceToken_27 rfl ?_
      have h_46 : Φ3 x = some (o_ 14 [.int th, .ref (x + 1), .ref (x + 2), .int ti, .int ra, .int (nI rt), .int ex, .int ad, .ref (x + 3), .ref (x + 4), .int me, .long se, .ref (x + 5), .int (nI fl), .int dr, .long ob, .long sa, .long sn, .long us, .ref (x + 6), .ref (x + 7), .int (nI pe), .ref (x + 8), .int (nI le), .ref (x + 9), .ref (x + 10), .int (nI qu), .ref (x + 11), .ref (x + 12), .ref (x + 13), .ref (x + 14), .ref (x + 15), .ref (x + 16), .int (nI n_1), .long v_1, .ref (x + 17), .ref (x + 18), .ref (x + 19), .ref (x + 20), .ref (x + 21), .ref (x + 22), .int (nI n_2), .ref (x + 23), .ref (x + 24), .int (nI tk), .ref (x + 25), .int (nI il), .int (nI i_1), .int ec, .int ep, .int kn, .int (nI st), .int nu, .long va]) := ((hF3 x (fun j9 h8 h7 => (show False from h7).elim)).trans h_6)
      refine z_get (ref := "FlowExporterModel") (C := RX12) (T := TX12) (N := 54) (ci := 14) (v := .int (nI i_1)) B hu_X12_advanceToken_X12 rfl 47 (Nat.le_of_ble_eq_true rfl) hv_X12_advanceToken_458 rfl h_46 rfl dX12_advanceToken_28 ?_
      refine z_iconst (v := 1) B dX12_advanceToken_31 rfl ?_
      refine z_iadd B dX12_advanceToken_32 ?_
      refine z_top (st1 := [.int (nI (i_1 + 1)), .ref x]) (congrArg (fun w9 : Int32 => ([.int w9, .ref x] : List Value)) (nI_add i_1 1)) ?_
      refine z_put (ref := "FlowExporterModel") (C := RX12) (T := TX12) (N := 54) (ci := 14) (v := .int (nI (i_1 + 1))) B hu_X12_advanceToken_X12 tyX12 tyX12_ok nmX12 rfl 47 (Nat.le_of_ble_eq_true rfl) hv_X12_advanceToken_458 rfl (Or.inl rfl) h_46 hx rfl rfl (Nat.le_of_ble_eq_true rfl) dX12_advanceToken_33 (fun Φ30 hΦ19 => ?_)
      have h_47 : Φ30 x = some (o_ 14 [.int th, .ref (x + 1), .ref (x + 2), .int ti, .int ra, .int (nI rt), .int ex, .int ad, .ref (x + 3), .ref (x + 4), .int me, .long se, .ref (x + 5), .int (nI fl), .int dr, .long ob, .long sa, .long sn, .long us, .ref (x + 6), .ref (x + 7), .int (nI pe), .ref (x + 8), .int (nI le), .ref (x + 9), .ref (x + 10), .int (nI qu), .ref (x + 11), .ref (x + 12), .ref (x + 13), .ref (x + 14), .ref (x + 15), .ref (x + 16), .int (nI n_1), .long v_1, .ref (x + 17), .ref (x + 18), .ref (x + 19), .ref (x + 20), .ref (x + 21), .ref (x + 22), .int (nI n_2), .ref (x + 23), .ref (x + 24), .int (nI tk), .ref (x + 25), .int (nI il), .int (nI (i_1 + 1)), .int ec, .int ep, .int kn, .int (nI st), .int nu, .long va]) := fset_at hΦ19
      have hI33 : Im G x (rd, nw, cr, tp, tt, sI, sT, pt, ql, fl, pe, le, i_1 + 1, il, qu, kn, ec, nu, va, st, ep, ti, ad, ob, ra, rt, ex, sa, us, tk, th, me, dr, se, sn) Φ30 := Im.put0 hI4 hΦ19 ⟨n_1, v_1, n_2, rfl, b_16, b_4, b_5, b_6, b_7, b_8, b_9, b_10, b_11, b_12, b_13, (show (i_1 + 1) ≤ 701 by omega), b_15⟩
      refine z_goto (tgt := 0) B dX12_advanceToken_36 rfl ?_
      refine z_lv [0] rfl ?_
      exact ih1 (i_1 + 1) Φ30 (show il - (i_1 + 1) < il - i_1 by omega) ⟨hI33, (fun b9 h9 => ((fset_fr hΦ19 (fun h8 => h9 (0) h8 (show 0 = 0 by decide))).trans ((hF3 b9 (fun j9 h8 h7 => (show False from h7).elim)).trans ((hF2 b9 (fun j9 h8 h7 => (show False from h7).elim)).trans ((hF1 b9 h9).trans rfl))))), (show nx ≤ (i_1 + 1) by omega), (show (i_1 + 1) ≤ il by omega), (no_b b_3 ⟨e_15, by omega⟩), trivial⟩

set_option maxRecDepth 20000 in
theorem ggX12_readNumber_X12_fail : GoodIn wsX12_readNumber wsX12_fail := (goodIn_ca (goodIn_r _ [8, 9, 10, 11] rfl (by decide +kernel)) (goodIn_sub (fun _ h => List.mem_cons_of_mem _ (List.mem_append_left _ (List.mem_append_right _ h))) gw_wsX120))
set_option maxRecDepth 20000 in
theorem gX12_readNumber_X12_fail : GoodIn wsX12_readNumber (wsV RX12 483 RX12 yX12_fail wsX12_fail) := goodIn_app (goodIn_m (mem_cA (List.mem_cons_of_mem _ (List.mem_append_left _ (List.mem_append_left _ (List.mem_append_left _ (List.mem_of_getElem? (i := 3) rfl))))) (mem_cA (List.mem_cons_of_mem _ (List.mem_append_left _ (List.mem_append_left _ (List.mem_append_left _ (List.mem_of_getElem? (i := 4) rfl))))) (mem_cA (List.mem_cons_of_mem _ (List.mem_append_left _ (List.mem_append_left _ (List.mem_append_left _ (List.mem_of_getElem? (i := 5) rfl))))) (mem_cA (List.mem_cons_of_mem _ (List.mem_append_left _ (List.mem_append_left _ (List.mem_append_left _ (List.mem_of_getElem? (i := 6) rfl))))) mem_cZ)))) (by decide +kernel)) ggX12_readNumber_X12_fail
set_option maxRecDepth 20000 in
theorem ggX12_readNumber_X12_inRange : GoodIn wsX12_readNumber wsX12_inRange := (goodIn_r _ [14] rfl (by decide +kernel))
set_option maxRecDepth 20000 in
theorem gX12_readNumber_X12_inRange : GoodIn wsX12_readNumber (va_wsS RX12 169 yX12_inRange wsX12_inRange) := goodIn_app (goodIn_m (mem_cA (List.mem_cons_of_mem _ (List.mem_append_left _ (List.mem_append_left _ (List.mem_append_left _ (List.mem_of_getElem? (i := 11) rfl))))) (mem_cA (List.mem_cons_of_mem _ (List.mem_append_left _ (List.mem_append_left _ (List.mem_append_left _ (List.mem_of_getElem? (i := 12) rfl))))) (mem_cA (List.mem_cons_of_mem _ (List.mem_append_left _ (List.mem_append_left _ (List.mem_append_left _ (List.mem_of_getElem? (i := 6) rfl))))) mem_cZ))) (by decide +kernel)) ggX12_readNumber_X12_inRange
set_option maxRecDepth 20000 in
theorem ggX12_readNumber_X12_advanceToken : GoodIn wsX12_readNumber wsX12_advanceToken := goodIn_ca ((goodIn_ca (goodIn_r _ [18, 19, 10, 2, 1, 20, 21, 22, 23, 24, 25, 26, 7, 27, 28, 29, 30, 31, 32, 33, 34, 12, 13, 14, 35, 36, 37, 38] rfl (by decide +kernel)) (goodIn_sub (fun _ h => List.mem_cons_of_mem _ (List.mem_append_left _ (List.mem_append_right _ h))) gw_wsX120))) (goodIn_sub (fun _ h => List.mem_cons_of_mem _ (List.mem_append_right _ h)) (all_fg _))
set_option maxRecDepth 20000 in
theorem gX12_readNumber_X12_advanceToken : GoodIn wsX12_readNumber (wsV RX12 489 RX12 yX12_advanceToken wsX12_advanceToken) := goodIn_app (goodIn_m (mem_cA (List.mem_cons_of_mem _ (List.mem_append_left _ (List.mem_append_left _ (List.mem_append_left _ (List.mem_of_getElem? (i := 14) rfl))))) (mem_cA (List.mem_cons_of_mem _ (List.mem_append_left _ (List.mem_append_left _ (List.mem_append_left _ (List.mem_of_getElem? (i := 15) rfl))))) (mem_cA (List.mem_cons_of_mem _ (List.mem_append_left _ (List.mem_append_left _ (List.mem_append_left _ (List.mem_of_getElem? (i := 16) rfl))))) (mem_cA (List.mem_cons_of_mem _ (List.mem_append_left _ (List.mem_append_left _ (List.mem_append_left _ (List.mem_of_getElem? (i := 6) rfl))))) mem_cZ)))) (by decide +kernel)) ggX12_readNumber_X12_advanceToken
theorem dX12_readNumber_0 : decode cX12_readNumber 0 = .ok (.aload_n 0, 1) := by decide +kernel
theorem dX12_readNumber_1 : decode cX12_readNumber 1 = .ok (.getfield 476, 3) := by decide +kernel
theorem dX12_readNumber_4 : decode cX12_readNumber 4 = .ok (.iconst 2, 1) := by decide +kernel
theorem dX12_readNumber_5 : decode cX12_readNumber 5 = .ok (.if_icmp .eq 9, 3) := by decide +kernel
theorem dX12_readNumber_8 : decode cX12_readNumber 8 = .ok (.aload_n 0, 1) := by decide +kernel
theorem dX12_readNumber_9 : decode cX12_readNumber 9 = .ok (.iconst 1, 1) := by decide +kernel
theorem dX12_readNumber_10 : decode cX12_readNumber 10 = .ok (.invokevirtual 483, 3) := by decide +kernel
theorem dX12_readNumber_13 : decode cX12_readNumber 13 = .ok (.ireturn, 1) := by decide +kernel
theorem dX12_readNumber_14 : decode cX12_readNumber 14 = .ok (.aload_n 0, 1) := by decide +kernel
theorem dX12_readNumber_15 : decode cX12_readNumber 15 = .ok (.getfield 467, 3) := by decide +kernel
theorem dX12_readNumber_18 : decode cX12_readNumber 18 = .ok (.iload_n 1, 1) := by decide +kernel
theorem dX12_readNumber_19 : decode cX12_readNumber 19 = .ok (.i2l, 1) := by decide +kernel
theorem dX12_readNumber_20 : decode cX12_readNumber 20 = .ok (.iload_n 2, 1) := by decide +kernel
theorem dX12_readNumber_21 : decode cX12_readNumber 21 = .ok (.i2l, 1) := by decide +kernel
theorem dX12_readNumber_22 : decode cX12_readNumber 22 = .ok (.invokestatic 169, 3) := by decide +kernel
theorem dX12_readNumber_25 : decode cX12_readNumber 25 = .ok (.ifCond .ne 9, 3) := by decide +kernel
theorem dX12_readNumber_28 : decode cX12_readNumber 28 = .ok (.aload_n 0, 1) := by decide +kernel
theorem dX12_readNumber_29 : decode cX12_readNumber 29 = .ok (.iconst 2, 1) := by decide +kernel
theorem dX12_readNumber_30 : decode cX12_readNumber 30 = .ok (.invokevirtual 483, 3) := by decide +kernel
theorem dX12_readNumber_33 : decode cX12_readNumber 33 = .ok (.ireturn, 1) := by decide +kernel
theorem dX12_readNumber_34 : decode cX12_readNumber 34 = .ok (.aload_n 0, 1) := by decide +kernel
theorem dX12_readNumber_35 : decode cX12_readNumber 35 = .ok (.aload_n 0, 1) := by decide +kernel
theorem dX12_readNumber_36 : decode cX12_readNumber 36 = .ok (.getfield 467, 3) := by decide +kernel
theorem dX12_readNumber_39 : decode cX12_readNumber 39 = .ok (.l2i, 1) := by decide +kernel
theorem dX12_readNumber_40 : decode cX12_readNumber 40 = .ok (.putfield 486, 3) := by decide +kernel
theorem dX12_readNumber_43 : decode cX12_readNumber 43 = .ok (.aload_n 0, 1) := by decide +kernel
theorem dX12_readNumber_44 : decode cX12_readNumber 44 = .ok (.invokevirtual 489, 3) := by decide +kernel
theorem dX12_readNumber_47 : decode cX12_readNumber 47 = .ok (.iconst 1, 1) := by decide +kernel
theorem dX12_readNumber_48 : decode cX12_readNumber 48 = .ok (.ireturn, 1) := by decide +kernel
set_option maxRecDepth 20000 in
theorem ggX12_fieldHere_X12_pack : GoodIn wsX12_fieldHere wsX12_pack := (goodIn_r _ [8, 9, 10] rfl (by decide +kernel))
set_option maxRecDepth 20000 in
theorem gX12_fieldHere_X12_pack : GoodIn wsX12_fieldHere (va_wsS RX12 495 yX12_pack wsX12_pack) := goodIn_app (goodIn_m (mem_cA (List.mem_cons_of_mem _ (List.mem_append_left _ (List.mem_of_getElem? (i := 4) rfl))) (mem_cA (List.mem_cons_of_mem _ (List.mem_append_left _ (List.mem_of_getElem? (i := 5) rfl))) (mem_cA (List.mem_cons_of_mem _ (List.mem_append_left _ (List.mem_of_getElem? (i := 6) rfl))) mem_cZ))) (by decide +kernel)) ggX12_fieldHere_X12_pack
theorem dX12_fieldHere_0 : decode cX12_fieldHere 0 = .ok (.aload_n 0, 1) := by decide +kernel
theorem dX12_fieldHere_1 : decode cX12_fieldHere 1 = .ok (.getfield 476, 3) := by decide +kernel
theorem dX12_fieldHere_4 : decode cX12_fieldHere 4 = .ok (.iconst 1, 1) := by decide +kernel
theorem dX12_fieldHere_5 : decode cX12_fieldHere 5 = .ok (.if_icmp .eq 5, 3) := by decide +kernel
theorem dX12_fieldHere_8 : decode cX12_fieldHere 8 = .ok (.iconst (-1), 1) := by decide +kernel
theorem dX12_fieldHere_9 : decode cX12_fieldHere 9 = .ok (.ireturn, 1) := by decide +kernel
theorem dX12_fieldHere_10 : decode cX12_fieldHere 10 = .ok (.aload_n 0, 1) := by decide +kernel
theorem dX12_fieldHere_11 : decode cX12_fieldHere 11 = .ok (.getfield 467, 3) := by decide +kernel
theorem dX12_fieldHere_14 : decode cX12_fieldHere 14 = .ok (.bipush 115, 2) := by decide +kernel
theorem dX12_fieldHere_16 : decode cX12_fieldHere 16 = .ok (.bipush 111, 2) := by decide +kernel
theorem dX12_fieldHere_18 : decode cX12_fieldHere 18 = .ok (.bipush 117, 2) := by decide +kernel
theorem dX12_fieldHere_20 : decode cX12_fieldHere 20 = .ok (.bipush 114, 2) := by decide +kernel
theorem dX12_fieldHere_22 : decode cX12_fieldHere 22 = .ok (.bipush 99, 2) := by decide +kernel
theorem dX12_fieldHere_24 : decode cX12_fieldHere 24 = .ok (.bipush 101, 2) := by decide +kernel
theorem dX12_fieldHere_26 : decode cX12_fieldHere 26 = .ok (.invokestatic 495, 3) := by decide +kernel
theorem dX12_fieldHere_29 : decode cX12_fieldHere 29 = .ok (.lcmp, 1) := by decide +kernel
theorem dX12_fieldHere_30 : decode cX12_fieldHere 30 = .ok (.ifCond .ne 5, 3) := by decide +kernel
theorem dX12_fieldHere_33 : decode cX12_fieldHere 33 = .ok (.iconst 0, 1) := by decide +kernel
theorem dX12_fieldHere_34 : decode cX12_fieldHere 34 = .ok (.ireturn, 1) := by decide +kernel
theorem dX12_fieldHere_35 : decode cX12_fieldHere 35 = .ok (.aload_n 0, 1) := by decide +kernel
theorem dX12_fieldHere_36 : decode cX12_fieldHere 36 = .ok (.getfield 467, 3) := by decide +kernel
theorem dX12_fieldHere_39 : decode cX12_fieldHere 39 = .ok (.bipush 100, 2) := by decide +kernel
theorem dX12_fieldHere_41 : decode cX12_fieldHere 41 = .ok (.bipush 101, 2) := by decide +kernel
theorem dX12_fieldHere_43 : decode cX12_fieldHere 43 = .ok (.bipush 115, 2) := by decide +kernel
theorem dX12_fieldHere_45 : decode cX12_fieldHere 45 = .ok (.bipush 116, 2) := by decide +kernel
theorem dX12_fieldHere_47 : decode cX12_fieldHere 47 = .ok (.bipush 105, 2) := by decide +kernel
theorem dX12_fieldHere_49 : decode cX12_fieldHere 49 = .ok (.bipush 110, 2) := by decide +kernel
theorem dX12_fieldHere_51 : decode cX12_fieldHere 51 = .ok (.invokestatic 495, 3) := by decide +kernel
theorem dX12_fieldHere_54 : decode cX12_fieldHere 54 = .ok (.ldc2_w 499, 3) := by decide +kernel
theorem dX12_fieldHere_57 : decode cX12_fieldHere 57 = .ok (.lmul, 1) := by decide +kernel
theorem dX12_fieldHere_58 : decode cX12_fieldHere 58 = .ok (.bipush 97, 2) := by decide +kernel
theorem dX12_fieldHere_60 : decode cX12_fieldHere 60 = .ok (.bipush 116, 2) := by decide +kernel
theorem dX12_fieldHere_62 : decode cX12_fieldHere 62 = .ok (.bipush 105, 2) := by decide +kernel
theorem dX12_fieldHere_64 : decode cX12_fieldHere 64 = .ok (.bipush 111, 2) := by decide +kernel
theorem dX12_fieldHere_66 : decode cX12_fieldHere 66 = .ok (.bipush 110, 2) := by decide +kernel
theorem dX12_fieldHere_68 : decode cX12_fieldHere 68 = .ok (.iconst 0, 1) := by decide +kernel
theorem dX12_fieldHere_69 : decode cX12_fieldHere 69 = .ok (.invokestatic 495, 3) := by decide +kernel
theorem dX12_fieldHere_72 : decode cX12_fieldHere 72 = .ok (.ladd, 1) := by decide +kernel
theorem dX12_fieldHere_73 : decode cX12_fieldHere 73 = .ok (.lcmp, 1) := by decide +kernel
theorem dX12_fieldHere_74 : decode cX12_fieldHere 74 = .ok (.ifCond .ne 5, 3) := by decide +kernel
theorem dX12_fieldHere_77 : decode cX12_fieldHere 77 = .ok (.iconst 1, 1) := by decide +kernel
theorem dX12_fieldHere_78 : decode cX12_fieldHere 78 = .ok (.ireturn, 1) := by decide +kernel
theorem dX12_fieldHere_79 : decode cX12_fieldHere 79 = .ok (.aload_n 0, 1) := by decide +kernel
theorem dX12_fieldHere_80 : decode cX12_fieldHere 80 = .ok (.getfield 467, 3) := by decide +kernel
theorem dX12_fieldHere_83 : decode cX12_fieldHere 83 = .ok (.bipush 112, 2) := by decide +kernel
theorem dX12_fieldHere_85 : decode cX12_fieldHere 85 = .ok (.bipush 111, 2) := by decide +kernel
theorem dX12_fieldHere_87 : decode cX12_fieldHere 87 = .ok (.bipush 114, 2) := by decide +kernel
theorem dX12_fieldHere_89 : decode cX12_fieldHere 89 = .ok (.bipush 116, 2) := by decide +kernel
theorem dX12_fieldHere_91 : decode cX12_fieldHere 91 = .ok (.iconst 0, 1) := by decide +kernel
theorem dX12_fieldHere_92 : decode cX12_fieldHere 92 = .ok (.iconst 0, 1) := by decide +kernel
theorem dX12_fieldHere_93 : decode cX12_fieldHere 93 = .ok (.invokestatic 495, 3) := by decide +kernel
theorem dX12_fieldHere_96 : decode cX12_fieldHere 96 = .ok (.lcmp, 1) := by decide +kernel
theorem dX12_fieldHere_97 : decode cX12_fieldHere 97 = .ok (.ifCond .ne 5, 3) := by decide +kernel
theorem dX12_fieldHere_100 : decode cX12_fieldHere 100 = .ok (.iconst 2, 1) := by decide +kernel
theorem dX12_fieldHere_101 : decode cX12_fieldHere 101 = .ok (.ireturn, 1) := by decide +kernel
theorem dX12_fieldHere_102 : decode cX12_fieldHere 102 = .ok (.aload_n 0, 1) := by decide +kernel
theorem dX12_fieldHere_103 : decode cX12_fieldHere 103 = .ok (.getfield 467, 3) := by decide +kernel
theorem dX12_fieldHere_106 : decode cX12_fieldHere 106 = .ok (.bipush 112, 2) := by decide +kernel
theorem dX12_fieldHere_108 : decode cX12_fieldHere 108 = .ok (.bipush 114, 2) := by decide +kernel
theorem dX12_fieldHere_110 : decode cX12_fieldHere 110 = .ok (.bipush 111, 2) := by decide +kernel
theorem dX12_fieldHere_112 : decode cX12_fieldHere 112 = .ok (.bipush 116, 2) := by decide +kernel
theorem dX12_fieldHere_114 : decode cX12_fieldHere 114 = .ok (.bipush 111, 2) := by decide +kernel
theorem dX12_fieldHere_116 : decode cX12_fieldHere 116 = .ok (.iconst 0, 1) := by decide +kernel
theorem dX12_fieldHere_117 : decode cX12_fieldHere 117 = .ok (.invokestatic 495, 3) := by decide +kernel
theorem dX12_fieldHere_120 : decode cX12_fieldHere 120 = .ok (.ldc2_w 501, 3) := by decide +kernel
theorem dX12_fieldHere_123 : decode cX12_fieldHere 123 = .ok (.lmul, 1) := by decide +kernel
theorem dX12_fieldHere_124 : decode cX12_fieldHere 124 = .ok (.bipush 99, 2) := by decide +kernel
theorem dX12_fieldHere_126 : decode cX12_fieldHere 126 = .ok (.bipush 111, 2) := by decide +kernel
theorem dX12_fieldHere_128 : decode cX12_fieldHere 128 = .ok (.bipush 108, 2) := by decide +kernel
theorem dX12_fieldHere_130 : decode cX12_fieldHere 130 = .ok (.iconst 0, 1) := by decide +kernel
theorem dX12_fieldHere_131 : decode cX12_fieldHere 131 = .ok (.iconst 0, 1) := by decide +kernel
theorem dX12_fieldHere_132 : decode cX12_fieldHere 132 = .ok (.iconst 0, 1) := by decide +kernel
theorem dX12_fieldHere_133 : decode cX12_fieldHere 133 = .ok (.invokestatic 495, 3) := by decide +kernel
theorem dX12_fieldHere_136 : decode cX12_fieldHere 136 = .ok (.ladd, 1) := by decide +kernel
theorem dX12_fieldHere_137 : decode cX12_fieldHere 137 = .ok (.lcmp, 1) := by decide +kernel
theorem dX12_fieldHere_138 : decode cX12_fieldHere 138 = .ok (.ifCond .ne 5, 3) := by decide +kernel
theorem dX12_fieldHere_141 : decode cX12_fieldHere 141 = .ok (.iconst 3, 1) := by decide +kernel
theorem dX12_fieldHere_142 : decode cX12_fieldHere 142 = .ok (.ireturn, 1) := by decide +kernel
theorem dX12_fieldHere_143 : decode cX12_fieldHere 143 = .ok (.aload_n 0, 1) := by decide +kernel
theorem dX12_fieldHere_144 : decode cX12_fieldHere 144 = .ok (.getfield 467, 3) := by decide +kernel
theorem dX12_fieldHere_147 : decode cX12_fieldHere 147 = .ok (.bipush 112, 2) := by decide +kernel
theorem dX12_fieldHere_149 : decode cX12_fieldHere 149 = .ok (.bipush 97, 2) := by decide +kernel
theorem dX12_fieldHere_151 : decode cX12_fieldHere 151 = .ok (.bipush 99, 2) := by decide +kernel
theorem dX12_fieldHere_153 : decode cX12_fieldHere 153 = .ok (.bipush 107, 2) := by decide +kernel
theorem dX12_fieldHere_155 : decode cX12_fieldHere 155 = .ok (.iconst 0, 1) := by decide +kernel
theorem dX12_fieldHere_156 : decode cX12_fieldHere 156 = .ok (.iconst 0, 1) := by decide +kernel
theorem dX12_fieldHere_157 : decode cX12_fieldHere 157 = .ok (.invokestatic 495, 3) := by decide +kernel
theorem dX12_fieldHere_160 : decode cX12_fieldHere 160 = .ok (.ldc2_w 501, 3) := by decide +kernel
theorem dX12_fieldHere_163 : decode cX12_fieldHere 163 = .ok (.lmul, 1) := by decide +kernel
theorem dX12_fieldHere_164 : decode cX12_fieldHere 164 = .ok (.bipush 101, 2) := by decide +kernel
theorem dX12_fieldHere_166 : decode cX12_fieldHere 166 = .ok (.bipush 116, 2) := by decide +kernel
theorem dX12_fieldHere_168 : decode cX12_fieldHere 168 = .ok (.bipush 115, 2) := by decide +kernel
theorem dX12_fieldHere_170 : decode cX12_fieldHere 170 = .ok (.iconst 0, 1) := by decide +kernel
theorem dX12_fieldHere_171 : decode cX12_fieldHere 171 = .ok (.iconst 0, 1) := by decide +kernel
theorem dX12_fieldHere_172 : decode cX12_fieldHere 172 = .ok (.iconst 0, 1) := by decide +kernel
theorem dX12_fieldHere_173 : decode cX12_fieldHere 173 = .ok (.invokestatic 495, 3) := by decide +kernel
theorem dX12_fieldHere_176 : decode cX12_fieldHere 176 = .ok (.ladd, 1) := by decide +kernel
theorem dX12_fieldHere_177 : decode cX12_fieldHere 177 = .ok (.lcmp, 1) := by decide +kernel
theorem dX12_fieldHere_178 : decode cX12_fieldHere 178 = .ok (.ifCond .ne 5, 3) := by decide +kernel
theorem dX12_fieldHere_181 : decode cX12_fieldHere 181 = .ok (.iconst 4, 1) := by decide +kernel
theorem dX12_fieldHere_182 : decode cX12_fieldHere 182 = .ok (.ireturn, 1) := by decide +kernel
theorem dX12_fieldHere_183 : decode cX12_fieldHere 183 = .ok (.aload_n 0, 1) := by decide +kernel
theorem dX12_fieldHere_184 : decode cX12_fieldHere 184 = .ok (.getfield 467, 3) := by decide +kernel
theorem dX12_fieldHere_187 : decode cX12_fieldHere 187 = .ok (.bipush 98, 2) := by decide +kernel
theorem dX12_fieldHere_189 : decode cX12_fieldHere 189 = .ok (.bipush 121, 2) := by decide +kernel
theorem dX12_fieldHere_191 : decode cX12_fieldHere 191 = .ok (.bipush 116, 2) := by decide +kernel
theorem dX12_fieldHere_193 : decode cX12_fieldHere 193 = .ok (.bipush 101, 2) := by decide +kernel
theorem dX12_fieldHere_195 : decode cX12_fieldHere 195 = .ok (.bipush 115, 2) := by decide +kernel
theorem dX12_fieldHere_197 : decode cX12_fieldHere 197 = .ok (.iconst 0, 1) := by decide +kernel
theorem dX12_fieldHere_198 : decode cX12_fieldHere 198 = .ok (.invokestatic 495, 3) := by decide +kernel
theorem dX12_fieldHere_201 : decode cX12_fieldHere 201 = .ok (.lcmp, 1) := by decide +kernel
theorem dX12_fieldHere_202 : decode cX12_fieldHere 202 = .ok (.ifCond .ne 5, 3) := by decide +kernel
theorem dX12_fieldHere_205 : decode cX12_fieldHere 205 = .ok (.iconst 5, 1) := by decide +kernel
theorem dX12_fieldHere_206 : decode cX12_fieldHere 206 = .ok (.ireturn, 1) := by decide +kernel
theorem dX12_fieldHere_207 : decode cX12_fieldHere 207 = .ok (.aload_n 0, 1) := by decide +kernel
theorem dX12_fieldHere_208 : decode cX12_fieldHere 208 = .ok (.getfield 467, 3) := by decide +kernel
theorem dX12_fieldHere_211 : decode cX12_fieldHere 211 = .ok (.bipush 102, 2) := by decide +kernel
theorem dX12_fieldHere_213 : decode cX12_fieldHere 213 = .ok (.bipush 105, 2) := by decide +kernel
theorem dX12_fieldHere_215 : decode cX12_fieldHere 215 = .ok (.bipush 114, 2) := by decide +kernel
theorem dX12_fieldHere_217 : decode cX12_fieldHere 217 = .ok (.bipush 115, 2) := by decide +kernel
theorem dX12_fieldHere_219 : decode cX12_fieldHere 219 = .ok (.bipush 116, 2) := by decide +kernel
theorem dX12_fieldHere_221 : decode cX12_fieldHere 221 = .ok (.iconst 0, 1) := by decide +kernel
theorem dX12_fieldHere_222 : decode cX12_fieldHere 222 = .ok (.invokestatic 495, 3) := by decide +kernel
theorem dX12_fieldHere_225 : decode cX12_fieldHere 225 = .ok (.lcmp, 1) := by decide +kernel
theorem dX12_fieldHere_226 : decode cX12_fieldHere 226 = .ok (.ifCond .ne 6, 3) := by decide +kernel
theorem dX12_fieldHere_229 : decode cX12_fieldHere 229 = .ok (.bipush 6, 2) := by decide +kernel
theorem dX12_fieldHere_231 : decode cX12_fieldHere 231 = .ok (.ireturn, 1) := by decide +kernel
theorem dX12_fieldHere_232 : decode cX12_fieldHere 232 = .ok (.aload_n 0, 1) := by decide +kernel
theorem dX12_fieldHere_233 : decode cX12_fieldHere 233 = .ok (.getfield 467, 3) := by decide +kernel
theorem dX12_fieldHere_236 : decode cX12_fieldHere 236 = .ok (.bipush 108, 2) := by decide +kernel
theorem dX12_fieldHere_238 : decode cX12_fieldHere 238 = .ok (.bipush 97, 2) := by decide +kernel
theorem dX12_fieldHere_240 : decode cX12_fieldHere 240 = .ok (.bipush 115, 2) := by decide +kernel
theorem dX12_fieldHere_242 : decode cX12_fieldHere 242 = .ok (.bipush 116, 2) := by decide +kernel
theorem dX12_fieldHere_244 : decode cX12_fieldHere 244 = .ok (.iconst 0, 1) := by decide +kernel
theorem dX12_fieldHere_245 : decode cX12_fieldHere 245 = .ok (.iconst 0, 1) := by decide +kernel
theorem dX12_fieldHere_246 : decode cX12_fieldHere 246 = .ok (.invokestatic 495, 3) := by decide +kernel
theorem dX12_fieldHere_249 : decode cX12_fieldHere 249 = .ok (.lcmp, 1) := by decide +kernel
theorem dX12_fieldHere_250 : decode cX12_fieldHere 250 = .ok (.ifCond .ne 6, 3) := by decide +kernel
theorem dX12_fieldHere_253 : decode cX12_fieldHere 253 = .ok (.bipush 7, 2) := by decide +kernel
theorem dX12_fieldHere_255 : decode cX12_fieldHere 255 = .ok (.ireturn, 1) := by decide +kernel
theorem dX12_fieldHere_256 : decode cX12_fieldHere 256 = .ok (.aload_n 0, 1) := by decide +kernel
theorem dX12_fieldHere_257 : decode cX12_fieldHere 257 = .ok (.getfield 467, 3) := by decide +kernel
theorem dX12_fieldHere_260 : decode cX12_fieldHere 260 = .ok (.bipush 114, 2) := by decide +kernel
theorem dX12_fieldHere_262 : decode cX12_fieldHere 262 = .ok (.bipush 97, 2) := by decide +kernel
theorem dX12_fieldHere_264 : decode cX12_fieldHere 264 = .ok (.bipush 116, 2) := by decide +kernel
theorem dX12_fieldHere_266 : decode cX12_fieldHere 266 = .ok (.bipush 101, 2) := by decide +kernel
theorem dX12_fieldHere_268 : decode cX12_fieldHere 268 = .ok (.iconst 0, 1) := by decide +kernel
theorem dX12_fieldHere_269 : decode cX12_fieldHere 269 = .ok (.iconst 0, 1) := by decide +kernel
theorem dX12_fieldHere_270 : decode cX12_fieldHere 270 = .ok (.invokestatic 495, 3) := by decide +kernel
theorem dX12_fieldHere_273 : decode cX12_fieldHere 273 = .ok (.lcmp, 1) := by decide +kernel
theorem dX12_fieldHere_274 : decode cX12_fieldHere 274 = .ok (.ifCond .ne 8, 3) := by decide +kernel
theorem dX12_fieldHere_277 : decode cX12_fieldHere 277 = .ok (.bipush 8, 2) := by decide +kernel
theorem dX12_fieldHere_279 : decode cX12_fieldHere 279 = .ok (.goto 4, 3) := by decide +kernel
theorem dX12_fieldHere_282 : decode cX12_fieldHere 282 = .ok (.iconst (-1), 1) := by decide +kernel
theorem dX12_fieldHere_283 : decode cX12_fieldHere 283 = .ok (.ireturn, 1) := by decide +kernel
set_option maxHeartbeats 4000000 in
set_option maxRecDepth 100000 in
theorem r_fieldHere (G : EnvG) (l : Launch) (Φ : Hm) (sz x : Nat) (rd : (Nat → Int32) → Prop) (nw : (Nat → Int32) → Prop) (cr : (Nat → Int64) → Prop) (tp : (Nat → Int32) → Prop) (tt : (Nat → Int64) → Prop) (sI : (Nat → Int32) → Prop) (sT : (Nat → Int32) → Prop) (pt : (Nat → Int32) → Prop) (ql : (Nat → Int32) → Prop) (fl : Nat) (pe : Nat) (le : Nat) (nx : Nat) (il : Nat) (qu : Nat) (kn : Int32) (ec : Int32) (nu : Int32) (va : Int64) (st : Nat) (ep : Int32) (ti : Int32) (ad : Int32) (ob : Int64) (ra : Int32) (rt : Nat) (ex : Int32) (sa : Int64) (us : Int64) (tk : Nat) (th : Int32) (me : Int32) (dr : Int32) (se : Int64) (sn : Int64)  (hx : G.2.2.2 ≤ x) (hI : Im G x (rd, nw, cr, tp, tt, sI, sT, pt, ql, fl, pe, le, nx, il, qu, kn, ec, nu, va, st, ep, ti, ad, ob, ra, rt, ex, sa, us, tk, th, me, dr, se, sn) Φ) (hnw : ∀ f9 : Nat → Int32, nw f9 → NN f9) : Ct G l yX12_fieldHere wsX12_fieldHere ({ frames := 1, cells := 0, slots := 0, locals := 27 }) 0 0 [.ref x] Φ sz (fun v Φ1 sz1 => (v = some (.int (fHf kn va))) ∧ sz1 = sz ∧ (Im G x (rd, nw, cr, tp, tt, sI, sT, pt, ql, fl, pe, le, nx, il, qu, kn, ec, nu, va, st, ep, ti, ad, ob, ra, rt, ex, sa, us, tk, th, me, dr, se, sn) Φ1) ∧ Fr x (fun j9 => False) Φ Φ1) := by
  refine Ct.of (cc := cX12_fieldHere) (maxL := 1) (ret := (some .int)) (by decide) rfl (Nat.le_of_ble_eq_true rfl) ?_
  intro p9 e9 s9 m9 w9 t9 k9 B
  show Z p9 l e9 _ s9 m9 _ w9 t9 k9 _ G 1 0 [(0, .ref x)] [] Φ sz 0 0
  refine z_aload_n B dX12_fieldHere_0 rfl 0 rfl ?_
  obtain ⟨n_1, v_1, n_2, h_1, b_13, b_1, b_2, b_3, b_4, b_5, b_6, b_7, b_8, b_9, b_10, b_11, b_12⟩ := im0 hI
  replace b_1 : 1 ≤ rt := b_1
  replace b_2 : rt ≤ 1024 := b_2
  replace b_3 : fl ≤ 12 := b_3
  replace b_4 : pe ≤ 24 := b_4
  replace b_5 : le ≤ 700 := b_5
  replace b_6 : qu ≤ 12 := b_6
  replace b_7 : n_1 ≤ 8 := b_7
  replace b_8 : n_2 ≤ 24 := b_8
  replace b_9 : tk ≤ 24 := b_9
  replace b_10 : il ≤ 700 := b_10
  replace b_11 : nx ≤ 701 := b_11
  replace b_12 : st ≤ 701 := b_12
  have h_2 : Φ x = some (o_ 14 [.int th, .ref (x + 1), .ref (x + 2), .int ti, .int ra, .int (nI rt), .int ex, .int ad, .ref (x + 3), .ref (x + 4), .int me, .long se, .ref (x + 5), .int (nI fl), .int dr, .long ob, .long sa, .long sn, .long us, .ref (x + 6), .ref (x + 7), .int (nI pe), .ref (x + 8), .int (nI le), .ref (x + 9), .ref (x + 10), .int (nI qu), .ref (x + 11), .ref (x + 12), .ref (x + 13), .ref (x + 14), .ref (x + 15), .ref (x + 16), .int (nI n_1), .long v_1, .ref (x + 17), .ref (x + 18), .ref (x + 19), .ref (x + 20), .ref (x + 21), .ref (x + 22), .int (nI n_2), .ref (x + 23), .ref (x + 24), .int (nI tk), .ref (x + 25), .int (nI il), .int (nI nx), .int ec, .int ep, .int kn, .int (nI st), .int nu, .long va]) := h_1
  refine z_get (ref := "FlowExporterModel") (C := RX12) (T := TX12) (N := 54) (ci := 14) (v := .int kn) B hu_X12_fieldHere_X12 rfl 50 (Nat.le_of_ble_eq_true rfl) hv_X12_fieldHere_476 rfl h_2 rfl dX12_fieldHere_1 ?_
  refine z_iconst (v := 1) B dX12_fieldHere_4 rfl ?_
  refine z_icmp_eq (tgt := 10) B dX12_fieldHere_5 rfl (fun c_1 => ?_) (fun c_1 => ?_)
  · refine z_aload_n B dX12_fieldHere_10 rfl 0 rfl ?_
    refine z_get (ref := "FlowExporterModel") (C := RX12) (T := TX12) (N := 54) (ci := 14) (v := .long va) B hu_X12_fieldHere_X12 rfl 53 (Nat.le_of_ble_eq_true rfl) hv_X12_fieldHere_467 rfl h_2 rfl dX12_fieldHere_11 ?_
    refine z_bipush (v := 115) B dX12_fieldHere_14 rfl ?_
    refine z_bipush (v := 111) B dX12_fieldHere_16 rfl ?_
    refine z_bipush (v := 117) B dX12_fieldHere_18 rfl ?_
    refine z_bipush (v := 114) B dX12_fieldHere_20 rfl ?_
    refine z_bipush (v := 99) B dX12_fieldHere_22 rfl ?_
    refine z_bipush (v := 101) B dX12_fieldHere_24 rfl ?_
    refine z_callS (As := [.int 115, .int 111, .int 117, .int 114, .int 99, .int 101]) (rest := [.long va]) B (r_pack_115_111_117_114_99_101 G l Φ sz x rd nw cr tp tt sI sT pt ql fl pe le nx il qu kn ec nu va st ep ti ad ob ra rt ex sa us tk th me dr se sn  hx hI hnw) (va_cwS 6 B.1.2.2.2.2 gX12_fieldHere_X12_pack rfl rfl rfl (by decide +kernel) ⟨Nat.le_of_ble_eq_true rfl, Nat.le_of_ble_eq_true rfl⟩) rfl rfl (Nat.le_of_ble_eq_true rfl) dX12_fieldHere_26 ⟨Nat.le_of_ble_eq_true rfl, Nat.le_of_ble_eq_true rfl⟩ (fun r_1 Φ1 sz1 st1 hp1 hs1 => ?_)
    obtain ⟨rfl, hq1, hI1, hF1⟩ := hp1
    subst sz1
    replace hs1 : st1 = [.long 653969509, .long va] := hs1
    subst st1
    replace hI1 : Im G x (rd, nw, cr, tp, tt, sI, sT, pt, ql, fl, pe, le, nx, il, qu, kn, ec, nu, va, st, ep, ti, ad, ob, ra, rt, ex, sa, us, tk, th, me, dr, se, sn) Φ1 := hI1
    refine z_lcmp B dX12_fieldHere_29 ?_
    refine z_if_ne (tgt := 35) B dX12_fieldHere_30 rfl (fun c_2 => ?_) (fun c_2 => ?_)
    · refine z_aload_n B dX12_fieldHere_35 rfl 0 rfl ?_
      have h_3 : Φ1 x = some (o_ 14 [.int th, .ref (x + 1), .ref (x + 2), .int ti, .int ra, .int (nI rt), .int ex, .int ad, .ref (x + 3), .ref (x + 4), .int me, .long se, .ref (x + 5), .int (nI fl), .int dr, .long ob, .long sa, .long sn, .long us, .ref (x + 6), .ref (x + 7), .int (nI pe), .ref (x + 8), .int (nI le), .ref (x + 9), .ref (x + 10), .int (nI qu), .ref (x + 11), .ref (x + 12), .ref (x + 13), .ref (x + 14), .ref (x + 15), .ref (x + 16), .int (nI n_1), .long v_1, .ref (x + 17), .ref (x + 18), .ref (x + 19), .ref (x + 20), .ref (x + 21), .ref (x + 22), .int (nI n_2), .ref (x + 23), .ref (x + 24), .int (nI tk), .ref (x + 25), .int (nI il), .int (nI nx), .int ec, .int ep, .int kn, .int (nI st), .int nu, .long va]) := ((hF1 x (fun j9 h8 h7 => (show False from h7).elim)).trans h_2)
      refine z_get (ref := "FlowExporterModel") (C := RX12) (T := TX12) (N := 54) (ci := 14) (v := .long va) B hu_X12_fieldHere_X12 rfl 53 (Nat.le_of_ble_eq_true rfl) hv_X12_fieldHere_467 rfl h_3 rfl dX12_fieldHere_36 ?_
      refine z_bipush (v := 100) B dX12_fieldHere_39 rfl ?_
      refine z_bipush (v := 101) B dX12_fieldHere_41 rfl ?_
      refine z_bipush (v := 115) B dX12_fieldHere_43 rfl ?_
      refine z_bipush (v := 116) B dX12_fieldHere_45 rfl ?_
      refine z_bipush (v := 105) B dX12_fieldHere_47 rfl ?_
      refine z_bipush (v := 110) B dX12_fieldHere_49 rfl ?_
      refine z_callS (As := [.int 100, .int 101, .int 115, .int 116, .int 105, .int 110]) (rest := [.long va]) B (r_pack_100_101_115_116_105_110 G l Φ1 sz x rd nw cr tp tt sI sT pt ql fl pe le nx il qu kn ec nu va st ep ti ad ob ra rt ex sa us tk th me dr se sn  hx hI1 hnw) (va_cwS 6 B.1.2.2.2.2 gX12_fieldHere_X12_pack rfl rfl rfl (by decide +kernel) ⟨Nat.le_of_ble_eq_true rfl, Nat.le_of_ble_eq_true rfl⟩) rfl rfl (Nat.le_of_ble_eq_true rfl) dX12_fieldHere_51 ⟨Nat.le_of_ble_eq_true rfl, Nat.le_of_ble_eq_true rfl⟩ (fun r_2 Φ2 sz2 st2 hp2 hs2 => ?_)
      obtain ⟨rfl, hq2, hI2, hF2⟩ := hp2
      subst sz2
      replace hs2 : st2 = [.long 140103982, .long va] := hs2
      subst st2
      replace hI2 : Im G x (rd, nw, cr, tp, tt, sI, sT, pt, ql, fl, pe, le, nx, il, qu, kn, ec, nu, va, st, ep, ti, ad, ob, ra, rt, ex, sa, us, tk, th, me, dr, se, sn) Φ2 := hI2
      refine z_ldc2 (v := 33554432) B (by decide +kernel) dX12_fieldHere_54 ?_
      refine z_lmul B dX12_fieldHere_57 ?_
      refine z_top (st1 := [.long 4701109536948224, .long va]) (congrArg (fun w9 : Int64 => ([.long w9, .long va] : List Value)) (show (140103982 * 33554432 : Int64) = 4701109536948224 by decide +kernel)) ?_
      refine z_bipush (v := 97) B dX12_fieldHere_58 rfl ?_
      refine z_bipush (v := 116) B dX12_fieldHere_60 rfl ?_
      refine z_bipush (v := 105) B dX12_fieldHere_62 rfl ?_
      refine z_bipush (v := 111) B dX12_fieldHere_64 rfl ?_
      refine z_bipush (v := 110) B dX12_fieldHere_66 rfl ?_
      refine z_iconst (v := 0) B dX12_fieldHere_68 rfl ?_
      refine z_callS (As := [.int 97, .int 116, .int 105, .int 111, .int 110, .int 0]) (rest := [.long 4701109536948224, .long va]) B (r_pack_97_116_105_111_110_0 G l Φ2 sz x rd nw cr tp tt sI sT pt ql fl pe le nx il qu kn ec nu va st ep ti ad ob ra rt ex sa us tk th me dr se sn  hx hI2 hnw) (va_cwS 6 B.1.2.2.2.2 gX12_fieldHere_X12_pack rfl rfl rfl (by decide +kernel) ⟨Nat.le_of_ble_eq_true rfl, Nat.le_of_ble_eq_true rfl⟩) rfl rfl (Nat.le_of_ble_eq_true rfl) dX12_fieldHere_69 ⟨Nat.le_of_ble_eq_true rfl, Nat.le_of_ble_eq_true rfl⟩ (fun r_3 Φ3 sz3 st3 hp3 hs3 => ?_)
      obtain ⟨rfl, hq3, hI3, hF3⟩ := hp3
      subst sz3
      replace hs3 : st3 = [.long 1713646, .long 4701109536948224, .long va] := hs3
      subst st3
      replace hI3 : Im G x (rd, nw, cr, tp, tt, sI, sT, pt, ql, fl, pe, le, nx, il, qu, kn, ec, nu, va, st, ep, ti, ad, ob, ra, rt, ex, sa, us, tk, th, me, dr, se, sn) Φ3 := hI3
      refine z_ladd B dX12_fieldHere_72 ?_
      refine z_top (st1 := [.long 4701109538661870, .long va]) (congrArg (fun w9 : Int64 => ([.long w9, .long va] : List Value)) (show (4701109536948224 + 1713646 : Int64) = 4701109538661870 by decide +kernel)) ?_
      refine z_lcmp B dX12_fieldHere_73 ?_
      refine z_if_ne (tgt := 79) B dX12_fieldHere_74 rfl (fun c_3 => ?_) (fun c_3 => ?_)
      · refine z_aload_n B dX12_fieldHere_79 rfl 0 rfl ?_
        have h_4 : Φ3 x = some (o_ 14 [.int th, .ref (x + 1), .ref (x + 2), .int ti, .int ra, .int (nI rt), .int ex, .int ad, .ref (x + 3), .ref (x + 4), .int me, .long se, .ref (x + 5), .int (nI fl), .int dr, .long ob, .long sa, .long sn, .long us, .ref (x + 6), .ref (x + 7), .int (nI pe), .ref (x + 8), .int (nI le), .ref (x + 9), .ref (x + 10), .int (nI qu), .ref (x + 11), .ref (x + 12), .ref (x + 13), .ref (x + 14), .ref (x + 15), .ref (x + 16), .int (nI n_1), .long v_1, .ref (x + 17), .ref (x + 18), .ref (x + 19), .ref (x + 20), .ref (x + 21), .ref (x + 22), .int (nI n_2), .ref (x + 23), .ref (x + 24), .int (nI tk), .ref (x + 25), .int (nI il), .int (nI nx), .int ec, .int ep, .int kn, .int (nI st), .int nu, .long va]) := ((hF3 x (fun j9 h8 h7 => (show False from h7).elim)).trans ((hF2 x (fun j9 h8 h7 => (show False from h7).elim)).trans h_3))
        refine z_get (ref := "FlowExporterModel") (C := RX12) (T := TX12) (N := 54) (ci := 14) (v := .long va) B hu_X12_fieldHere_X12 rfl 53 (Nat.le_of_ble_eq_true rfl) hv_X12_fieldHere_467 rfl h_4 rfl dX12_fieldHere_80 ?_
        refine z_bipush (v := 112) B dX12_fieldHere_83 rfl ?_
        refine z_bipush (v := 111) B dX12_fieldHere_85 rfl ?_
        refine z_bipush (v := 114) B dX12_fieldHere_87 rfl ?_
        refine z_bipush (v := 116) B dX12_fieldHere_89 rfl ?_
        refine z_iconst (v := 0) B dX12_fieldHere_91 rfl ?_
        refine z_iconst (v := 0) B dX12_fieldHere_92 rfl ?_
        refine z_callS (As := [.int 112, .int 111, .int 114, .int 116, .int 0, .int 0]) (rest := [.long va]) B (r_pack_112_111_114_116_0_0 G l Φ3 sz x rd nw cr tp tt sI sT pt ql fl pe le nx il qu kn ec nu va st ep ti ad ob ra rt ex sa us tk th me dr se sn  hx hI3 hnw) (va_cwS 6 B.1.2.2.2.2 gX12_fieldHere_X12_pack rfl rfl rfl (by decide +kernel) ⟨Nat.le_of_ble_eq_true rfl, Nat.le_of_ble_eq_true rfl⟩) rfl rfl (Nat.le_of_ble_eq_true rfl) dX12_fieldHere_93 ⟨Nat.le_of_ble_eq_true rfl, Nat.le_of_ble_eq_true rfl⟩ (fun r_4 Φ4 sz4 st4 hp4 hs4 => ?_)
        obtain ⟨rfl, hq4, hI4, hF4⟩ := hp4
        subst sz4
        replace hs4 : st4 = [.long 540244, .long va] := hs4
        subst st4
        replace hI4 : Im G x (rd, nw, cr, tp, tt, sI, sT, pt, ql, fl, pe, le, nx, il, qu, kn, ec, nu, va, st, ep, ti, ad, ob, ra, rt, ex, sa, us, tk, th, me, dr, se, sn) Φ4 := hI4
        refine z_lcmp B dX12_fieldHere_96 ?_
        refine z_if_ne (tgt := 102) B dX12_fieldHere_97 rfl (fun c_4 => ?_) (fun c_4 => ?_)
        · refine z_aload_n B dX12_fieldHere_102 rfl 0 rfl ?_
          have h_5 : Φ4 x = some (o_ 14 [.int th, .ref (x + 1), .ref (x + 2), .int ti, .int ra, .int (nI rt), .int ex, .int ad, .ref (x + 3), .ref (x + 4), .int me, .long se, .ref (x + 5), .int (nI fl), .int dr, .long ob, .long sa, .long sn, .long us, .ref (x + 6), .ref (x + 7), .int (nI pe), .ref (x + 8), .int (nI le), .ref (x + 9), .ref (x + 10), .int (nI qu), .ref (x + 11), .ref (x + 12), .ref (x + 13), .ref (x + 14), .ref (x + 15), .ref (x + 16), .int (nI n_1), .long v_1, .ref (x + 17), .ref (x + 18), .ref (x + 19), .ref (x + 20), .ref (x + 21), .ref (x + 22), .int (nI n_2), .ref (x + 23), .ref (x + 24), .int (nI tk), .ref (x + 25), .int (nI il), .int (nI nx), .int ec, .int ep, .int kn, .int (nI st), .int nu, .long va]) := ((hF4 x (fun j9 h8 h7 => (show False from h7).elim)).trans h_4)
          refine z_get (ref := "FlowExporterModel") (C := RX12) (T := TX12) (N := 54) (ci := 14) (v := .long va) B hu_X12_fieldHere_X12 rfl 53 (Nat.le_of_ble_eq_true rfl) hv_X12_fieldHere_467 rfl h_5 rfl dX12_fieldHere_103 ?_
          refine z_bipush (v := 112) B dX12_fieldHere_106 rfl ?_
          refine z_bipush (v := 114) B dX12_fieldHere_108 rfl ?_
          refine z_bipush (v := 111) B dX12_fieldHere_110 rfl ?_
          refine z_bipush (v := 116) B dX12_fieldHere_112 rfl ?_
          refine z_bipush (v := 111) B dX12_fieldHere_114 rfl ?_
          refine z_iconst (v := 0) B dX12_fieldHere_116 rfl ?_
          refine z_callS (As := [.int 112, .int 114, .int 111, .int 116, .int 111, .int 0]) (rest := [.long va]) B (r_pack_112_114_111_116_111_0 G l Φ4 sz x rd nw cr tp tt sI sT pt ql fl pe le nx il qu kn ec nu va st ep ti ad ob ra rt ex sa us tk th me dr se sn  hx hI4 hnw) (va_cwS 6 B.1.2.2.2.2 gX12_fieldHere_X12_pack rfl rfl rfl (by decide +kernel) ⟨Nat.le_of_ble_eq_true rfl, Nat.le_of_ble_eq_true rfl⟩) rfl rfl (Nat.le_of_ble_eq_true rfl) dX12_fieldHere_117 ⟨Nat.le_of_ble_eq_true rfl, Nat.le_of_ble_eq_true rfl⟩ (fun r_5 Φ5 sz5 st5 hp5 hs5 => ?_)
          obtain ⟨rfl, hq5, hI5, hF5⟩ := hp5
          subst sz5
          replace hs5 : st5 = [.long 17383055, .long va] := hs5
          subst st5
          replace hI5 : Im G x (rd, nw, cr, tp, tt, sI, sT, pt, ql, fl, pe, le, nx, il, qu, kn, ec, nu, va, st, ep, ti, ad, ob, ra, rt, ex, sa, us, tk, th, me, dr, se, sn) Φ5 := hI5
          refine z_ldc2 (v := 32768) B (by decide +kernel) dX12_fieldHere_120 ?_
          refine z_lmul B dX12_fieldHere_123 ?_
          refine z_top (st1 := [.long 569607946240, .long va]) (congrArg (fun w9 : Int64 => ([.long w9, .long va] : List Value)) (show (17383055 * 32768 : Int64) = 569607946240 by decide +kernel)) ?_
          refine z_bipush (v := 99) B dX12_fieldHere_124 rfl ?_
          refine z_bipush (v := 111) B dX12_fieldHere_126 rfl ?_
          refine z_bipush (v := 108) B dX12_fieldHere_128 rfl ?_
          refine z_iconst (v := 0) B dX12_fieldHere_130 rfl ?_
          refine z_iconst (v := 0) B dX12_fieldHere_131 rfl ?_
          refine z_iconst (v := 0) B dX12_fieldHere_132 rfl ?_
          refine z_callS (As := [.int 99, .int 111, .int 108, .int 0, .int 0, .int 0]) (rest := [.long 569607946240, .long va]) B (r_pack_99_111_108_0_0_0 G l Φ5 sz x rd nw cr tp tt sI sT pt ql fl pe le nx il qu kn ec nu va st ep ti ad ob ra rt ex sa us tk th me dr se sn  hx hI5 hnw) (va_cwS 6 B.1.2.2.2.2 gX12_fieldHere_X12_pack rfl rfl rfl (by decide +kernel) ⟨Nat.le_of_ble_eq_true rfl, Nat.le_of_ble_eq_true rfl⟩) rfl rfl (Nat.le_of_ble_eq_true rfl) dX12_fieldHere_133 ⟨Nat.le_of_ble_eq_true rfl, Nat.le_of_ble_eq_true rfl⟩ (fun r_6 Φ6 sz6 st6 hp6 hs6 => ?_)
          obtain ⟨rfl, hq6, hI6, hF6⟩ := hp6
          subst sz6
          replace hs6 : st6 = [.long 3564, .long 569607946240, .long va] := hs6
          subst st6
          replace hI6 : Im G x (rd, nw, cr, tp, tt, sI, sT, pt, ql, fl, pe, le, nx, il, qu, kn, ec, nu, va, st, ep, ti, ad, ob, ra, rt, ex, sa, us, tk, th, me, dr, se, sn) Φ6 := hI6
          refine z_ladd B dX12_fieldHere_136 ?_
          refine z_top (st1 := [.long 569607949804, .long va]) (congrArg (fun w9 : Int64 => ([.long w9, .long va] : List Value)) (show (569607946240 + 3564 : Int64) = 569607949804 by decide +kernel)) ?_
          refine z_lcmp B dX12_fieldHere_137 ?_
          refine z_if_ne (tgt := 143) B dX12_fieldHere_138 rfl (fun c_5 => ?_) (fun c_5 => ?_)
          · refine z_aload_n B dX12_fieldHere_143 rfl 0 rfl ?_
            have h_6 : Φ6 x = some (o_ 14 [.int th, .ref (x + 1), .ref (x + 2), .int ti, .int ra, .int (nI rt), .int ex, .int ad, .ref (x + 3), .ref (x + 4), .int me, .long se, .ref (x + 5), .int (nI fl), .int dr, .long ob, .long sa, .long sn, .long us, .ref (x + 6), .ref (x + 7), .int (nI pe), .ref (x + 8), .int (nI le), .ref (x + 9), .ref (x + 10), .int (nI qu), .ref (x + 11), .ref (x + 12), .ref (x + 13), .ref (x + 14), .ref (x + 15), .ref (x + 16), .int (nI n_1), .long v_1, .ref (x + 17), .ref (x + 18), .ref (x + 19), .ref (x + 20), .ref (x + 21), .ref (x + 22), .int (nI n_2), .ref (x + 23), .ref (x + 24), .int (nI tk), .ref (x + 25), .int (nI il), .int (nI nx), .int ec, .int ep, .int kn, .int (nI st), .int nu, .long va]) := ((hF6 x (fun j9 h8 h7 => (show False from h7).elim)).trans ((hF5 x (fun j9 h8 h7 => (show False from h7).elim)).trans h_5))
            refine z_get (ref := "FlowExporterModel") (C := RX12) (T := TX12) (N := 54) (ci := 14) (v := .long va) B hu_X12_fieldHere_X12 rfl 53 (Nat.le_of_ble_eq_true rfl) hv_X12_fieldHere_467 rfl h_6 rfl dX12_fieldHere_144 ?_
            refine z_bipush (v := 112) B dX12_fieldHere_147 rfl ?_
            refine z_bipush (v := 97) B dX12_fieldHere_149 rfl ?_
            refine z_bipush (v := 99) B dX12_fieldHere_151 rfl ?_
            refine z_bipush (v := 107) B dX12_fieldHere_153 rfl ?_
            refine z_iconst (v := 0) B dX12_fieldHere_155 rfl ?_
            refine z_iconst (v := 0) B dX12_fieldHere_156 rfl ?_
            refine z_callS (As := [.int 112, .int 97, .int 99, .int 107, .int 0, .int 0]) (rest := [.long va]) B (r_pack_112_97_99_107_0_0 G l Φ6 sz x rd nw cr tp tt sI sT pt ql fl pe le nx il qu kn ec nu va st ep ti ad ob ra rt ex sa us tk th me dr se sn  hx hI6 hnw) (va_cwS 6 B.1.2.2.2.2 gX12_fieldHere_X12_pack rfl rfl rfl (by decide +kernel) ⟨Nat.le_of_ble_eq_true rfl, Nat.le_of_ble_eq_true rfl⟩) rfl rfl (Nat.le_of_ble_eq_true rfl) dX12_fieldHere_157 ⟨Nat.le_of_ble_eq_true rfl, Nat.le_of_ble_eq_true rfl⟩ (fun r_7 Φ7 sz7 st7 hp7 hs7 => ?_)
            obtain ⟨rfl, hq7, hI7, hF7⟩ := hp7
            subst sz7
            replace hs7 : st7 = [.long 525419, .long va] := hs7
            subst st7
            replace hI7 : Im G x (rd, nw, cr, tp, tt, sI, sT, pt, ql, fl, pe, le, nx, il, qu, kn, ec, nu, va, st, ep, ti, ad, ob, ra, rt, ex, sa, us, tk, th, me, dr, se, sn) Φ7 := hI7
            refine z_ldc2 (v := 32768) B (by decide +kernel) dX12_fieldHere_160 ?_
            refine z_lmul B dX12_fieldHere_163 ?_
            refine z_top (st1 := [.long 17216929792, .long va]) (congrArg (fun w9 : Int64 => ([.long w9, .long va] : List Value)) (show (525419 * 32768 : Int64) = 17216929792 by decide +kernel)) ?_
            refine z_bipush (v := 101) B dX12_fieldHere_164 rfl ?_
            refine z_bipush (v := 116) B dX12_fieldHere_166 rfl ?_
            refine z_bipush (v := 115) B dX12_fieldHere_168 rfl ?_
            refine z_iconst (v := 0) B dX12_fieldHere_170 rfl ?_
            refine z_iconst (v := 0) B dX12_fieldHere_171 rfl ?_
            refine z_iconst (v := 0) B dX12_fieldHere_172 rfl ?_
            refine z_callS (As := [.int 101, .int 116, .int 115, .int 0, .int 0, .int 0]) (rest := [.long 17216929792, .long va]) B (r_pack_101_116_115_0_0_0 G l Φ7 sz x rd nw cr tp tt sI sT pt ql fl pe le nx il qu kn ec nu va st ep ti ad ob ra rt ex sa us tk th me dr se sn  hx hI7 hnw) (va_cwS 6 B.1.2.2.2.2 gX12_fieldHere_X12_pack rfl rfl rfl (by decide +kernel) ⟨Nat.le_of_ble_eq_true rfl, Nat.le_of_ble_eq_true rfl⟩) rfl rfl (Nat.le_of_ble_eq_true rfl) dX12_fieldHere_173 ⟨Nat.le_of_ble_eq_true rfl, Nat.le_of_ble_eq_true rfl⟩ (fun r_8 Φ8 sz8 st8 hp8 hs8 => ?_)
            obtain ⟨rfl, hq8, hI8, hF8⟩ := hp8
            subst sz8
            replace hs8 : st8 = [.long 5779, .long 17216929792, .long va] := hs8
            subst st8
            replace hI8 : Im G x (rd, nw, cr, tp, tt, sI, sT, pt, ql, fl, pe, le, nx, il, qu, kn, ec, nu, va, st, ep, ti, ad, ob, ra, rt, ex, sa, us, tk, th, me, dr, se, sn) Φ8 := hI8
            refine z_ladd B dX12_fieldHere_176 ?_
            refine z_top (st1 := [.long 17216935571, .long va]) (congrArg (fun w9 : Int64 => ([.long w9, .long va] : List Value)) (show (17216929792 + 5779 : Int64) = 17216935571 by decide +kernel)) ?_
            refine z_lcmp B dX12_fieldHere_177 ?_
            refine z_if_ne (tgt := 183) B dX12_fieldHere_178 rfl (fun c_6 => ?_) (fun c_6 => ?_)
            · refine z_aload_n B dX12_fieldHere_183 rfl 0 rfl ?_
              have h_7 : Φ8 x = some (o_ 14 [.int th, .ref (x + 1), .ref (x + 2), .int ti, .int ra, .int (nI rt), .int ex, .int ad, .ref (x + 3), .ref (x + 4), .int me, .long se, .ref (x + 5), .int (nI fl), .int dr, .long ob, .long sa, .long sn, .long us, .ref (x + 6), .ref (x + 7), .int (nI pe), .ref (x + 8), .int (nI le), .ref (x + 9), .ref (x + 10), .int (nI qu), .ref (x + 11), .ref (x + 12), .ref (x + 13), .ref (x + 14), .ref (x + 15), .ref (x + 16), .int (nI n_1), .long v_1, .ref (x + 17), .ref (x + 18), .ref (x + 19), .ref (x + 20), .ref (x + 21), .ref (x + 22), .int (nI n_2), .ref (x + 23), .ref (x + 24), .int (nI tk), .ref (x + 25), .int (nI il), .int (nI nx), .int ec, .int ep, .int kn, .int (nI st), .int nu, .long va]) := ((hF8 x (fun j9 h8 h7 => (show False from h7).elim)).trans ((hF7 x (fun j9 h8 h7 => (show False from h7).elim)).trans h_6))
              refine z_get (ref := "FlowExporterModel") (C := RX12) (T := TX12) (N := 54) (ci := 14) (v := .long va) B hu_X12_fieldHere_X12 rfl 53 (Nat.le_of_ble_eq_true rfl) hv_X12_fieldHere_467 rfl h_7 rfl dX12_fieldHere_184 ?_
              refine z_bipush (v := 98) B dX12_fieldHere_187 rfl ?_
              refine z_bipush (v := 121) B dX12_fieldHere_189 rfl ?_
              refine z_bipush (v := 116) B dX12_fieldHere_191 rfl ?_
              refine z_bipush (v := 101) B dX12_fieldHere_193 rfl ?_
              refine z_bipush (v := 115) B dX12_fieldHere_195 rfl ?_
              refine z_iconst (v := 0) B dX12_fieldHere_197 rfl ?_
              refine z_callS (As := [.int 98, .int 121, .int 116, .int 101, .int 115, .int 0]) (rest := [.long va]) B (r_pack_98_121_116_101_115_0 G l Φ8 sz x rd nw cr tp tt sI sT pt ql fl pe le nx il qu kn ec nu va st ep ti ad ob ra rt ex sa us tk th me dr se sn  hx hI8 hnw) (va_cwS 6 B.1.2.2.2.2 gX12_fieldHere_X12_pack rfl rfl rfl (by decide +kernel) ⟨Nat.le_of_ble_eq_true rfl, Nat.le_of_ble_eq_true rfl⟩) rfl rfl (Nat.le_of_ble_eq_true rfl) dX12_fieldHere_198 ⟨Nat.le_of_ble_eq_true rfl, Nat.le_of_ble_eq_true rfl⟩ (fun r_9 Φ9 sz9 st9 hp9 hs9 => ?_)
              obtain ⟨rfl, hq9, hI9, hF9⟩ := hp9
              subst sz9
              replace hs9 : st9 = [.long 2937011, .long va] := hs9
              subst st9
              replace hI9 : Im G x (rd, nw, cr, tp, tt, sI, sT, pt, ql, fl, pe, le, nx, il, qu, kn, ec, nu, va, st, ep, ti, ad, ob, ra, rt, ex, sa, us, tk, th, me, dr, se, sn) Φ9 := hI9
              refine z_lcmp B dX12_fieldHere_201 ?_
              refine z_if_ne (tgt := 207) B dX12_fieldHere_202 rfl (fun c_7 => ?_) (fun c_7 => ?_)
              · refine z_aload_n B dX12_fieldHere_207 rfl 0 rfl ?_
                have h_8 : Φ9 x = some (o_ 14 [.int th, .ref (x + 1), .ref (x + 2), .int ti, .int ra, .int (nI rt), .int ex, .int ad, .ref (x + 3), .ref (x + 4), .int me, .long se, .ref (x + 5), .int (nI fl), .int dr, .long ob, .long sa, .long sn, .long us, .ref (x + 6), .ref (x + 7), .int (nI pe), .ref (x + 8), .int (nI le), .ref (x + 9), .ref (x + 10), .int (nI qu), .ref (x + 11), .ref (x + 12), .ref (x + 13), .ref (x + 14), .ref (x + 15), .ref (x + 16), .int (nI n_1), .long v_1, .ref (x + 17), .ref (x + 18), .ref (x + 19), .ref (x + 20), .ref (x + 21), .ref (x + 22), .int (nI n_2), .ref (x + 23), .ref (x + 24), .int (nI tk), .ref (x + 25), .int (nI il), .int (nI nx), .int ec, .int ep, .int kn, .int (nI st), .int nu, .long va]) := ((hF9 x (fun j9 h8 h7 => (show False from h7).elim)).trans h_7)
                refine z_get (ref := "FlowExporterModel") (C := RX12) (T := TX12) (N := 54) (ci := 14) (v := .long va) B hu_X12_fieldHere_X12 rfl 53 (Nat.le_of_ble_eq_true rfl) hv_X12_fieldHere_467 rfl h_8 rfl dX12_fieldHere_208 ?_
                refine z_bipush (v := 102) B dX12_fieldHere_211 rfl ?_
                refine z_bipush (v := 105) B dX12_fieldHere_213 rfl ?_
                refine z_bipush (v := 114) B dX12_fieldHere_215 rfl ?_
                refine z_bipush (v := 115) B dX12_fieldHere_217 rfl ?_
                refine z_bipush (v := 116) B dX12_fieldHere_219 rfl ?_
                refine z_iconst (v := 0) B dX12_fieldHere_221 rfl ?_
                refine z_callS (As := [.int 102, .int 105, .int 114, .int 115, .int 116, .int 0]) (rest := [.long va]) B (r_pack_102_105_114_115_116_0 G l Φ9 sz x rd nw cr tp tt sI sT pt ql fl pe le nx il qu kn ec nu va st ep ti ad ob ra rt ex sa us tk th me dr se sn  hx hI9 hnw) (va_cwS 6 B.1.2.2.2.2 gX12_fieldHere_X12_pack rfl rfl rfl (by decide +kernel) ⟨Nat.le_of_ble_eq_true rfl, Nat.le_of_ble_eq_true rfl⟩) rfl rfl (Nat.le_of_ble_eq_true rfl) dX12_fieldHere_222 ⟨Nat.le_of_ble_eq_true rfl, Nat.le_of_ble_eq_true rfl⟩ (fun r_10 Φ10 sz10 st10 hp10 hs10 => ?_)
                obtain ⟨rfl, hq10, hI10, hF10⟩ := hp10
                subst sz10
                replace hs10 : st10 = [.long 6605428, .long va] := hs10
                subst st10
                replace hI10 : Im G x (rd, nw, cr, tp, tt, sI, sT, pt, ql, fl, pe, le, nx, il, qu, kn, ec, nu, va, st, ep, ti, ad, ob, ra, rt, ex, sa, us, tk, th, me, dr, se, sn) Φ10 := hI10
                refine z_lcmp B dX12_fieldHere_225 ?_
                refine z_if_ne (tgt := 232) B dX12_fieldHere_226 rfl (fun c_8 => ?_) (fun c_8 => ?_)
                · refine z_aload_n B dX12_fieldHere_232 rfl 0 rfl ?_
                  have h_9 : Φ10 x = some (o_ 14 [.int th, .ref (x + 1), .ref (x + 2), .int ti, .int ra, .int (nI rt), .int ex, .int ad, .ref (x + 3), .ref (x + 4), .int me, .long se, .ref (x + 5), .int (nI fl), .int dr, .long ob, .long sa, .long sn, .long us, .ref (x + 6), .ref (x + 7), .int (nI pe), .ref (x + 8), .int (nI le), .ref (x + 9), .ref (x + 10), .int (nI qu), .ref (x + 11), .ref (x + 12), .ref (x + 13), .ref (x + 14), .ref (x + 15), .ref (x + 16), .int (nI n_1), .long v_1, .ref (x + 17), .ref (x + 18), .ref (x + 19), .ref (x + 20), .ref (x + 21), .ref (x + 22), .int (nI n_2), .ref (x + 23), .ref (x + 24), .int (nI tk), .ref (x + 25), .int (nI il), .int (nI nx), .int ec, .int ep, .int kn, .int (nI st), .int nu, .long va]) := ((hF10 x (fun j9 h8 h7 => (show False from h7).elim)).trans h_8)
                  refine z_get (ref := "FlowExporterModel") (C := RX12) (T := TX12) (N := 54) (ci := 14) (v := .long va) B hu_X12_fieldHere_X12 rfl 53 (Nat.le_of_ble_eq_true rfl) hv_X12_fieldHere_467 rfl h_9 rfl dX12_fieldHere_233 ?_
                  refine z_bipush (v := 108) B dX12_fieldHere_236 rfl ?_
                  refine z_bipush (v := 97) B dX12_fieldHere_238 rfl ?_
                  refine z_bipush (v := 115) B dX12_fieldHere_240 rfl ?_
                  refine z_bipush (v := 116) B dX12_fieldHere_242 rfl ?_
                  refine z_iconst (v := 0) B dX12_fieldHere_244 rfl ?_
                  refine z_iconst (v := 0) B dX12_fieldHere_245 rfl ?_
                  refine z_callS (As := [.int 108, .int 97, .int 115, .int 116, .int 0, .int 0]) (rest := [.long va]) B (r_pack_108_97_115_116_0_0 G l Φ10 sz x rd nw cr tp tt sI sT pt ql fl pe le nx il qu kn ec nu va st ep ti ad ob ra rt ex sa us tk th me dr se sn  hx hI10 hnw) (va_cwS 6 B.1.2.2.2.2 gX12_fieldHere_X12_pack rfl rfl rfl (by decide +kernel) ⟨Nat.le_of_ble_eq_true rfl, Nat.le_of_ble_eq_true rfl⟩) rfl rfl (Nat.le_of_ble_eq_true rfl) dX12_fieldHere_246 ⟨Nat.le_of_ble_eq_true rfl, Nat.le_of_ble_eq_true rfl⟩ (fun r_11 Φ11 sz11 st11 hp11 hs11 => ?_)
                  obtain ⟨rfl, hq11, hI11, hF11⟩ := hp11
                  subst sz11
                  replace hs11 : st11 = [.long 394868, .long va] := hs11
                  subst st11
                  replace hI11 : Im G x (rd, nw, cr, tp, tt, sI, sT, pt, ql, fl, pe, le, nx, il, qu, kn, ec, nu, va, st, ep, ti, ad, ob, ra, rt, ex, sa, us, tk, th, me, dr, se, sn) Φ11 := hI11
                  refine z_lcmp B dX12_fieldHere_249 ?_
                  refine z_if_ne (tgt := 256) B dX12_fieldHere_250 rfl (fun c_9 => ?_) (fun c_9 => ?_)
                  · refine z_aload_n B dX12_fieldHere_256 rfl 0 rfl ?_
                    have h_10 : Φ11 x = some (o_ 14 [.int th, .ref (x + 1), .ref (x + 2), .int ti, .int ra, .int (nI rt), .int ex, .int ad, .ref (x + 3), .ref (x + 4), .int me, .long se, .ref (x + 5), .int (nI fl), .int dr, .long ob, .long sa, .long sn, .long us, .ref (x + 6), .ref (x + 7), .int (nI pe), .ref (x + 8), .int (nI le), .ref (x + 9), .ref (x + 10), .int (nI qu), .ref (x + 11), .ref (x + 12), .ref (x + 13), .ref (x + 14), .ref (x + 15), .ref (x + 16), .int (nI n_1), .long v_1, .ref (x + 17), .ref (x + 18), .ref (x + 19), .ref (x + 20), .ref (x + 21), .ref (x + 22), .int (nI n_2), .ref (x + 23), .ref (x + 24), .int (nI tk), .ref (x + 25), .int (nI il), .int (nI nx), .int ec, .int ep, .int kn, .int (nI st), .int nu, .long va]) := ((hF11 x (fun j9 h8 h7 => (show False from h7).elim)).trans h_9)
                    refine z_get (ref := "FlowExporterModel") (C := RX12) (T := TX12) (N := 54) (ci := 14) (v := .long va) B hu_X12_fieldHere_X12 rfl 53 (Nat.le_of_ble_eq_true rfl) hv_X12_fieldHere_467 rfl h_10 rfl dX12_fieldHere_257 ?_
                    refine z_bipush (v := 114) B dX12_fieldHere_260 rfl ?_
                    refine z_bipush (v := 97) B dX12_fieldHere_262 rfl ?_
                    refine z_bipush (v := 116) B dX12_fieldHere_264 rfl ?_
                    refine z_bipush (v := 101) B dX12_fieldHere_266 rfl ?_
                    refine z_iconst (v := 0) B dX12_fieldHere_268 rfl ?_
                    refine z_iconst (v := 0) B dX12_fieldHere_269 rfl ?_
                    refine z_callS (As := [.int 114, .int 97, .int 116, .int 101, .int 0, .int 0]) (rest := [.long va]) B (r_pack_114_97_116_101_0_0 G l Φ11 sz x rd nw cr tp tt sI sT pt ql fl pe le nx il qu kn ec nu va st ep ti ad ob ra rt ex sa us tk th me dr se sn  hx hI11 hnw) (va_cwS 6 B.1.2.2.2.2 gX12_fieldHere_X12_pack rfl rfl rfl (by decide +kernel) ⟨Nat.le_of_ble_eq_true rfl, Nat.le_of_ble_eq_true rfl⟩) rfl rfl (Nat.le_of_ble_eq_true rfl) dX12_fieldHere_270 ⟨Nat.le_of_ble_eq_true rfl, Nat.le_of_ble_eq_true rfl⟩ (fun r_12 Φ12 sz12 st12 hp12 hs12 => ?_)
                    obtain ⟨rfl, hq12, hI12, hF12⟩ := hp12
                    subst sz12
                    replace hs12 : st12 = [.long 591493, .long va] := hs12
                    subst st12
                    replace hI12 : Im G x (rd, nw, cr, tp, tt, sI, sT, pt, ql, fl, pe, le, nx, il, qu, kn, ec, nu, va, st, ep, ti, ad, ob, ra, rt, ex, sa, us, tk, th, me, dr, se, sn) Φ12 := hI12
                    refine z_lcmp B dX12_fieldHere_273 ?_
                    refine z_if_ne (tgt := 282) B dX12_fieldHere_274 rfl (fun c_10 => ?_) (fun c_10 => ?_)
                    · refine z_iconst (v := (-1)) B dX12_fieldHere_282 rfl ?_
                      exact z_ret_i B dX12_fieldHere_283 ⟨(show some (Value.int (-1)) = some (.int (fHf kn va)) by unfold fHf; rw [if_pos c_1, if_neg (fun h9 => c_2 ((lg_cmp_eq _ _).mpr h9)), if_neg (fun h9 => c_3 ((lg_cmp_eq _ _).mpr h9)), if_neg (fun h9 => c_4 ((lg_cmp_eq _ _).mpr h9)), if_neg (fun h9 => c_5 ((lg_cmp_eq _ _).mpr h9)), if_neg (fun h9 => c_6 ((lg_cmp_eq _ _).mpr h9)), if_neg (fun h9 => c_7 ((lg_cmp_eq _ _).mpr h9)), if_neg (fun h9 => c_8 ((lg_cmp_eq _ _).mpr h9)), if_neg (fun h9 => c_9 ((lg_cmp_eq _ _).mpr h9)), if_neg (fun h9 => c_10 ((lg_cmp_eq _ _).mpr h9))]), rfl, hI12, (fun b9 h9 => ((hF12 b9 (fun j9 h8 h7 => (show False from h7).elim)).trans ((hF11 b9 (fun j9 h8 h7 => (show False from h7).elim)).trans ((hF10 b9 (fun j9 h8 h7 => (show False from h7).elim)).trans ((hF9 b9 (fun j9 h8 h7 => (show False from h7).elim)).trans ((hF8 b9 (fun j9 h8 h7 => (show False from h7).elim)).trans ((hF7 b9 (fun j9 h8 h7 => (show False from h7).elim)).trans ((hF6 b9 (fun j9 h8 h7 => (show False from h7).elim)).trans ((hF5 b9 (fun j9 h8 h7 => (show False from h7).elim)).trans ((hF4 b9 (fun j9 h8 h7 => (show False from h7).elim)).trans ((hF3 b9 (fun j9 h8 h7 => (show False from h7).elim)).trans ((hF2 b9 (fun j9 h8 h7 => (show False from h7).elim)).trans ((hF1 b9 (fun j9 h8 h7 => (show False from h7).elim)).trans rfl)))))))))))))⟩
                    · refine z_bipush (v := 8) B dX12_fieldHere_277 rfl ?_
                      refine z_goto (tgt := 283) B dX12_fieldHere_279 rfl ?_
                      exact z_ret_i B dX12_fieldHere_283 ⟨(show some (Value.int 8) = some (.int (fHf kn va)) by unfold fHf; rw [if_pos c_1, if_neg (fun h9 => c_2 ((lg_cmp_eq _ _).mpr h9)), if_neg (fun h9 => c_3 ((lg_cmp_eq _ _).mpr h9)), if_neg (fun h9 => c_4 ((lg_cmp_eq _ _).mpr h9)), if_neg (fun h9 => c_5 ((lg_cmp_eq _ _).mpr h9)), if_neg (fun h9 => c_6 ((lg_cmp_eq _ _).mpr h9)), if_neg (fun h9 => c_7 ((lg_cmp_eq _ _).mpr h9)), if_neg (fun h9 => c_8 ((lg_cmp_eq _ _).mpr h9)), if_neg (fun h9 => c_9 ((lg_cmp_eq _ _).mpr h9)), if_pos (lcmp_eq c_10)]), rfl, hI12, (fun b9 h9 => ((hF12 b9 (fun j9 h8 h7 => (show False from h7).elim)).trans ((hF11 b9 (fun j9 h8 h7 => (show False from h7).elim)).trans ((hF10 b9 (fun j9 h8 h7 => (show False from h7).elim)).trans ((hF9 b9 (fun j9 h8 h7 => (show False from h7).elim)).trans ((hF8 b9 (fun j9 h8 h7 => (show False from h7).elim)).trans ((hF7 b9 (fun j9 h8 h7 => (show False from h7).elim)).trans ((hF6 b9 (fun j9 h8 h7 => (show False from h7).elim)).trans ((hF5 b9 (fun j9 h8 h7 => (show False from h7).elim)).trans ((hF4 b9 (fun j9 h8 h7 => (show False from h7).elim)).trans ((hF3 b9 (fun j9 h8 h7 => (show False from h7).elim)).trans ((hF2 b9 (fun j9 h8 h7 => (show False from h7).elim)).trans ((hF1 b9 (fun j9 h8 h7 => (show False from h7).elim)).trans rfl)))))))))))))⟩
                  · refine z_bipush (v := 7) B dX12_fieldHere_253 rfl ?_
                    exact z_ret_i B dX12_fieldHere_255 ⟨(show some (Value.int 7) = some (.int (fHf kn va)) by unfold fHf; rw [if_pos c_1, if_neg (fun h9 => c_2 ((lg_cmp_eq _ _).mpr h9)), if_neg (fun h9 => c_3 ((lg_cmp_eq _ _).mpr h9)), if_neg (fun h9 => c_4 ((lg_cmp_eq _ _).mpr h9)), if_neg (fun h9 => c_5 ((lg_cmp_eq _ _).mpr h9)), if_neg (fun h9 => c_6 ((lg_cmp_eq _ _).mpr h9)), if_neg (fun h9 => c_7 ((lg_cmp_eq _ _).mpr h9)), if_neg (fun h9 => c_8 ((lg_cmp_eq _ _).mpr h9)), if_pos (lcmp_eq c_9)]), rfl, hI11, (fun b9 h9 => ((hF11 b9 (fun j9 h8 h7 => (show False from h7).elim)).trans ((hF10 b9 (fun j9 h8 h7 => (show False from h7).elim)).trans ((hF9 b9 (fun j9 h8 h7 => (show False from h7).elim)).trans ((hF8 b9 (fun j9 h8 h7 => (show False from h7).elim)).trans ((hF7 b9 (fun j9 h8 h7 => (show False from h7).elim)).trans ((hF6 b9 (fun j9 h8 h7 => (show False from h7).elim)).trans ((hF5 b9 (fun j9 h8 h7 => (show False from h7).elim)).trans ((hF4 b9 (fun j9 h8 h7 => (show False from h7).elim)).trans ((hF3 b9 (fun j9 h8 h7 => (show False from h7).elim)).trans ((hF2 b9 (fun j9 h8 h7 => (show False from h7).elim)).trans ((hF1 b9 (fun j9 h8 h7 => (show False from h7).elim)).trans rfl))))))))))))⟩
                · refine z_bipush (v := 6) B dX12_fieldHere_229 rfl ?_
                  exact z_ret_i B dX12_fieldHere_231 ⟨(show some (Value.int 6) = some (.int (fHf kn va)) by unfold fHf; rw [if_pos c_1, if_neg (fun h9 => c_2 ((lg_cmp_eq _ _).mpr h9)), if_neg (fun h9 => c_3 ((lg_cmp_eq _ _).mpr h9)), if_neg (fun h9 => c_4 ((lg_cmp_eq _ _).mpr h9)), if_neg (fun h9 => c_5 ((lg_cmp_eq _ _).mpr h9)), if_neg (fun h9 => c_6 ((lg_cmp_eq _ _).mpr h9)), if_neg (fun h9 => c_7 ((lg_cmp_eq _ _).mpr h9)), if_pos (lcmp_eq c_8)]), rfl, hI10, (fun b9 h9 => ((hF10 b9 (fun j9 h8 h7 => (show False from h7).elim)).trans ((hF9 b9 (fun j9 h8 h7 => (show False from h7).elim)).trans ((hF8 b9 (fun j9 h8 h7 => (show False from h7).elim)).trans ((hF7 b9 (fun j9 h8 h7 => (show False from h7).elim)).trans ((hF6 b9 (fun j9 h8 h7 => (show False from h7).elim)).trans ((hF5 b9 (fun j9 h8 h7 => (show False from h7).elim)).trans ((hF4 b9 (fun j9 h8 h7 => (show False from h7).elim)).trans ((hF3 b9 (fun j9 h8 h7 => (show False from h7).elim)).trans ((hF2 b9 (fun j9 h8 h7 => (show False from h7).elim)).trans ((hF1 b9 (fun j9 h8 h7 => (show False from h7).elim)).trans rfl)))))))))))⟩
              · refine z_iconst (v := 5) B dX12_fieldHere_205 rfl ?_
                exact z_ret_i B dX12_fieldHere_206 ⟨(show some (Value.int 5) = some (.int (fHf kn va)) by unfold fHf; rw [if_pos c_1, if_neg (fun h9 => c_2 ((lg_cmp_eq _ _).mpr h9)), if_neg (fun h9 => c_3 ((lg_cmp_eq _ _).mpr h9)), if_neg (fun h9 => c_4 ((lg_cmp_eq _ _).mpr h9)), if_neg (fun h9 => c_5 ((lg_cmp_eq _ _).mpr h9)), if_neg (fun h9 => c_6 ((lg_cmp_eq _ _).mpr h9)), if_pos (lcmp_eq c_7)]), rfl, hI9, (fun b9 h9 => ((hF9 b9 (fun j9 h8 h7 => (show False from h7).elim)).trans ((hF8 b9 (fun j9 h8 h7 => (show False from h7).elim)).trans ((hF7 b9 (fun j9 h8 h7 => (show False from h7).elim)).trans ((hF6 b9 (fun j9 h8 h7 => (show False from h7).elim)).trans ((hF5 b9 (fun j9 h8 h7 => (show False from h7).elim)).trans ((hF4 b9 (fun j9 h8 h7 => (show False from h7).elim)).trans ((hF3 b9 (fun j9 h8 h7 => (show False from h7).elim)).trans ((hF2 b9 (fun j9 h8 h7 => (show False from h7).elim)).trans ((hF1 b9 (fun j9 h8 h7 => (show False from h7).elim)).trans rfl))))))))))⟩
            · refine z_iconst (v := 4) B dX12_fieldHere_181 rfl ?_
              exact z_ret_i B dX12_fieldHere_182 ⟨(show some (Value.int 4) = some (.int (fHf kn va)) by unfold fHf; rw [if_pos c_1, if_neg (fun h9 => c_2 ((lg_cmp_eq _ _).mpr h9)), if_neg (fun h9 => c_3 ((lg_cmp_eq _ _).mpr h9)), if_neg (fun h9 => c_4 ((lg_cmp_eq _ _).mpr h9)), if_neg (fun h9 => c_5 ((lg_cmp_eq _ _).mpr h9)), if_pos (lcmp_eq c_6)]), rfl, hI8, (fun b9 h9 => ((hF8 b9 (fun j9 h8 h7 => (show False from h7).elim)).trans ((hF7 b9 (fun j9 h8 h7 => (show False from h7).elim)).trans ((hF6 b9 (fun j9 h8 h7 => (show False from h7).elim)).trans ((hF5 b9 (fun j9 h8 h7 => (show False from h7).elim)).trans ((hF4 b9 (fun j9 h8 h7 => (show False from h7).elim)).trans ((hF3 b9 (fun j9 h8 h7 => (show False from h7).elim)).trans ((hF2 b9 (fun j9 h8 h7 => (show False from h7).elim)).trans ((hF1 b9 (fun j9 h8 h7 => (show False from h7).elim)).trans rfl)))))))))⟩
          · refine z_iconst (v := 3) B dX12_fieldHere_141 rfl ?_
            exact z_ret_i B dX12_fieldHere_142 ⟨(show some (Value.int 3) = some (.int (fHf kn va)) by unfold fHf; rw [if_pos c_1, if_neg (fun h9 => c_2 ((lg_cmp_eq _ _).mpr h9)), if_neg (fun h9 => c_3 ((lg_cmp_eq _ _).mpr h9)), if_neg (fun h9 => c_4 ((lg_cmp_eq _ _).mpr h9)), if_pos (lcmp_eq c_5)]), rfl, hI6, (fun b9 h9 => ((hF6 b9 (fun j9 h8 h7 => (show False from h7).elim)).trans ((hF5 b9 (fun j9 h8 h7 => (show False from h7).elim)).trans ((hF4 b9 (fun j9 h8 h7 => (show False from h7).elim)).trans ((hF3 b9 (fun j9 h8 h7 => (show False from h7).elim)).trans ((hF2 b9 (fun j9 h8 h7 => (show False from h7).elim)).trans ((hF1 b9 (fun j9 h8 h7 => (show False from h7).elim)).trans rfl)))))))⟩
        · refine z_iconst (v := 2) B dX12_fieldHere_100 rfl ?_
          exact z_ret_i B dX12_fieldHere_101 ⟨(show some (Value.int 2) = some (.int (fHf kn va)) by unfold fHf; rw [if_pos c_1, if_neg (fun h9 => c_2 ((lg_cmp_eq _ _).mpr h9)), if_neg (fun h9 => c_3 ((lg_cmp_eq _ _).mpr h9)), if_pos (lcmp_eq c_4)]), rfl, hI4, (fun b9 h9 => ((hF4 b9 (fun j9 h8 h7 => (show False from h7).elim)).trans ((hF3 b9 (fun j9 h8 h7 => (show False from h7).elim)).trans ((hF2 b9 (fun j9 h8 h7 => (show False from h7).elim)).trans ((hF1 b9 (fun j9 h8 h7 => (show False from h7).elim)).trans rfl)))))⟩
      · refine z_iconst (v := 1) B dX12_fieldHere_77 rfl ?_
        exact z_ret_i B dX12_fieldHere_78 ⟨(show some (Value.int 1) = some (.int (fHf kn va)) by unfold fHf; rw [if_pos c_1, if_neg (fun h9 => c_2 ((lg_cmp_eq _ _).mpr h9)), if_pos (lcmp_eq c_3)]), rfl, hI3, (fun b9 h9 => ((hF3 b9 (fun j9 h8 h7 => (show False from h7).elim)).trans ((hF2 b9 (fun j9 h8 h7 => (show False from h7).elim)).trans ((hF1 b9 (fun j9 h8 h7 => (show False from h7).elim)).trans rfl))))⟩
    · refine z_iconst (v := 0) B dX12_fieldHere_33 rfl ?_
      exact z_ret_i B dX12_fieldHere_34 ⟨(show some (Value.int 0) = some (.int (fHf kn va)) by unfold fHf; rw [if_pos c_1, if_pos (lcmp_eq c_2)]), rfl, hI1, (fun b9 h9 => ((hF1 b9 (fun j9 h8 h7 => (show False from h7).elim)).trans rfl))⟩
  · refine z_iconst (v := (-1)) B dX12_fieldHere_8 rfl ?_
    exact z_ret_i B dX12_fieldHere_9 ⟨(show some (Value.int (-1)) = some (.int (fHf kn va)) by unfold fHf; rw [if_neg c_1]), rfl, hI, (fun b9 h9 => rfl)⟩

theorem hu_X12_readNumber_X12 : ∀ w ∈ u_ws RX12 TX12 54, w ∈ wsX12_readNumber := fun _ h => List.mem_cons_of_mem _ (List.mem_append_left _ (List.mem_append_right _ (h)))

theorem hv_X12_readNumber_476 : Cond.fieldLink RX12 476 "FlowExporterModel" (TX12 50).2.1 (TX12 50).2.2.1 ∈ wsX12_readNumber := List.mem_cons_of_mem _ (List.mem_append_left _ (List.mem_append_left _ (List.mem_append_left _ (List.mem_of_getElem? (i := 0) rfl))))

theorem hv_X12_readNumber_467 : Cond.fieldLink RX12 467 "FlowExporterModel" (TX12 53).2.1 (TX12 53).2.2.1 ∈ wsX12_readNumber := List.mem_cons_of_mem _ (List.mem_append_left _ (List.mem_append_left _ (List.mem_append_left _ (List.mem_of_getElem? (i := 1) rfl))))

theorem hv_X12_readNumber_486 : Cond.fieldLink RX12 486 "FlowExporterModel" (TX12 52).2.1 (TX12 52).2.2.1 ∈ wsX12_readNumber := List.mem_cons_of_mem _ (List.mem_append_left _ (List.mem_append_left _ (List.mem_append_left _ (List.mem_of_getElem? (i := 2) rfl))))

set_option maxHeartbeats 4000000 in
set_option maxRecDepth 100000 in
theorem r_readNumber (G : EnvG) (l : Launch) (Φ : Hm) (sz x : Nat) (rd : (Nat → Int32) → Prop) (nw : (Nat → Int32) → Prop) (cr : (Nat → Int64) → Prop) (tp : (Nat → Int32) → Prop) (tt : (Nat → Int64) → Prop) (sI : (Nat → Int32) → Prop) (sT : (Nat → Int32) → Prop) (pt : (Nat → Int32) → Prop) (ql : (Nat → Int32) → Prop) (fl : Nat) (pe : Nat) (le : Nat) (nx : Nat) (il : Nat) (qu : Nat) (kn : Int32) (ec : Int32) (nu : Int32) (va : Int64) (st : Nat) (ep : Int32) (ti : Int32) (ad : Int32) (ob : Int64) (ra : Int32) (rt : Nat) (ex : Int32) (sa : Int64) (us : Int64) (tk : Nat) (th : Int32) (me : Int32) (dr : Int32) (se : Int64) (sn : Int64) (fB : Nat → Int32) (p : Nat) (a : Nat) (b : Int32) (hx : G.2.2.2 ≤ x) (hI : Im G x (rd, nw, cr, tp, tt, sI, sT, pt, ql, fl, pe, le, nx, il, qu, kn, ec, nu, va, st, ep, ti, ad, ob, ra, rt, ex, sa, us, tk, th, me, dr, se, sn) Φ) (hc0 : Φ (x + 25) = some (ab_ G 700 fB)) (hT : TkR (bA fB il) p kn st nx va) (hp : p ≤ il) (hll : il ≤ 700) (ha : a < 2 ^ 31) (hnw : ∀ f9 : Nat → Int32, nw f9 → NN f9) : Ct G l yX12_readNumber wsX12_readNumber ({ frames := 3, cells := 0, slots := 0, locals := 66 }) 0 0 [.ref x, .int (nI a), .int b] Φ sz (fun v Φ1 sz1 => (v = some (.int 0) ∨ v = some (.int 1)) ∧ sz1 = sz ∧ (∃ (nx1 : Nat) (kn1 : Int32) (ec1 : Int32) (nu1 : Int32) (va1 : Int64) (st1 : Nat) (ep1 : Int32), ((∃ w9 : Nat, v = some (.int 1) ∧ numAt (bA fB il) p (a : Int) (b : Int32).toInt = (0, nx, w9) ∧ nu1 = nI w9 ∧ w9 < 1000000 ∧ ((a : Nat) : Int) ≤ w9 ∧ (w9 : Int) ≤ (b : Int32).toInt ∧ ec = ec1 ∧ ep = ep1 ∧ TkR (bA fB il) nx kn1 st1 nx1 va1) ∨ (∃ er9 : Nat, v = some (.int 0) ∧ numAt (bA fB il) p (a : Int) (b : Int32).toInt = (er9, st, 0) ∧ (¬ er9 = 0 ∧ er9 ≤ 4) ∧ ec1 = nI er9 ∧ ep1 = nI st)) ∧ Im G x (rd, nw, cr, tp, tt, sI, sT, pt, ql, fl, pe, le, nx1, il, qu, kn1, ec1, nu1, va1, st1, ep1, ti, ad, ob, ra, rt, ex, sa, us, tk, th, me, dr, se, sn) Φ1) ∧ Fr x (fun j9 => j9 = 0) Φ Φ1) := by
  refine Ct.of (cc := cX12_readNumber) (maxL := 3) (ret := (some .boolean)) (by decide) rfl (Nat.le_of_ble_eq_true rfl) ?_
  intro p9 e9 s9 m9 w9 t9 k9 B
  show Z p9 l e9 _ s9 m9 _ w9 t9 k9 _ G 3 0 [(0, .ref x), (1, .int (nI a)), (2, .int b)] [] Φ sz 0 0
  obtain ⟨b_1, b_2, b_3, b_4⟩ := TkR_b hT (by omega)
  refine z_aload_n B dX12_readNumber_0 rfl 0 rfl ?_
  obtain ⟨n_1, v_1, n_2, h_1, b_17, b_5, b_6, b_7, b_8, b_9, b_10, b_11, b_12, b_13, b_14, b_15, b_16⟩ := im0 hI
  replace b_5 : 1 ≤ rt := b_5
  replace b_6 : rt ≤ 1024 := b_6
  replace b_7 : fl ≤ 12 := b_7
  replace b_8 : pe ≤ 24 := b_8
  replace b_9 : le ≤ 700 := b_9
  replace b_10 : qu ≤ 12 := b_10
  replace b_11 : n_1 ≤ 8 := b_11
  replace b_12 : n_2 ≤ 24 := b_12
  replace b_13 : tk ≤ 24 := b_13
  replace b_14 : il ≤ 700 := b_14
  replace b_15 : nx ≤ 701 := b_15
  replace b_16 : st ≤ 701 := b_16
  have h_2 : Φ x = some (o_ 14 [.int th, .ref (x + 1), .ref (x + 2), .int ti, .int ra, .int (nI rt), .int ex, .int ad, .ref (x + 3), .ref (x + 4), .int me, .long se, .ref (x + 5), .int (nI fl), .int dr, .long ob, .long sa, .long sn, .long us, .ref (x + 6), .ref (x + 7), .int (nI pe), .ref (x + 8), .int (nI le), .ref (x + 9), .ref (x + 10), .int (nI qu), .ref (x + 11), .ref (x + 12), .ref (x + 13), .ref (x + 14), .ref (x + 15), .ref (x + 16), .int (nI n_1), .long v_1, .ref (x + 17), .ref (x + 18), .ref (x + 19), .ref (x + 20), .ref (x + 21), .ref (x + 22), .int (nI n_2), .ref (x + 23), .ref (x + 24), .int (nI tk), .ref (x + 25), .int (nI il), .int (nI nx), .int ec, .int ep, .int kn, .int (nI st), .int nu, .long va]) := h_1
  refine z_get (ref := "FlowExporterModel") (C := RX12) (T := TX12) (N := 54) (ci := 14) (v := .int kn) B hu_X12_readNumber_X12 rfl 50 (Nat.le_of_ble_eq_true rfl) hv_X12_readNumber_476 rfl h_2 rfl dX12_readNumber_1 ?_
  refine z_iconst (v := 2) B dX12_readNumber_4 rfl ?_
  refine z_icmp_eq (tgt := 14) B dX12_readNumber_5 rfl (fun c_1 => ?_) (fun c_1 => ?_)
  · refine z_aload_n B dX12_readNumber_14 rfl 0 rfl ?_
    refine z_get (ref := "FlowExporterModel") (C := RX12) (T := TX12) (N := 54) (ci := 14) (v := .long va) B hu_X12_readNumber_X12 rfl 53 (Nat.le_of_ble_eq_true rfl) hv_X12_readNumber_467 rfl h_2 rfl dX12_readNumber_15 ?_
    refine z_iload_n B dX12_readNumber_18 rfl 1 rfl ?_
    refine z_i2l (v := (nI a).toInt64) B dX12_readNumber_19 rfl ?_
    refine z_iload_n B dX12_readNumber_20 rfl 2 rfl ?_
    refine z_i2l (v := b.toInt64) B dX12_readNumber_21 rfl ?_
    by_cases hR1 : inP va ((nI a).toInt64) b.toInt64
    · obtain ⟨n_3, e_1, e_2, e_3, rfl⟩ := inL_get (L := a) (H := (b).toInt) (natL (by omega)) (Int32.toInt_toInt64 _) hR1
      refine z_callS (As := [.long (Int64.ofNat n_3), .long ((nI a).toInt64), .long b.toInt64]) (rest := []) B (c_inR1 G l Φ sz (Int64.ofNat n_3) ((nI a).toInt64) b.toInt64 hR1 (fun v8 Φ8 sz8 => v8 = some (.int 1) ∧ sz8 = sz ∧ Im G x (rd, nw, cr, tp, tt, sI, sT, pt, ql, fl, pe, le, nx, il, qu, kn, ec, nu, Int64.ofNat n_3, st, ep, ti, ad, ob, ra, rt, ex, sa, us, tk, th, me, dr, se, sn) Φ8 ∧ Fr x (fun j9 => False) Φ Φ8) ⟨rfl, rfl, hI, fun _ _ => rfl⟩) (va_cwS 3 B.1.2.2.2.2 gX12_readNumber_X12_inRange rfl rfl rfl (by decide +kernel) ⟨Nat.le_of_ble_eq_true rfl, Nat.le_of_ble_eq_true rfl⟩) rfl rfl (Nat.le_of_ble_eq_true rfl) dX12_readNumber_22 ⟨Nat.le_of_ble_eq_true rfl, Nat.le_of_ble_eq_true rfl⟩ (fun r_1 Φ1 sz1 st1 hp1 hs1 => ?_)
      obtain ⟨rfl, hq1, hI1, hF1⟩ := hp1
      subst sz1
      replace hs1 : st1 = [.int 1] := hs1
      subst st1
      refine z_if_ne (tgt := 34) B dX12_readNumber_25 rfl (fun c_2 => ?_) (fun h9 => absurd h9 (by decide))
      refine z_aload_n B dX12_readNumber_34 rfl 0 rfl ?_
      refine z_aload_n B dX12_readNumber_35 rfl 0 rfl ?_
      have h_3 : Φ1 x = some (o_ 14 [.int th, .ref (x + 1), .ref (x + 2), .int ti, .int ra, .int (nI rt), .int ex, .int ad, .ref (x + 3), .ref (x + 4), .int me, .long se, .ref (x + 5), .int (nI fl), .int dr, .long ob, .long sa, .long sn, .long us, .ref (x + 6), .ref (x + 7), .int (nI pe), .ref (x + 8), .int (nI le), .ref (x + 9), .ref (x + 10), .int (nI qu), .ref (x + 11), .ref (x + 12), .ref (x + 13), .ref (x + 14), .ref (x + 15), .ref (x + 16), .int (nI n_1), .long v_1, .ref (x + 17), .ref (x + 18), .ref (x + 19), .ref (x + 20), .ref (x + 21), .ref (x + 22), .int (nI n_2), .ref (x + 23), .ref (x + 24), .int (nI tk), .ref (x + 25), .int (nI il), .int (nI nx), .int ec, .int ep, .int kn, .int (nI st), .int nu, .long (Int64.ofNat n_3)]) := ((hF1 x (fun j9 h8 h7 => (show False from h7).elim)).trans h_2)
      refine z_get (ref := "FlowExporterModel") (C := RX12) (T := TX12) (N := 54) (ci := 14) (v := .long (Int64.ofNat n_3)) B hu_X12_readNumber_X12 rfl 53 (Nat.le_of_ble_eq_true rfl) hv_X12_readNumber_467 rfl h_3 rfl dX12_readNumber_36 ?_
      refine z_l2i (v := (Int64.ofNat n_3).toInt32) B dX12_readNumber_39 rfl ?_
      have b_18 := Int32.toInt_lt b
      refine z_top (st1 := [.int (nI n_3), .ref x]) (congrArg (fun w9 : Int32 => ([.int w9, .ref x] : List Value)) (ofL (by omega))) ?_
      refine z_put (ref := "FlowExporterModel") (C := RX12) (T := TX12) (N := 54) (ci := 14) (v := .int (nI n_3)) B hu_X12_readNumber_X12 tyX12 tyX12_ok nmX12 rfl 52 (Nat.le_of_ble_eq_true rfl) hv_X12_readNumber_486 rfl (Or.inl rfl) h_3 hx rfl rfl (Nat.le_of_ble_eq_true rfl) dX12_readNumber_40 (fun Φ2 hΦ1 => ?_)
      have h_4 : Φ2 x = some (o_ 14 [.int th, .ref (x + 1), .ref (x + 2), .int ti, .int ra, .int (nI rt), .int ex, .int ad, .ref (x + 3), .ref (x + 4), .int me, .long se, .ref (x + 5), .int (nI fl), .int dr, .long ob, .long sa, .long sn, .long us, .ref (x + 6), .ref (x + 7), .int (nI pe), .ref (x + 8), .int (nI le), .ref (x + 9), .ref (x + 10), .int (nI qu), .ref (x + 11), .ref (x + 12), .ref (x + 13), .ref (x + 14), .ref (x + 15), .ref (x + 16), .int (nI n_1), .long v_1, .ref (x + 17), .ref (x + 18), .ref (x + 19), .ref (x + 20), .ref (x + 21), .ref (x + 22), .int (nI n_2), .ref (x + 23), .ref (x + 24), .int (nI tk), .ref (x + 25), .int (nI il), .int (nI nx), .int ec, .int ep, .int kn, .int (nI st), .int (nI n_3), .long (Int64.ofNat n_3)]) := fset_at hΦ1
      have hI2 : Im G x (rd, nw, cr, tp, tt, sI, sT, pt, ql, fl, pe, le, nx, il, qu, kn, ec, nI n_3, Int64.ofNat n_3, st, ep, ti, ad, ob, ra, rt, ex, sa, us, tk, th, me, dr, se, sn) Φ2 := Im.put0 hI1 hΦ1 ⟨n_1, v_1, n_2, rfl, b_17, b_5, b_6, b_7, b_8, b_9, b_10, b_11, b_12, b_13, b_14, b_15, b_16⟩
      refine z_aload_n B dX12_readNumber_43 rfl 0 rfl ?_
      have h_5 : Φ2 (x + 25) = some (ab_ G 700 fB) := ((fset_fr hΦ1 (ne_off (x := x) (i := 25) (j := 0) rfl)).trans ((hF1 (x + 25) (fun j9 h8 h7 => (show False from h7).elim)).trans hc0))
      refine z_callV (As := []) (rest := []) B (r_advanceToken G l Φ2 sz x rd nw cr tp tt sI sT pt ql fl pe le nx il qu kn ec (nI n_3) (Int64.ofNat n_3) st ep ti ad ob ra rt ex sa us tk th me dr se sn fB hx hI2 h_5 (show nx ≤ il by omega) (show il ≤ 700 by omega) hnw) (cwV 0 B.1.2.2.2.2 gX12_readNumber_X12_advanceToken rfl rfl rfl (by decide +kernel) ⟨Nat.le_of_ble_eq_true rfl, Nat.le_of_ble_eq_true rfl⟩) h_4 rfl rfl rfl rfl (Nat.le_of_ble_eq_true rfl) dX12_readNumber_44 ⟨Nat.le_of_ble_eq_true rfl, Nat.le_of_ble_eq_true rfl⟩ (fun r_2 Φ3 sz2 st2 hp2 hs2 => ?_)
      obtain ⟨rfl, hq2, ⟨n_4, v_2, v_3, n_5, b_19, hI3⟩, hF2⟩ := hp2
      subst sz2
      replace hs2 : st2 = [] := hs2
      subst st2
      replace hI3 : Im G x (rd, nw, cr, tp, tt, sI, sT, pt, ql, fl, pe, le, n_4, il, qu, v_2, ec, nI n_3, v_3, n_5, ep, ti, ad, ob, ra, rt, ex, sa, us, tk, th, me, dr, se, sn) Φ3 := hI3
      replace b_19 : TkR (bA fB il) nx v_2 n_5 n_4 v_3 := b_19
      obtain ⟨b_20, b_21, b_22, b_23⟩ := TkR_b b_19 (by omega)
      refine z_iconst (v := 1) B dX12_readNumber_47 rfl ?_
      refine z_ret_z B dX12_readNumber_48 (by decide) ⟨(Or.inr rfl), rfl, ⟨n_4, v_2, ec, nI n_3, v_3, n_5, ep, ?_, hI3⟩, ?_⟩
      · exact (Or.inl ⟨n_3, rfl, (rn_ok hT hp c_1 (by omega) (by omega) (by omega)).1, rfl, (rn_ok (lo := (0 : Int)) (hi := ((n_3 : Nat) : Int)) hT hp c_1 (by omega) (by omega) (by omega)).2, by omega, by omega, rfl, rfl, b_19⟩)
      · exact (fun b9 h9 => ((hF2 b9 h9).trans ((fset_fr hΦ1 (fun h8 => h9 (0) h8 (show 0 = 0 by decide))).trans ((hF1 b9 (fun j9 h8 h7 => (show False from h7).elim)).trans rfl))))
    · refine z_callS (As := [.long va, .long ((nI a).toInt64), .long b.toInt64]) (rest := []) B (c_inR0 G l Φ sz va ((nI a).toInt64) b.toInt64 hR1 (fun v8 Φ8 sz8 => v8 = some (.int 0) ∧ sz8 = sz ∧ Im G x (rd, nw, cr, tp, tt, sI, sT, pt, ql, fl, pe, le, nx, il, qu, kn, ec, nu, va, st, ep, ti, ad, ob, ra, rt, ex, sa, us, tk, th, me, dr, se, sn) Φ8 ∧ Fr x (fun j9 => False) Φ Φ8) ⟨rfl, rfl, hI, fun _ _ => rfl⟩) (va_cwS 3 B.1.2.2.2.2 gX12_readNumber_X12_inRange rfl rfl rfl (by decide +kernel) ⟨Nat.le_of_ble_eq_true rfl, Nat.le_of_ble_eq_true rfl⟩) rfl rfl (Nat.le_of_ble_eq_true rfl) dX12_readNumber_22 ⟨Nat.le_of_ble_eq_true rfl, Nat.le_of_ble_eq_true rfl⟩ (fun r_3 Φ4 sz3 st3 hp3 hs3 => ?_)
      obtain ⟨rfl, hq3, hI4, hF3⟩ := hp3
      subst sz3
      replace hs3 : st3 = [.int 0] := hs3
      subst st3
      refine z_if_ne (tgt := 34) B dX12_readNumber_25 rfl (fun h9 => absurd (by decide) h9) (fun c_3 => ?_)
      refine z_aload_n B dX12_readNumber_28 rfl 0 rfl ?_
      refine z_iconst (v := 2) B dX12_readNumber_29 rfl ?_
      have h_6 : Φ4 x = some (o_ 14 [.int th, .ref (x + 1), .ref (x + 2), .int ti, .int ra, .int (nI rt), .int ex, .int ad, .ref (x + 3), .ref (x + 4), .int me, .long se, .ref (x + 5), .int (nI fl), .int dr, .long ob, .long sa, .long sn, .long us, .ref (x + 6), .ref (x + 7), .int (nI pe), .ref (x + 8), .int (nI le), .ref (x + 9), .ref (x + 10), .int (nI qu), .ref (x + 11), .ref (x + 12), .ref (x + 13), .ref (x + 14), .ref (x + 15), .ref (x + 16), .int (nI n_1), .long v_1, .ref (x + 17), .ref (x + 18), .ref (x + 19), .ref (x + 20), .ref (x + 21), .ref (x + 22), .int (nI n_2), .ref (x + 23), .ref (x + 24), .int (nI tk), .ref (x + 25), .int (nI il), .int (nI nx), .int ec, .int ep, .int kn, .int (nI st), .int nu, .long va]) := ((hF3 x (fun j9 h8 h7 => (show False from h7).elim)).trans h_2)
      refine z_callV (As := [.int 2]) (rest := []) B (r_fail G l Φ4 sz x rd nw cr tp tt sI sT pt ql fl pe le nx il qu kn ec nu va st ep ti ad ob ra rt ex sa us tk th me dr se sn 2 hx hI4 hnw) (cwV 1 B.1.2.2.2.2 gX12_readNumber_X12_fail rfl rfl rfl (by decide +kernel) ⟨Nat.le_of_ble_eq_true rfl, Nat.le_of_ble_eq_true rfl⟩) h_6 rfl rfl rfl rfl (Nat.le_of_ble_eq_true rfl) dX12_readNumber_30 ⟨Nat.le_of_ble_eq_true rfl, Nat.le_of_ble_eq_true rfl⟩ (fun r_4 Φ5 sz4 st4 hp4 hs4 => ?_)
      obtain ⟨rfl, hq4, hI5, hF4⟩ := hp4
      subst sz4
      replace hs4 : st4 = [.int 0] := hs4
      subst st4
      replace hI5 : Im G x (rd, nw, cr, tp, tt, sI, sT, pt, ql, fl, pe, le, nx, il, qu, kn, 2, nu, va, st, nI st, ti, ad, ob, ra, rt, ex, sa, us, tk, th, me, dr, se, sn) Φ5 := hI5
      refine z_ret_z B dX12_readNumber_33 (by decide) ⟨(Or.inl rfl), rfl, ⟨nx, kn, 2, nu, va, st, nI st, ?_, hI5⟩, ?_⟩
      · exact (Or.inr ⟨2, rfl, rn_e2 hT hp c_1 (by omega) hR1, ⟨by decide, by decide⟩, rfl, rfl⟩)
      · exact (fun b9 h9 => ((hF4 b9 h9).trans ((hF3 b9 (fun j9 h8 h7 => (show False from h7).elim)).trans rfl)))
  · refine z_aload_n B dX12_readNumber_8 rfl 0 rfl ?_
    refine z_iconst (v := 1) B dX12_readNumber_9 rfl ?_
    refine z_callV (As := [.int 1]) (rest := []) B (r_fail G l Φ sz x rd nw cr tp tt sI sT pt ql fl pe le nx il qu kn ec nu va st ep ti ad ob ra rt ex sa us tk th me dr se sn 1 hx hI hnw) (cwV 1 B.1.2.2.2.2 gX12_readNumber_X12_fail rfl rfl rfl (by decide +kernel) ⟨Nat.le_of_ble_eq_true rfl, Nat.le_of_ble_eq_true rfl⟩) h_2 rfl rfl rfl rfl (Nat.le_of_ble_eq_true rfl) dX12_readNumber_10 ⟨Nat.le_of_ble_eq_true rfl, Nat.le_of_ble_eq_true rfl⟩ (fun r_5 Φ6 sz5 st5 hp5 hs5 => ?_)
    obtain ⟨rfl, hq5, hI6, hF5⟩ := hp5
    subst sz5
    replace hs5 : st5 = [.int 0] := hs5
    subst st5
    replace hI6 : Im G x (rd, nw, cr, tp, tt, sI, sT, pt, ql, fl, pe, le, nx, il, qu, kn, 1, nu, va, st, nI st, ti, ad, ob, ra, rt, ex, sa, us, tk, th, me, dr, se, sn) Φ6 := hI6
    refine z_ret_z B dX12_readNumber_13 (by decide) ⟨(Or.inl rfl), rfl, ⟨nx, kn, 1, nu, va, st, nI st, ?_, hI6⟩, ?_⟩
    · exact (Or.inr ⟨1, rfl, rn_e1 hT hp c_1, ⟨by decide, by decide⟩, rfl, rfl⟩)
    · exact (fun b9 h9 => ((hF5 b9 h9).trans rfl))

theorem semi_lt {f : Nat → Int32} {n p st nx q : Nat} {kn : Int32} {va : Int64} (h : TkR (bA f n) p kn st nx va) (hp : p ≤ n) (h1 : semi (bA f n) p = (0, q)) : p < q := by
  obtain ⟨k, hT, -, -, -, -, -⟩ := TkR_k h hp
  obtain ⟨h2, h3, -, -, -, -, h4⟩ := Tk_ok hT hp
  by_cases hk : k = 4
  · subst hk
    rw [semi_0 hT] at h1
    have h6 := (Prod.mk.inj h1).2
    have h5 := h4 (by omega)
    omega
  · rw [semi_1 hT hk] at h1
    exact absurd (Prod.mk.inj h1).1 (by decide)

theorem hu_X12_readEnd_X12 : ∀ w ∈ u_ws RX12 TX12 54, w ∈ wsX12_readEnd := fun _ h => List.mem_cons_of_mem _ (List.mem_append_left _ (List.mem_append_right _ (h)))

theorem hv_X12_readEnd_476 : Cond.fieldLink RX12 476 "FlowExporterModel" (TX12 50).2.1 (TX12 50).2.2.1 ∈ wsX12_readEnd := List.mem_cons_of_mem _ (List.mem_append_left _ (List.mem_append_left _ (List.mem_append_left _ (List.mem_of_getElem? (i := 0) rfl))))

set_option maxRecDepth 20000 in
theorem ggX12_see_X12_remember : GoodIn wsX12_see wsX12_remember := goodIn_ca ((goodIn_ca (goodIn_r _ [11, 12, 13, 14, 15, 16, 17, 10, 18, 19, 20, 21] rfl (by decide +kernel)) (goodIn_sub (fun _ h => List.mem_cons_of_mem _ (List.mem_append_left _ (List.mem_append_left _ (List.mem_append_right _ h)))) gw_wsX120))) (goodIn_sub (fun _ h => List.mem_cons_of_mem _ (List.mem_append_left _ (List.mem_append_right _ h))) (all_fg _))
set_option maxRecDepth 20000 in
theorem gX12_see_X12_remember : GoodIn wsX12_see (wsV RX12 228 RX12 yX12_remember wsX12_remember) := goodIn_app (goodIn_m (mem_cA (List.mem_cons_of_mem _ (List.mem_append_left _ (List.mem_append_left _ (List.mem_append_left _ (List.mem_append_left _ (List.mem_of_getElem? (i := 6) rfl)))))) (mem_cA (List.mem_cons_of_mem _ (List.mem_append_left _ (List.mem_append_left _ (List.mem_append_left _ (List.mem_append_left _ (List.mem_of_getElem? (i := 7) rfl)))))) (mem_cA (List.mem_cons_of_mem _ (List.mem_append_left _ (List.mem_append_left _ (List.mem_append_left _ (List.mem_append_left _ (List.mem_of_getElem? (i := 8) rfl)))))) (mem_cA (List.mem_cons_of_mem _ (List.mem_append_left _ (List.mem_append_left _ (List.mem_append_left _ (List.mem_append_left _ (List.mem_of_getElem? (i := 9) rfl)))))) mem_cZ)))) (by decide +kernel)) ggX12_see_X12_remember
set_option maxRecDepth 20000 in
theorem ggX12_see_X12_draw : GoodIn wsX12_see wsX12_draw := goodIn_ca ((goodIn_ca (goodIn_r _ [25, 26, 27, 28, 29] rfl (by decide +kernel)) (goodIn_sub (fun _ h => List.mem_cons_of_mem _ (List.mem_append_left _ (List.mem_append_left _ (List.mem_append_right _ h)))) gw_wsX120))) (goodIn_sub (fun _ h => List.mem_cons_of_mem _ (List.mem_append_right _ h)) (all_fg _))
set_option maxRecDepth 20000 in
theorem gX12_see_X12_draw : GoodIn wsX12_see (wsV RX12 232 RX12 yX12_draw wsX12_draw) := goodIn_app (goodIn_m (mem_cA (List.mem_cons_of_mem _ (List.mem_append_left _ (List.mem_append_left _ (List.mem_append_left _ (List.mem_append_left _ (List.mem_of_getElem? (i := 21) rfl)))))) (mem_cA (List.mem_cons_of_mem _ (List.mem_append_left _ (List.mem_append_left _ (List.mem_append_left _ (List.mem_append_left _ (List.mem_of_getElem? (i := 22) rfl)))))) (mem_cA (List.mem_cons_of_mem _ (List.mem_append_left _ (List.mem_append_left _ (List.mem_append_left _ (List.mem_append_left _ (List.mem_of_getElem? (i := 23) rfl)))))) (mem_cA (List.mem_cons_of_mem _ (List.mem_append_left _ (List.mem_append_left _ (List.mem_append_left _ (List.mem_append_left _ (List.mem_of_getElem? (i := 9) rfl)))))) mem_cZ)))) (by decide +kernel)) ggX12_see_X12_draw
set_option maxRecDepth 20000 in
theorem ggX12_see_X12_flowOf : GoodIn wsX12_see wsX12_flowOf := goodIn_ca ((goodIn_ca (goodIn_r _ [33, 4, 5] rfl (by decide +kernel)) (goodIn_sub (fun _ h => List.mem_cons_of_mem _ (List.mem_append_left _ (List.mem_append_left _ (List.mem_append_right _ h)))) gw_wsX120))) (goodIn_sub (fun _ h => List.mem_cons_of_mem _ (List.mem_append_left _ (List.mem_append_right _ h))) (all_fg _))
set_option maxRecDepth 20000 in
theorem gX12_see_X12_flowOf : GoodIn wsX12_see (wsV RX12 235 RX12 yX12_flowOf wsX12_flowOf) := goodIn_app (goodIn_m (mem_cA (List.mem_cons_of_mem _ (List.mem_append_left _ (List.mem_append_left _ (List.mem_append_left _ (List.mem_append_right _ (List.mem_append_left _ (List.mem_of_getElem? (i := 5) rfl))))))) (mem_cA (List.mem_cons_of_mem _ (List.mem_append_left _ (List.mem_append_left _ (List.mem_append_left _ (List.mem_append_right _ (List.mem_append_left _ (List.mem_of_getElem? (i := 6) rfl))))))) (mem_cA (List.mem_cons_of_mem _ (List.mem_append_left _ (List.mem_append_left _ (List.mem_append_left _ (List.mem_append_right _ (List.mem_append_left _ (List.mem_of_getElem? (i := 7) rfl))))))) (mem_cA (List.mem_cons_of_mem _ (List.mem_append_left _ (List.mem_append_left _ (List.mem_append_left _ (List.mem_append_left _ (List.mem_of_getElem? (i := 9) rfl)))))) mem_cZ)))) (by decide +kernel)) ggX12_see_X12_flowOf
set_option maxRecDepth 20000 in
theorem ggX12_see_X12_makeRoom : GoodIn wsX12_see wsX12_makeRoom := goodIn_ca ((goodIn_ca (goodIn_r _ [37, 4, 5, 38, 39, 40, 10, 41, 42, 43, 44, 45, 46, 47, 48, 49, 50, 51, 52, 53, 54, 55, 56, 57, 58, 59, 60, 61, 62, 63, 64, 65, 66, 67, 68, 69, 70, 71, 72, 73, 74, 75, 76, 77, 78, 79, 2, 80, 81, 82, 83, 84, 85, 86, 87, 88, 89, 90, 91] rfl (by decide +kernel)) (goodIn_sub (fun _ h => List.mem_cons_of_mem _ (List.mem_append_left _ (List.mem_append_left _ (List.mem_append_right _ h)))) gw_wsX120))) (goodIn_sub (fun _ h => List.mem_cons_of_mem _ (List.mem_append_left _ (List.mem_append_right _ h))) (all_fg _))
set_option maxRecDepth 20000 in
theorem gX12_see_X12_makeRoom : GoodIn wsX12_see (wsV RX12 239 RX12 yX12_makeRoom wsX12_makeRoom) := goodIn_app (goodIn_m (mem_cA (List.mem_cons_of_mem _ (List.mem_append_left _ (List.mem_append_left _ (List.mem_append_left _ (List.mem_append_right _ (List.mem_append_left _ (List.mem_of_getElem? (i := 9) rfl))))))) (mem_cA (List.mem_cons_of_mem _ (List.mem_append_left _ (List.mem_append_left _ (List.mem_append_left _ (List.mem_append_right _ (List.mem_append_left _ (List.mem_of_getElem? (i := 10) rfl))))))) (mem_cA (List.mem_cons_of_mem _ (List.mem_append_left _ (List.mem_append_left _ (List.mem_append_left _ (List.mem_append_right _ (List.mem_append_left _ (List.mem_of_getElem? (i := 11) rfl))))))) (mem_cA (List.mem_cons_of_mem _ (List.mem_append_left _ (List.mem_append_left _ (List.mem_append_left _ (List.mem_append_left _ (List.mem_of_getElem? (i := 9) rfl)))))) mem_cZ)))) (by decide +kernel)) ggX12_see_X12_makeRoom
theorem dX12_see_0 : decode cX12_see 0 = .ok (.aload_n 0, 1) := by decide +kernel
theorem dX12_see_1 : decode cX12_see 1 = .ok (.dup, 1) := by decide +kernel
theorem dX12_see_2 : decode cX12_see 2 = .ok (.getfield 117, 3) := by decide +kernel
theorem dX12_see_5 : decode cX12_see 5 = .ok (.lconst 1, 1) := by decide +kernel
theorem dX12_see_6 : decode cX12_see 6 = .ok (.ladd, 1) := by decide +kernel
theorem dX12_see_7 : decode cX12_see 7 = .ok (.putfield 117, 3) := by decide +kernel
theorem dX12_see_10 : decode cX12_see 10 = .ok (.aload_n 0, 1) := by decide +kernel
theorem dX12_see_11 : decode cX12_see 11 = .ok (.iload_n 1, 1) := by decide +kernel
theorem dX12_see_12 : decode cX12_see 12 = .ok (.iload_n 2, 1) := by decide +kernel
theorem dX12_see_13 : decode cX12_see 13 = .ok (.iload_n 3, 1) := by decide +kernel
theorem dX12_see_14 : decode cX12_see 14 = .ok (.iload 4, 2) := by decide +kernel
theorem dX12_see_16 : decode cX12_see 16 = .ok (.iload 5, 2) := by decide +kernel
theorem dX12_see_18 : decode cX12_see 18 = .ok (.invokevirtual 228, 3) := by decide +kernel
theorem dX12_see_21 : decode cX12_see 21 = .ok (.aload_n 0, 1) := by decide +kernel
theorem dX12_see_22 : decode cX12_see 22 = .ok (.getfield 107, 3) := by decide +kernel
theorem dX12_see_25 : decode cX12_see 25 = .ok (.iconst 1, 1) := by decide +kernel
theorem dX12_see_26 : decode cX12_see 26 = .ok (.if_icmp .le 16, 3) := by decide +kernel
theorem dX12_see_29 : decode cX12_see 29 = .ok (.aload_n 0, 1) := by decide +kernel
theorem dX12_see_30 : decode cX12_see 30 = .ok (.aload_n 0, 1) := by decide +kernel
theorem dX12_see_31 : decode cX12_see 31 = .ok (.getfield 107, 3) := by decide +kernel
theorem dX12_see_34 : decode cX12_see 34 = .ok (.invokevirtual 232, 3) := by decide +kernel
theorem dX12_see_37 : decode cX12_see 37 = .ok (.ifCond .eq 5, 3) := by decide +kernel
theorem dX12_see_40 : decode cX12_see 40 = .ok (.iconst 0, 1) := by decide +kernel
theorem dX12_see_41 : decode cX12_see 41 = .ok (.ireturn, 1) := by decide +kernel
theorem dX12_see_42 : decode cX12_see 42 = .ok (.aload_n 0, 1) := by decide +kernel
theorem dX12_see_43 : decode cX12_see 43 = .ok (.dup, 1) := by decide +kernel
theorem dX12_see_44 : decode cX12_see 44 = .ok (.getfield 121, 3) := by decide +kernel
theorem dX12_see_47 : decode cX12_see 47 = .ok (.lconst 1, 1) := by decide +kernel
theorem dX12_see_48 : decode cX12_see 48 = .ok (.ladd, 1) := by decide +kernel
theorem dX12_see_49 : decode cX12_see 49 = .ok (.putfield 121, 3) := by decide +kernel
theorem dX12_see_52 : decode cX12_see 52 = .ok (.aload_n 0, 1) := by decide +kernel
theorem dX12_see_53 : decode cX12_see 53 = .ok (.iload_n 1, 1) := by decide +kernel
theorem dX12_see_54 : decode cX12_see 54 = .ok (.iload_n 2, 1) := by decide +kernel
theorem dX12_see_55 : decode cX12_see 55 = .ok (.iload_n 3, 1) := by decide +kernel
theorem dX12_see_56 : decode cX12_see 56 = .ok (.iload 4, 2) := by decide +kernel
theorem dX12_see_58 : decode cX12_see 58 = .ok (.invokevirtual 235, 3) := by decide +kernel
theorem dX12_see_61 : decode cX12_see 61 = .ok (.istore 6, 2) := by decide +kernel
theorem dX12_see_63 : decode cX12_see 63 = .ok (.iload 6, 2) := by decide +kernel
theorem dX12_see_65 : decode cX12_see 65 = .ok (.iconst (-1), 1) := by decide +kernel
theorem dX12_see_66 : decode cX12_see 66 = .ok (.if_icmp .ne 108, 3) := by decide +kernel
theorem dX12_see_69 : decode cX12_see 69 = .ok (.aload_n 0, 1) := by decide +kernel
theorem dX12_see_70 : decode cX12_see 70 = .ok (.invokevirtual 239, 3) := by decide +kernel
theorem dX12_see_73 : decode cX12_see 73 = .ok (.aload_n 0, 1) := by decide +kernel
theorem dX12_see_74 : decode cX12_see 74 = .ok (.getfield 133, 3) := by decide +kernel
theorem dX12_see_77 : decode cX12_see 77 = .ok (.istore 6, 2) := by decide +kernel
theorem dX12_see_79 : decode cX12_see 79 = .ok (.aload_n 0, 1) := by decide +kernel
theorem dX12_see_80 : decode cX12_see 80 = .ok (.dup, 1) := by decide +kernel
theorem dX12_see_81 : decode cX12_see 81 = .ok (.getfield 133, 3) := by decide +kernel
theorem dX12_see_84 : decode cX12_see 84 = .ok (.iconst 1, 1) := by decide +kernel
theorem dX12_see_85 : decode cX12_see 85 = .ok (.iadd, 1) := by decide +kernel
theorem dX12_see_86 : decode cX12_see 86 = .ok (.putfield 133, 3) := by decide +kernel
theorem dX12_see_89 : decode cX12_see 89 = .ok (.bipush 8, 2) := by decide +kernel
theorem dX12_see_91 : decode cX12_see 91 = .ok (.iload 6, 2) := by decide +kernel
theorem dX12_see_93 : decode cX12_see 93 = .ok (.imul, 1) := by decide +kernel
theorem dX12_see_94 : decode cX12_see 94 = .ok (.istore 7, 2) := by decide +kernel
theorem dX12_see_96 : decode cX12_see 96 = .ok (.aload_n 0, 1) := by decide +kernel
theorem dX12_see_97 : decode cX12_see 97 = .ok (.getfield 26, 3) := by decide +kernel
theorem dX12_see_100 : decode cX12_see 100 = .ok (.iload 7, 2) := by decide +kernel
theorem dX12_see_102 : decode cX12_see 102 = .ok (.iload_n 1, 1) := by decide +kernel
theorem dX12_see_103 : decode cX12_see 103 = .ok (.i2l, 1) := by decide +kernel
theorem dX12_see_104 : decode cX12_see 104 = .ok (.lastore, 1) := by decide +kernel
theorem dX12_see_105 : decode cX12_see 105 = .ok (.aload_n 0, 1) := by decide +kernel
theorem dX12_see_106 : decode cX12_see 106 = .ok (.getfield 26, 3) := by decide +kernel
theorem dX12_see_109 : decode cX12_see 109 = .ok (.iload 7, 2) := by decide +kernel
theorem dX12_see_111 : decode cX12_see 111 = .ok (.iconst 1, 1) := by decide +kernel
theorem dX12_see_112 : decode cX12_see 112 = .ok (.iadd, 1) := by decide +kernel
theorem dX12_see_113 : decode cX12_see 113 = .ok (.iload_n 2, 1) := by decide +kernel
theorem dX12_see_114 : decode cX12_see 114 = .ok (.i2l, 1) := by decide +kernel
theorem dX12_see_115 : decode cX12_see 115 = .ok (.lastore, 1) := by decide +kernel
theorem dX12_see_116 : decode cX12_see 116 = .ok (.aload_n 0, 1) := by decide +kernel
theorem dX12_see_117 : decode cX12_see 117 = .ok (.getfield 26, 3) := by decide +kernel
theorem dX12_see_120 : decode cX12_see 120 = .ok (.iload 7, 2) := by decide +kernel
theorem dX12_see_122 : decode cX12_see 122 = .ok (.iconst 2, 1) := by decide +kernel
theorem dX12_see_123 : decode cX12_see 123 = .ok (.iadd, 1) := by decide +kernel
theorem dX12_see_124 : decode cX12_see 124 = .ok (.iload_n 3, 1) := by decide +kernel
theorem dX12_see_125 : decode cX12_see 125 = .ok (.i2l, 1) := by decide +kernel
theorem dX12_see_126 : decode cX12_see 126 = .ok (.lastore, 1) := by decide +kernel
theorem dX12_see_127 : decode cX12_see 127 = .ok (.aload_n 0, 1) := by decide +kernel
theorem dX12_see_128 : decode cX12_see 128 = .ok (.getfield 26, 3) := by decide +kernel
theorem dX12_see_131 : decode cX12_see 131 = .ok (.iload 7, 2) := by decide +kernel
theorem dX12_see_133 : decode cX12_see 133 = .ok (.iconst 3, 1) := by decide +kernel
theorem dX12_see_134 : decode cX12_see 134 = .ok (.iadd, 1) := by decide +kernel
theorem dX12_see_135 : decode cX12_see 135 = .ok (.iload 4, 2) := by decide +kernel
theorem dX12_see_137 : decode cX12_see 137 = .ok (.i2l, 1) := by decide +kernel
theorem dX12_see_138 : decode cX12_see 138 = .ok (.lastore, 1) := by decide +kernel
theorem dX12_see_139 : decode cX12_see 139 = .ok (.aload_n 0, 1) := by decide +kernel
theorem dX12_see_140 : decode cX12_see 140 = .ok (.getfield 26, 3) := by decide +kernel
theorem dX12_see_143 : decode cX12_see 143 = .ok (.iload 7, 2) := by decide +kernel
theorem dX12_see_145 : decode cX12_see 145 = .ok (.iconst 4, 1) := by decide +kernel
theorem dX12_see_146 : decode cX12_see 146 = .ok (.iadd, 1) := by decide +kernel
theorem dX12_see_147 : decode cX12_see 147 = .ok (.lconst 0, 1) := by decide +kernel
theorem dX12_see_148 : decode cX12_see 148 = .ok (.lastore, 1) := by decide +kernel
theorem dX12_see_149 : decode cX12_see 149 = .ok (.aload_n 0, 1) := by decide +kernel
theorem dX12_see_150 : decode cX12_see 150 = .ok (.getfield 26, 3) := by decide +kernel
theorem dX12_see_153 : decode cX12_see 153 = .ok (.iload 7, 2) := by decide +kernel
theorem dX12_see_155 : decode cX12_see 155 = .ok (.iconst 5, 1) := by decide +kernel
theorem dX12_see_156 : decode cX12_see 156 = .ok (.iadd, 1) := by decide +kernel
theorem dX12_see_157 : decode cX12_see 157 = .ok (.lconst 0, 1) := by decide +kernel
theorem dX12_see_158 : decode cX12_see 158 = .ok (.lastore, 1) := by decide +kernel
theorem dX12_see_159 : decode cX12_see 159 = .ok (.aload_n 0, 1) := by decide +kernel
theorem dX12_see_160 : decode cX12_see 160 = .ok (.getfield 26, 3) := by decide +kernel
theorem dX12_see_163 : decode cX12_see 163 = .ok (.iload 7, 2) := by decide +kernel
theorem dX12_see_165 : decode cX12_see 165 = .ok (.bipush 6, 2) := by decide +kernel
theorem dX12_see_167 : decode cX12_see 167 = .ok (.iadd, 1) := by decide +kernel
theorem dX12_see_168 : decode cX12_see 168 = .ok (.aload_n 0, 1) := by decide +kernel
theorem dX12_see_169 : decode cX12_see 169 = .ok (.getfield 101, 3) := by decide +kernel
theorem dX12_see_172 : decode cX12_see 172 = .ok (.i2l, 1) := by decide +kernel
theorem dX12_see_173 : decode cX12_see 173 = .ok (.lastore, 1) := by decide +kernel
theorem dX12_see_174 : decode cX12_see 174 = .ok (.aload_n 0, 1) := by decide +kernel
theorem dX12_see_175 : decode cX12_see 175 = .ok (.getfield 26, 3) := by decide +kernel
theorem dX12_see_178 : decode cX12_see 178 = .ok (.bipush 8, 2) := by decide +kernel
theorem dX12_see_180 : decode cX12_see 180 = .ok (.iload 6, 2) := by decide +kernel
theorem dX12_see_182 : decode cX12_see 182 = .ok (.imul, 1) := by decide +kernel
theorem dX12_see_183 : decode cX12_see 183 = .ok (.iconst 4, 1) := by decide +kernel
theorem dX12_see_184 : decode cX12_see 184 = .ok (.iadd, 1) := by decide +kernel
theorem dX12_see_185 : decode cX12_see 185 = .ok (.dup2, 1) := by decide +kernel
theorem dX12_see_186 : decode cX12_see 186 = .ok (.laload, 1) := by decide +kernel
theorem dX12_see_187 : decode cX12_see 187 = .ok (.lconst 1, 1) := by decide +kernel
theorem dX12_see_188 : decode cX12_see 188 = .ok (.ladd, 1) := by decide +kernel
theorem dX12_see_189 : decode cX12_see 189 = .ok (.lastore, 1) := by decide +kernel
theorem dX12_see_190 : decode cX12_see 190 = .ok (.aload_n 0, 1) := by decide +kernel
theorem dX12_see_191 : decode cX12_see 191 = .ok (.getfield 26, 3) := by decide +kernel
theorem dX12_see_194 : decode cX12_see 194 = .ok (.bipush 8, 2) := by decide +kernel
theorem dX12_see_196 : decode cX12_see 196 = .ok (.iload 6, 2) := by decide +kernel
theorem dX12_see_198 : decode cX12_see 198 = .ok (.imul, 1) := by decide +kernel
theorem dX12_see_199 : decode cX12_see 199 = .ok (.iconst 5, 1) := by decide +kernel
theorem dX12_see_200 : decode cX12_see 200 = .ok (.iadd, 1) := by decide +kernel
theorem dX12_see_201 : decode cX12_see 201 = .ok (.dup2, 1) := by decide +kernel
theorem dX12_see_202 : decode cX12_see 202 = .ok (.laload, 1) := by decide +kernel
theorem dX12_see_203 : decode cX12_see 203 = .ok (.iload 5, 2) := by decide +kernel
theorem dX12_see_205 : decode cX12_see 205 = .ok (.i2l, 1) := by decide +kernel
theorem dX12_see_206 : decode cX12_see 206 = .ok (.ladd, 1) := by decide +kernel
theorem dX12_see_207 : decode cX12_see 207 = .ok (.lastore, 1) := by decide +kernel
theorem dX12_see_208 : decode cX12_see 208 = .ok (.aload_n 0, 1) := by decide +kernel
theorem dX12_see_209 : decode cX12_see 209 = .ok (.getfield 26, 3) := by decide +kernel
theorem dX12_see_212 : decode cX12_see 212 = .ok (.bipush 8, 2) := by decide +kernel
theorem dX12_see_214 : decode cX12_see 214 = .ok (.iload 6, 2) := by decide +kernel
theorem dX12_see_216 : decode cX12_see 216 = .ok (.imul, 1) := by decide +kernel
theorem dX12_see_217 : decode cX12_see 217 = .ok (.bipush 7, 2) := by decide +kernel
theorem dX12_see_219 : decode cX12_see 219 = .ok (.iadd, 1) := by decide +kernel
theorem dX12_see_220 : decode cX12_see 220 = .ok (.aload_n 0, 1) := by decide +kernel
theorem dX12_see_221 : decode cX12_see 221 = .ok (.getfield 101, 3) := by decide +kernel
theorem dX12_see_224 : decode cX12_see 224 = .ok (.i2l, 1) := by decide +kernel
theorem dX12_see_225 : decode cX12_see 225 = .ok (.lastore, 1) := by decide +kernel
theorem dX12_see_226 : decode cX12_see 226 = .ok (.iconst 1, 1) := by decide +kernel
theorem dX12_see_227 : decode cX12_see 227 = .ok (.ireturn, 1) := by decide +kernel
set_option maxHeartbeats 4000000 in
set_option maxRecDepth 100000 in
theorem r_see (G : EnvG) (l : Launch) (Φ : Hm) (sz x : Nat) (rd : (Nat → Int32) → Prop) (nw : (Nat → Int32) → Prop) (fl : Nat) (pe : Nat) (le : Nat) (nx : Nat) (il : Nat) (qu : Nat) (kn : Int32) (ec : Int32) (nu : Int32) (va : Int64) (st : Nat) (ep : Int32) (ti : Int32) (ad : Int32) (ob : Int64) (fC : Nat → Int64) (a : Int32) (b : Int32) (d : Int32) (g : Nat) (e : Int32) (hx : G.2.2.2 ≤ x) (hI : Im G x (rd, nw, fl, pe, le, nx, il, qu, kn, ec, nu, va, st, ep, ti, ad, ob) Φ) (hc0 : Φ (x + 5) = some (al_ G 96 fC)) (hC : CC fC) (hg : g ≤ 255) (hk : pe = 0 ∨ (pe ≤ 1 ∧ InC fC fl a b d (nI g))) (hnw : ∀ f9 : Nat → Int32, nw f9 → NN f9) : Ct G l yX12_see wsX12_see ({ frames := 6, cells := 0, slots := 0, locals := 133 }) 0 0 [.ref x, .int a, .int b, .int d, .int (nI g), .int e] Φ sz (fun v Φ1 sz1 => (∃ r9 : Int32, v = some (.int r9) ∧ (r9 = 0 ∨ r9 = 1)) ∧ sz1 = sz ∧ (∃ (fl1 : Nat) (pe1 : Nat), (pe1 = 0 ∨ (pe1 ≤ 1 ∧ ∀ fC1, Φ1 (x + 5) = some (al_ G 96 fC1) → InC fC1 fl1 a b d (nI g))) ∧ Im G x (rd, nw, fl1, pe1, le, nx, il, qu, kn, ec, nu, va, st, ep, ti, ad, ob + 1) Φ1) ∧ Fr x (fun j9 => j9 = 0 ∨ j9 = 5 ∨ j9 = 6 ∨ j9 = 7 ∨ j9 = 23 ∨ j9 = 24) Φ Φ1) := by
  refine Ct.of (cc := cX12_see) (maxL := 8) (ret := (some .boolean)) (by decide) rfl (Nat.le_of_ble_eq_true rfl) ?_
  intro p9 e9 s9 m9 w9 t9 k9 B
  show Z p9 l e9 _ s9 m9 _ w9 t9 k9 _ G 8 0 [(0, .ref x), (1, .int a), (2, .int b), (3, .int d), (4, .int (nI g)), (5, .int e)] [] Φ sz 0 0
  have hk1 : pe ≤ 1 := by
    rcases hk with h | h
    · omega
    · exact h.1
  refine z_aload_n B dX12_see_0 rfl 0 rfl ?_
  refine z_dup B dX12_see_1 rfl ?_
  obtain ⟨v_1, v_2, n_1, v_3, v_4, v_5, v_6, v_7, v_8, v_9, n_2, v_10, n_3, n_4, h_1, b_13, b_1, b_2, b_3, b_4, b_5, b_6, b_7, b_8, b_9, b_10, b_11, b_12⟩ := im0 hI
  replace b_1 : 1 ≤ n_1 := b_1
  replace b_2 : n_1 ≤ 1024 := b_2
  replace b_3 : fl ≤ 12 := b_3
  replace b_4 : pe ≤ 24 := b_4
  replace b_5 : le ≤ 700 := b_5
  replace b_6 : qu ≤ 12 := b_6
  replace b_7 : n_2 ≤ 8 := b_7
  replace b_8 : n_3 ≤ 24 := b_8
  replace b_9 : n_4 ≤ 24 := b_9
  replace b_10 : il ≤ 700 := b_10
  replace b_11 : nx ≤ 701 := b_11
  replace b_12 : st ≤ 701 := b_12
  have h_2 : Φ x = some (o_ 14 [.int v_1, .ref (x + 1), .ref (x + 2), .int ti, .int v_2, .int (nI n_1), .int v_3, .int ad, .ref (x + 3), .ref (x + 4), .int v_4, .long v_5, .ref (x + 5), .int (nI fl), .int v_6, .long ob, .long v_7, .long v_8, .long v_9, .ref (x + 6), .ref (x + 7), .int (nI pe), .ref (x + 8), .int (nI le), .ref (x + 9), .ref (x + 10), .int (nI qu), .ref (x + 11), .ref (x + 12), .ref (x + 13), .ref (x + 14), .ref (x + 15), .ref (x + 16), .int (nI n_2), .long v_10, .ref (x + 17), .ref (x + 18), .ref (x + 19), .ref (x + 20), .ref (x + 21), .ref (x + 22), .int (nI n_3), .ref (x + 23), .ref (x + 24), .int (nI n_4), .ref (x + 25), .int (nI il), .int (nI nx), .int ec, .int ep, .int kn, .int (nI st), .int nu, .long va]) := h_1
  refine z_get (ref := "FlowExporterModel") (C := RX12) (T := TX12) (N := 54) (ci := 14) (v := .long ob) B hu_X12_see_X12 rfl 15 (Nat.le_of_ble_eq_true rfl) hv_X12_see_117 rfl h_2 rfl dX12_see_2 ?_
  refine z_lconst (v := 1) B dX12_see_5 rfl ?_
  refine z_ladd B dX12_see_6 ?_
  refine z_put (ref := "FlowExporterModel") (C := RX12) (T := TX12) (N := 54) (ci := 14) (v := .long (ob + 1)) B hu_X12_see_X12 tyX12 tyX12_ok nmX12 rfl 15 (Nat.le_of_ble_eq_true rfl) hv_X12_see_117 rfl (Or.inl rfl) h_2 hx rfl rfl (Nat.le_of_ble_eq_true rfl) dX12_see_7 (fun Φ1 hΦ1 => ?_)
  have h_3 : Φ1 x = some (o_ 14 [.int v_1, .ref (x + 1), .ref (x + 2), .int ti, .int v_2, .int (nI n_1), .int v_3, .int ad, .ref (x + 3), .ref (x + 4), .int v_4, .long v_5, .ref (x + 5), .int (nI fl), .int v_6, .long (ob + 1), .long v_7, .long v_8, .long v_9, .ref (x + 6), .ref (x + 7), .int (nI pe), .ref (x + 8), .int (nI le), .ref (x + 9), .ref (x + 10), .int (nI qu), .ref (x + 11), .ref (x + 12), .ref (x + 13), .ref (x + 14), .ref (x + 15), .ref (x + 16), .int (nI n_2), .long v_10, .ref (x + 17), .ref (x + 18), .ref (x + 19), .ref (x + 20), .ref (x + 21), .ref (x + 22), .int (nI n_3), .ref (x + 23), .ref (x + 24), .int (nI n_4), .ref (x + 25), .int (nI il), .int (nI nx), .int ec, .int ep, .int kn, .int (nI st), .int nu, .long va]) := fset_at hΦ1
  have hI1 : Im G x (rd, nw, fl, pe, le, nx, il, qu, kn, ec, nu, va, st, ep, ti, ad, ob + 1) Φ1 := Im.put0 hI hΦ1 ⟨v_1, v_2, n_1, v_3, v_4, v_5, v_6, v_7, v_8, v_9, n_2, v_10, n_3, n_4, rfl, b_13, b_1, b_2, b_3, b_4, b_5, b_6, b_7, b_8, b_9, b_10, b_11, b_12⟩
  refine z_aload_n B dX12_see_10 rfl 0 rfl ?_
  refine z_iload_n B dX12_see_11 rfl 1 rfl ?_
  refine z_iload_n B dX12_see_12 rfl 2 rfl ?_
  refine z_iload_n B dX12_see_13 rfl 3 rfl ?_
  refine z_iload B dX12_see_14 4 rfl ?_
  refine z_iload B dX12_see_16 5 rfl ?_
  refine z_callV (As := [.int a, .int b, .int d, .int (nI g), .int e]) (rest := []) B (r_remember G l Φ1 sz x rd nw fl pe le nx il qu kn ec nu va st ep ti ad (ob + 1) a b d (nI g) e hx hI1 hnw) (cwV 5 B.1.2.2.2.2 gX12_see_X12_remember rfl rfl rfl (by decide +kernel) ⟨Nat.le_of_ble_eq_true rfl, Nat.le_of_ble_eq_true rfl⟩) h_3 rfl rfl rfl rfl (Nat.le_of_ble_eq_true rfl) dX12_see_18 ⟨Nat.le_of_ble_eq_true rfl, Nat.le_of_ble_eq_true rfl⟩ (fun r_1 Φ2 sz1 st1 hp1 hs1 => ?_)
  obtain ⟨rfl, hq1, hI2, hF1⟩ := hp1
  subst sz1
  replace hs1 : st1 = [] := hs1
  subst st1
  replace hI2 : Im G x (rd, nw, fl, pe, le, nx, il, qu, kn, ec, nu, va, st, ep, ti, ad, ob + 1) Φ2 := hI2
  refine z_aload_n B dX12_see_21 rfl 0 rfl ?_
  obtain ⟨v_11, v_12, n_5, v_13, v_14, v_15, v_16, v_17, v_18, v_19, n_6, v_20, n_7, n_8, h_4, b_26, b_14, b_15, b_16, b_17, b_18, b_19, b_20, b_21, b_22, b_23, b_24, b_25⟩ := im0 hI2
  replace b_14 : 1 ≤ n_5 := b_14
  replace b_15 : n_5 ≤ 1024 := b_15
  replace b_16 : fl ≤ 12 := b_16
  replace b_17 : pe ≤ 24 := b_17
  replace b_18 : le ≤ 700 := b_18
  replace b_19 : qu ≤ 12 := b_19
  replace b_20 : n_6 ≤ 8 := b_20
  replace b_21 : n_7 ≤ 24 := b_21
  replace b_22 : n_8 ≤ 24 := b_22
  replace b_23 : il ≤ 700 := b_23
  replace b_24 : nx ≤ 701 := b_24
  replace b_25 : st ≤ 701 := b_25
  have h_5 : Φ2 x = some (o_ 14 [.int v_11, .ref (x + 1), .ref (x + 2), .int ti, .int v_12, .int (nI n_5), .int v_13, .int ad, .ref (x + 3), .ref (x + 4), .int v_14, .long v_15, .ref (x + 5), .int (nI fl), .int v_16, .long (ob + 1), .long v_17, .long v_18, .long v_19, .ref (x + 6), .ref (x + 7), .int (nI pe), .ref (x + 8), .int (nI le), .ref (x + 9), .ref (x + 10), .int (nI qu), .ref (x + 11), .ref (x + 12), .ref (x + 13), .ref (x + 14), .ref (x + 15), .ref (x + 16), .int (nI n_6), .long v_20, .ref (x + 17), .ref (x + 18), .ref (x + 19), .ref (x + 20), .ref (x + 21), .ref (x + 22), .int (nI n_7), .ref (x + 23), .ref (x + 24), .int (nI n_8), .ref (x + 25), .int (nI il), .int (nI nx), .int ec, .int ep, .int kn, .int (nI st), .int nu, .long va]) := h_4
  refine z_get (ref := "FlowExporterModel") (C := RX12) (T := TX12) (N := 54) (ci := 14) (v := .int (nI n_5)) B hu_X12_see_X12 rfl 5 (Nat.le_of_ble_eq_true rfl) hv_X12_see_107 rfl h_5 rfl dX12_see_22 ?_
  refine z_iconst (v := 1) B dX12_see_25 rfl ?_
  refine z_icmp_le (tgt := 42) B dX12_see_26 rfl (fun c_1 => ?_) (fun c_1 => ?_)
  · have e_1 : n_5 ≤ 1 := (nI_leI (a := n_5) (b := 1) (by omega) (by omega)).mp c_1
    refine z_aload_n B dX12_see_42 rfl 0 rfl ?_
    refine z_dup B dX12_see_43 rfl ?_
    refine z_get (ref := "FlowExporterModel") (C := RX12) (T := TX12) (N := 54) (ci := 14) (v := .long v_17) B hu_X12_see_X12 rfl 16 (Nat.le_of_ble_eq_true rfl) hv_X12_see_121 rfl h_5 rfl dX12_see_44 ?_
    refine z_lconst (v := 1) B dX12_see_47 rfl ?_
    refine z_ladd B dX12_see_48 ?_
    refine z_fl (fun v_21 => ?_)
    refine z_put (ref := "FlowExporterModel") (C := RX12) (T := TX12) (N := 54) (ci := 14) (v := .long v_21) B hu_X12_see_X12 tyX12 tyX12_ok nmX12 rfl 16 (Nat.le_of_ble_eq_true rfl) hv_X12_see_121 rfl (Or.inl rfl) h_5 hx rfl rfl (Nat.le_of_ble_eq_true rfl) dX12_see_49 (fun Φ3 hΦ2 => ?_)
    have h_6 : Φ3 x = some (o_ 14 [.int v_11, .ref (x + 1), .ref (x + 2), .int ti, .int v_12, .int (nI n_5), .int v_13, .int ad, .ref (x + 3), .ref (x + 4), .int v_14, .long v_15, .ref (x + 5), .int (nI fl), .int v_16, .long (ob + 1), .long v_21, .long v_18, .long v_19, .ref (x + 6), .ref (x + 7), .int (nI pe), .ref (x + 8), .int (nI le), .ref (x + 9), .ref (x + 10), .int (nI qu), .ref (x + 11), .ref (x + 12), .ref (x + 13), .ref (x + 14), .ref (x + 15), .ref (x + 16), .int (nI n_6), .long v_20, .ref (x + 17), .ref (x + 18), .ref (x + 19), .ref (x + 20), .ref (x + 21), .ref (x + 22), .int (nI n_7), .ref (x + 23), .ref (x + 24), .int (nI n_8), .ref (x + 25), .int (nI il), .int (nI nx), .int ec, .int ep, .int kn, .int (nI st), .int nu, .long va]) := fset_at hΦ2
    have hI3 : Im G x (rd, nw, fl, pe, le, nx, il, qu, kn, ec, nu, va, st, ep, ti, ad, ob + 1) Φ3 := Im.put0 hI2 hΦ2 ⟨v_11, v_12, n_5, v_13, v_14, v_15, v_16, v_21, v_18, v_19, n_6, v_20, n_7, n_8, rfl, b_26, b_14, b_15, b_16, b_17, b_18, b_19, b_20, b_21, b_22, b_23, b_24, b_25⟩
    refine z_aload_n B dX12_see_52 rfl 0 rfl ?_
    refine z_iload_n B dX12_see_53 rfl 1 rfl ?_
    refine z_iload_n B dX12_see_54 rfl 2 rfl ?_
    refine z_iload_n B dX12_see_55 rfl 3 rfl ?_
    refine z_iload B dX12_see_56 4 rfl ?_
    have h_7 : Φ3 (x + 5) = some (al_ G 96 fC) := ((fset_fr hΦ2 (ne_off (x := x) (i := 5) (j := 0) rfl)).trans ((hF1 (x + 5) fq_954).trans ((fset_fr hΦ1 (ne_off (x := x) (i := 5) (j := 0) rfl)).trans hc0)))
    refine z_callV (As := [.int a, .int b, .int d, .int (nI g)]) (rest := []) B (r_flowOf G l Φ3 sz x rd nw fl pe le nx il qu kn ec nu va st ep ti ad (ob + 1) fC a b d (nI g) hx hI3 h_7 hnw) (cwV 4 B.1.2.2.2.2 gX12_see_X12_flowOf rfl rfl rfl (by decide +kernel) ⟨Nat.le_of_ble_eq_true rfl, Nat.le_of_ble_eq_true rfl⟩) h_6 rfl rfl rfl rfl (Nat.le_of_ble_eq_true rfl) dX12_see_58 ⟨Nat.le_of_ble_eq_true rfl, Nat.le_of_ble_eq_true rfl⟩ (fun r_2 Φ4 sz2 st2 hp2 hs2 => ?_)
    obtain ⟨ha1, hq2, hI4, hF2⟩ := hp2
    subst sz2
    replace hI4 : Im G x (rd, nw, fl, pe, le, nx, il, qu, kn, ec, nu, va, st, ep, ti, ad, ob + 1) Φ4 := hI4
    rcases ha1 with ⟨rfl, q_1⟩ | ⟨n_9, b_27, q_1, rfl⟩
    · replace hs2 : st2 = [.int (-1)] := hs2
      subst st2
      refine z_istore (lv' := [(6, .int (-1)), (0, .ref x), (1, .int a), (2, .int b), (3, .int d), (4, .int (nI g)), (5, .int e)]) B dX12_see_61 (Nat.le_of_ble_eq_true rfl) rfl ?_
      refine z_iload B dX12_see_63 0 rfl ?_
      refine z_iconst (v := (-1)) B dX12_see_65 rfl ?_
      refine z_icmp_ne (tgt := 174) B dX12_see_66 rfl (fun h9 => absurd (by decide) h9) (fun c_2 => ?_)
      have hk0 : pe = 0 := hk.resolve_right (fun h9 => q_1 h9.2)
      refine z_aload_n B dX12_see_69 rfl 1 rfl ?_
      have h_8 : Φ4 x = some (o_ 14 [.int v_11, .ref (x + 1), .ref (x + 2), .int ti, .int v_12, .int (nI n_5), .int v_13, .int ad, .ref (x + 3), .ref (x + 4), .int v_14, .long v_15, .ref (x + 5), .int (nI fl), .int v_16, .long (ob + 1), .long v_21, .long v_18, .long v_19, .ref (x + 6), .ref (x + 7), .int (nI pe), .ref (x + 8), .int (nI le), .ref (x + 9), .ref (x + 10), .int (nI qu), .ref (x + 11), .ref (x + 12), .ref (x + 13), .ref (x + 14), .ref (x + 15), .ref (x + 16), .int (nI n_6), .long v_20, .ref (x + 17), .ref (x + 18), .ref (x + 19), .ref (x + 20), .ref (x + 21), .ref (x + 22), .int (nI n_7), .ref (x + 23), .ref (x + 24), .int (nI n_8), .ref (x + 25), .int (nI il), .int (nI nx), .int ec, .int ep, .int kn, .int (nI st), .int nu, .long va]) := ((hF2 x (fun j9 h8 h7 => (show False from h7).elim)).trans h_6)
      refine z_callV (As := []) (rest := []) B (r_makeRoom G l Φ4 sz x rd nw fl pe le nx il qu kn ec nu va st ep ti ad (ob + 1)  hx hI4 (show pe < 24 by omega) hnw) (cwV 0 B.1.2.2.2.2 gX12_see_X12_makeRoom rfl rfl rfl (by decide +kernel) ⟨Nat.le_of_ble_eq_true rfl, Nat.le_of_ble_eq_true rfl⟩) h_8 rfl rfl rfl rfl (Nat.le_of_ble_eq_true rfl) dX12_see_70 ⟨Nat.le_of_ble_eq_true rfl, Nat.le_of_ble_eq_true rfl⟩ (fun r_3 Φ5 sz3 st3 hp3 hs3 => ?_)
      obtain ⟨rfl, hq3, ⟨n_10, n_11, b_28, b_29, hI5⟩, hF3⟩ := hp3
      subst sz3
      replace hs3 : st3 = [] := hs3
      subst st3
      replace hI5 : Im G x (rd, nw, n_10, n_11, le, nx, il, qu, kn, ec, nu, va, st, ep, ti, ad, ob + 1) Φ5 := hI5
      replace b_28 : n_10 ≤ 11 := b_28
      replace b_29 : n_11 ≤ pe + 1 := b_29
      refine z_aload_n B dX12_see_73 rfl 1 rfl ?_
      obtain ⟨v_22, v_23, n_12, v_24, v_25, v_26, v_27, v_28, v_29, v_30, n_13, v_31, n_14, n_15, h_9, b_42, b_30, b_31, b_32, b_33, b_34, b_35, b_36, b_37, b_38, b_39, b_40, b_41⟩ := im0 hI5
      replace b_30 : 1 ≤ n_12 := b_30
      replace b_31 : n_12 ≤ 1024 := b_31
      replace b_32 : n_10 ≤ 12 := b_32
      replace b_33 : n_11 ≤ 24 := b_33
      replace b_34 : le ≤ 700 := b_34
      replace b_35 : qu ≤ 12 := b_35
      replace b_36 : n_13 ≤ 8 := b_36
      replace b_37 : n_14 ≤ 24 := b_37
      replace b_38 : n_15 ≤ 24 := b_38
      replace b_39 : il ≤ 700 := b_39
      replace b_40 : nx ≤ 701 := b_40
      replace b_41 : st ≤ 701 := b_41
      have h_10 : Φ5 x = some (o_ 14 [.int v_22, .ref (x + 1), .ref (x + 2), .int ti, .int v_23, .int (nI n_12), .int v_24, .int ad, .ref (x + 3), .ref (x + 4), .int v_25, .long v_26, .ref (x + 5), .int (nI n_10), .int v_27, .long (ob + 1), .long v_28, .long v_29, .long v_30, .ref (x + 6), .ref (x + 7), .int (nI n_11), .ref (x + 8), .int (nI le), .ref (x + 9), .ref (x + 10), .int (nI qu), .ref (x + 11), .ref (x + 12), .ref (x + 13), .ref (x + 14), .ref (x + 15), .ref (x + 16), .int (nI n_13), .long v_31, .ref (x + 17), .ref (x + 18), .ref (x + 19), .ref (x + 20), .ref (x + 21), .ref (x + 22), .int (nI n_14), .ref (x + 23), .ref (x + 24), .int (nI n_15), .ref (x + 25), .int (nI il), .int (nI nx), .int ec, .int ep, .int kn, .int (nI st), .int nu, .long va]) := h_9
      refine z_get (ref := "FlowExporterModel") (C := RX12) (T := TX12) (N := 54) (ci := 14) (v := .int (nI n_10)) B hu_X12_see_X12 rfl 13 (Nat.le_of_ble_eq_true rfl) hv_X12_see_133 rfl h_10 rfl dX12_see_74 ?_
      refine z_istore (lv' := [(6, .int (nI n_10)), (0, .ref x), (1, .int a), (2, .int b), (3, .int d), (4, .int (nI g)), (5, .int e)]) B dX12_see_77 (Nat.le_of_ble_eq_true rfl) rfl ?_
      refine z_aload_n B dX12_see_79 rfl 1 rfl ?_
      refine z_dup B dX12_see_80 rfl ?_
      refine z_get (ref := "FlowExporterModel") (C := RX12) (T := TX12) (N := 54) (ci := 14) (v := .int (nI n_10)) B hu_X12_see_X12 rfl 13 (Nat.le_of_ble_eq_true rfl) hv_X12_see_133 rfl h_10 rfl dX12_see_81 ?_
      refine z_iconst (v := 1) B dX12_see_84 rfl ?_
      refine z_iadd B dX12_see_85 ?_
      refine z_top (st1 := [.int (nI (n_10 + 1)), .ref x]) (congrArg (fun w9 : Int32 => ([.int w9, .ref x] : List Value)) (nI_add n_10 1)) ?_
      refine z_put (ref := "FlowExporterModel") (C := RX12) (T := TX12) (N := 54) (ci := 14) (v := .int (nI (n_10 + 1))) B hu_X12_see_X12 tyX12 tyX12_ok nmX12 rfl 13 (Nat.le_of_ble_eq_true rfl) hv_X12_see_133 rfl (Or.inl rfl) h_10 hx rfl rfl (Nat.le_of_ble_eq_true rfl) dX12_see_86 (fun Φ6 hΦ3 => ?_)
      have h_11 : Φ6 x = some (o_ 14 [.int v_22, .ref (x + 1), .ref (x + 2), .int ti, .int v_23, .int (nI n_12), .int v_24, .int ad, .ref (x + 3), .ref (x + 4), .int v_25, .long v_26, .ref (x + 5), .int (nI (n_10 + 1)), .int v_27, .long (ob + 1), .long v_28, .long v_29, .long v_30, .ref (x + 6), .ref (x + 7), .int (nI n_11), .ref (x + 8), .int (nI le), .ref (x + 9), .ref (x + 10), .int (nI qu), .ref (x + 11), .ref (x + 12), .ref (x + 13), .ref (x + 14), .ref (x + 15), .ref (x + 16), .int (nI n_13), .long v_31, .ref (x + 17), .ref (x + 18), .ref (x + 19), .ref (x + 20), .ref (x + 21), .ref (x + 22), .int (nI n_14), .ref (x + 23), .ref (x + 24), .int (nI n_15), .ref (x + 25), .int (nI il), .int (nI nx), .int ec, .int ep, .int kn, .int (nI st), .int nu, .long va]) := fset_at hΦ3
      have hI6 : Im G x (rd, nw, n_10 + 1, n_11, le, nx, il, qu, kn, ec, nu, va, st, ep, ti, ad, ob + 1) Φ6 := Im.put0 hI5 hΦ3 ⟨v_22, v_23, n_12, v_24, v_25, v_26, v_27, v_28, v_29, v_30, n_13, v_31, n_14, n_15, rfl, b_42, b_30, b_31, (show (n_10 + 1) ≤ 12 by omega), b_33, b_34, b_35, b_36, b_37, b_38, b_39, b_40, b_41⟩
      refine z_bipush (v := 8) B dX12_see_89 rfl ?_
      refine z_iload B dX12_see_91 0 rfl ?_
      refine z_imul B dX12_see_93 ?_
      refine z_top (st1 := [.int (nI (8 * n_10))]) (congrArg (fun w9 : Int32 => ([.int w9] : List Value)) (nI_mul 8 n_10)) ?_
      refine z_istore (lv' := [(7, .int (nI (8 * n_10))), (6, .int (nI n_10)), (0, .ref x), (1, .int a), (2, .int b), (3, .int d), (4, .int (nI g)), (5, .int e)]) B dX12_see_94 (Nat.le_of_ble_eq_true rfl) rfl ?_
      refine z_aload_n B dX12_see_96 rfl 2 rfl ?_
      refine z_get (ref := "FlowExporterModel") (C := RX12) (T := TX12) (N := 54) (ci := 14) (v := .ref (x + 5)) B hu_X12_see_X12 rfl 12 (Nat.le_of_ble_eq_true rfl) hv_X12_see_26 rfl h_11 rfl dX12_see_97 ?_
      refine z_iload B dX12_see_100 0 rfl ?_
      refine z_iload_n B dX12_see_102 rfl 3 rfl ?_
      refine z_i2l (v := a.toInt64) B dX12_see_103 rfl ?_
      obtain ⟨f_1, h_12, r_4⟩ := imk (k := 5) hI6
      replace r_4 : CC f_1 := r_4
      have h_13 : Φ6 (x + 5) = some (al_ G 96 f_1) := h_12
      refine z_last B h_13 (Nat.le_trans hx (Nat.le_add_right x 5)) (vp_in_nI (by omega) (by omega)) dX12_see_104 (fun Φ7 hΦ4 => ?_)
      have h_14 : Φ7 (x + 5) = some (al_ G 96 (vp_updL f_1 (nI (8 * n_10)).toNatClampNeg a.toInt64)) := fset_at hΦ4
      have hI7 : Im G x (rd, nw, n_10 + 1, n_11, le, nx, il, qu, kn, ec, nu, va, st, ep, ti, ad, ob + 1) Φ7 := Im.put (k := 5) hI6 hΦ4 ⟨_, rfl, CC.up r_4 (by rw [nI_clamp (by omega)]; omega)⟩
      have r_5 : CC (vp_updL f_1 (nI (8 * n_10)).toNatClampNeg a.toInt64) := CC.up r_4 (by rw [nI_clamp (by omega)]; omega)
      refine z_aload_n B dX12_see_105 rfl 2 rfl ?_
      have h_15 : Φ7 x = some (o_ 14 [.int v_22, .ref (x + 1), .ref (x + 2), .int ti, .int v_23, .int (nI n_12), .int v_24, .int ad, .ref (x + 3), .ref (x + 4), .int v_25, .long v_26, .ref (x + 5), .int (nI (n_10 + 1)), .int v_27, .long (ob + 1), .long v_28, .long v_29, .long v_30, .ref (x + 6), .ref (x + 7), .int (nI n_11), .ref (x + 8), .int (nI le), .ref (x + 9), .ref (x + 10), .int (nI qu), .ref (x + 11), .ref (x + 12), .ref (x + 13), .ref (x + 14), .ref (x + 15), .ref (x + 16), .int (nI n_13), .long v_31, .ref (x + 17), .ref (x + 18), .ref (x + 19), .ref (x + 20), .ref (x + 21), .ref (x + 22), .int (nI n_14), .ref (x + 23), .ref (x + 24), .int (nI n_15), .ref (x + 25), .int (nI il), .int (nI nx), .int ec, .int ep, .int kn, .int (nI st), .int nu, .long va]) := ((fset_fr hΦ4 (ne_off (x := x) (i := 0) (j := 5) rfl)).trans h_11)
      refine z_get (ref := "FlowExporterModel") (C := RX12) (T := TX12) (N := 54) (ci := 14) (v := .ref (x + 5)) B hu_X12_see_X12 rfl 12 (Nat.le_of_ble_eq_true rfl) hv_X12_see_26 rfl h_15 rfl dX12_see_106 ?_
      refine z_iload B dX12_see_109 0 rfl ?_
      refine z_iconst (v := 1) B dX12_see_111 rfl ?_
      refine z_iadd B dX12_see_112 ?_
      refine z_top (st1 := [.int (nI (8 * n_10 + 1)), .ref (x + 5)]) (congrArg (fun w9 : Int32 => ([.int w9, .ref (x + 5)] : List Value)) (nI_add (8 * n_10) 1)) ?_
      refine z_iload_n B dX12_see_113 rfl 4 rfl ?_
      refine z_i2l (v := b.toInt64) B dX12_see_114 rfl ?_
      refine z_last B h_14 (Nat.le_trans hx (Nat.le_add_right x 5)) (vp_in_nI (by omega) (by omega)) dX12_see_115 (fun Φ8 hΦ5 => ?_)
      have h_16 : Φ8 (x + 5) = some (al_ G 96 (vp_updL (vp_updL f_1 (nI (8 * n_10)).toNatClampNeg a.toInt64) (nI (8 * n_10 + 1)).toNatClampNeg b.toInt64)) := fset_at hΦ5
      have hI8 : Im G x (rd, nw, n_10 + 1, n_11, le, nx, il, qu, kn, ec, nu, va, st, ep, ti, ad, ob + 1) Φ8 := Im.put (k := 5) hI7 hΦ5 ⟨_, rfl, CC.up r_5 (by rw [nI_clamp (by omega)]; omega)⟩
      have r_6 : CC (vp_updL (vp_updL f_1 (nI (8 * n_10)).toNatClampNeg a.toInt64) (nI (8 * n_10 + 1)).toNatClampNeg b.toInt64) := CC.up r_5 (by rw [nI_clamp (by omega)]; omega)
      refine z_aload_n B dX12_see_116 rfl 2 rfl ?_
      have h_17 : Φ8 x = some (o_ 14 [.int v_22, .ref (x + 1), .ref (x + 2), .int ti, .int v_23, .int (nI n_12), .int v_24, .int ad, .ref (x + 3), .ref (x + 4), .int v_25, .long v_26, .ref (x + 5), .int (nI (n_10 + 1)), .int v_27, .long (ob + 1), .long v_28, .long v_29, .long v_30, .ref (x + 6), .ref (x + 7), .int (nI n_11), .ref (x + 8), .int (nI le), .ref (x + 9), .ref (x + 10), .int (nI qu), .ref (x + 11), .ref (x + 12), .ref (x + 13), .ref (x + 14), .ref (x + 15), .ref (x + 16), .int (nI n_13), .long v_31, .ref (x + 17), .ref (x + 18), .ref (x + 19), .ref (x + 20), .ref (x + 21), .ref (x + 22), .int (nI n_14), .ref (x + 23), .ref (x + 24), .int (nI n_15), .ref (x + 25), .int (nI il), .int (nI nx), .int ec, .int ep, .int kn, .int (nI st), .int nu, .long va]) := ((fset_fr hΦ5 (ne_off (x := x) (i := 0) (j := 5) rfl)).trans h_15)
      refine z_get (ref := "FlowExporterModel") (C := RX12) (T := TX12) (N := 54) (ci := 14) (v := .ref (x + 5)) B hu_X12_see_X12 rfl 12 (Nat.le_of_ble_eq_true rfl) hv_X12_see_26 rfl h_17 rfl dX12_see_117 ?_
      refine z_iload B dX12_see_120 0 rfl ?_
      refine z_iconst (v := 2) B dX12_see_122 rfl ?_
      refine z_iadd B dX12_see_123 ?_
      refine z_top (st1 := [.int (nI (8 * n_10 + 2)), .ref (x + 5)]) (congrArg (fun w9 : Int32 => ([.int w9, .ref (x + 5)] : List Value)) (nI_add (8 * n_10) 2)) ?_
      refine z_iload_n B dX12_see_124 rfl 5 rfl ?_
      refine z_i2l (v := d.toInt64) B dX12_see_125 rfl ?_
      refine z_last B h_16 (Nat.le_trans hx (Nat.le_add_right x 5)) (vp_in_nI (by omega) (by omega)) dX12_see_126 (fun Φ9 hΦ6 => ?_)
      have h_18 : Φ9 (x + 5) = some (al_ G 96 (vp_updL (vp_updL (vp_updL f_1 (nI (8 * n_10)).toNatClampNeg a.toInt64) (nI (8 * n_10 + 1)).toNatClampNeg b.toInt64) (nI (8 * n_10 + 2)).toNatClampNeg d.toInt64)) := fset_at hΦ6
      have hI9 : Im G x (rd, nw, n_10 + 1, n_11, le, nx, il, qu, kn, ec, nu, va, st, ep, ti, ad, ob + 1) Φ9 := Im.put (k := 5) hI8 hΦ6 ⟨_, rfl, CC.up r_6 (by rw [nI_clamp (by omega)]; omega)⟩
      have r_7 : CC (vp_updL (vp_updL (vp_updL f_1 (nI (8 * n_10)).toNatClampNeg a.toInt64) (nI (8 * n_10 + 1)).toNatClampNeg b.toInt64) (nI (8 * n_10 + 2)).toNatClampNeg d.toInt64) := CC.up r_6 (by rw [nI_clamp (by omega)]; omega)
      refine z_aload_n B dX12_see_127 rfl 2 rfl ?_
      have h_19 : Φ9 x = some (o_ 14 [.int v_22, .ref (x + 1), .ref (x + 2), .int ti, .int v_23, .int (nI n_12), .int v_24, .int ad, .ref (x + 3), .ref (x + 4), .int v_25, .long v_26, .ref (x + 5), .int (nI (n_10 + 1)), .int v_27, .long (ob + 1), .long v_28, .long v_29, .long v_30, .ref (x + 6), .ref (x + 7), .int (nI n_11), .ref (x + 8), .int (nI le), .ref (x + 9), .ref (x + 10), .int (nI qu), .ref (x + 11), .ref (x + 12), .ref (x + 13), .ref (x + 14), .ref (x + 15), .ref (x + 16), .int (nI n_13), .long v_31, .ref (x + 17), .ref (x + 18), .ref (x + 19), .ref (x + 20), .ref (x + 21), .ref (x + 22), .int (nI n_14), .ref (x + 23), .ref (x + 24), .int (nI n_15), .ref (x + 25), .int (nI il), .int (nI nx), .int ec, .int ep, .int kn, .int (nI st), .int nu, .long va]) := ((fset_fr hΦ6 (ne_off (x := x) (i := 0) (j := 5) rfl)).trans h_17)
      refine z_get (ref := "FlowExporterModel") (C := RX12) (T := TX12) (N := 54) (ci := 14) (v := .ref (x + 5)) B hu_X12_see_X12 rfl 12 (Nat.le_of_ble_eq_true rfl) hv_X12_see_26 rfl h_19 rfl dX12_see_128 ?_
      refine z_iload B dX12_see_131 0 rfl ?_
      refine z_iconst (v := 3) B dX12_see_133 rfl ?_
      refine z_iadd B dX12_see_134 ?_
      refine z_top (st1 := [.int (nI (8 * n_10 + 3)), .ref (x + 5)]) (congrArg (fun w9 : Int32 => ([.int w9, .ref (x + 5)] : List Value)) (nI_add (8 * n_10) 3)) ?_
      refine z_iload B dX12_see_135 6 rfl ?_
      refine z_i2l (v := (nI g).toInt64) B dX12_see_137 rfl ?_
      refine z_last B h_18 (Nat.le_trans hx (Nat.le_add_right x 5)) (vp_in_nI (by omega) (by omega)) dX12_see_138 (fun Φ10 hΦ7 => ?_)
      have h_20 : Φ10 (x + 5) = some (al_ G 96 (vp_updL (vp_updL (vp_updL (vp_updL f_1 (nI (8 * n_10)).toNatClampNeg a.toInt64) (nI (8 * n_10 + 1)).toNatClampNeg b.toInt64) (nI (8 * n_10 + 2)).toNatClampNeg d.toInt64) (nI (8 * n_10 + 3)).toNatClampNeg ((nI g).toInt64))) := fset_at hΦ7
      have hI10 : Im G x (rd, nw, n_10 + 1, n_11, le, nx, il, qu, kn, ec, nu, va, st, ep, ti, ad, ob + 1) Φ10 := Im.put (k := 5) hI9 hΦ7 ⟨_, rfl, CC.up3 (n := g) r_7 (by omega) (toL (by omega))⟩
      have r_8 : CC (vp_updL (vp_updL (vp_updL (vp_updL f_1 (nI (8 * n_10)).toNatClampNeg a.toInt64) (nI (8 * n_10 + 1)).toNatClampNeg b.toInt64) (nI (8 * n_10 + 2)).toNatClampNeg d.toInt64) (nI (8 * n_10 + 3)).toNatClampNeg ((nI g).toInt64)) := CC.up3 (n := g) r_7 (by omega) (toL (by omega))
      refine z_aload_n B dX12_see_139 rfl 2 rfl ?_
      have h_21 : Φ10 x = some (o_ 14 [.int v_22, .ref (x + 1), .ref (x + 2), .int ti, .int v_23, .int (nI n_12), .int v_24, .int ad, .ref (x + 3), .ref (x + 4), .int v_25, .long v_26, .ref (x + 5), .int (nI (n_10 + 1)), .int v_27, .long (ob + 1), .long v_28, .long v_29, .long v_30, .ref (x + 6), .ref (x + 7), .int (nI n_11), .ref (x + 8), .int (nI le), .ref (x + 9), .ref (x + 10), .int (nI qu), .ref (x + 11), .ref (x + 12), .ref (x + 13), .ref (x + 14), .ref (x + 15), .ref (x + 16), .int (nI n_13), .long v_31, .ref (x + 17), .ref (x + 18), .ref (x + 19), .ref (x + 20), .ref (x + 21), .ref (x + 22), .int (nI n_14), .ref (x + 23), .ref (x + 24), .int (nI n_15), .ref (x + 25), .int (nI il), .int (nI nx), .int ec, .int ep, .int kn, .int (nI st), .int nu, .long va]) := ((fset_fr hΦ7 (ne_off (x := x) (i := 0) (j := 5) rfl)).trans h_19)
      refine z_get (ref := "FlowExporterModel") (C := RX12) (T := TX12) (N := 54) (ci := 14) (v := .ref (x + 5)) B hu_X12_see_X12 rfl 12 (Nat.le_of_ble_eq_true rfl) hv_X12_see_26 rfl h_21 rfl dX12_see_140 ?_
      refine z_iload B dX12_see_143 0 rfl ?_
      refine z_iconst (v := 4) B dX12_see_145 rfl ?_
      refine z_iadd B dX12_see_146 ?_
      refine z_top (st1 := [.int (nI (8 * n_10 + 4)), .ref (x + 5)]) (congrArg (fun w9 : Int32 => ([.int w9, .ref (x + 5)] : List Value)) (nI_add (8 * n_10) 4)) ?_
      refine z_lconst (v := 0) B dX12_see_147 rfl ?_
      refine z_last B h_20 (Nat.le_trans hx (Nat.le_add_right x 5)) (vp_in_nI (by omega) (by omega)) dX12_see_148 (fun Φ11 hΦ8 => ?_)
      have h_22 : Φ11 (x + 5) = some (al_ G 96 (vp_updL (vp_updL (vp_updL (vp_updL (vp_updL f_1 (nI (8 * n_10)).toNatClampNeg a.toInt64) (nI (8 * n_10 + 1)).toNatClampNeg b.toInt64) (nI (8 * n_10 + 2)).toNatClampNeg d.toInt64) (nI (8 * n_10 + 3)).toNatClampNeg ((nI g).toInt64)) (nI (8 * n_10 + 4)).toNatClampNeg 0)) := fset_at hΦ8
      have hI11 : Im G x (rd, nw, n_10 + 1, n_11, le, nx, il, qu, kn, ec, nu, va, st, ep, ti, ad, ob + 1) Φ11 := Im.put (k := 5) hI10 hΦ8 ⟨_, rfl, CC.up r_8 (by rw [nI_clamp (by omega)]; omega)⟩
      have r_9 : CC (vp_updL (vp_updL (vp_updL (vp_updL (vp_updL f_1 (nI (8 * n_10)).toNatClampNeg a.toInt64) (nI (8 * n_10 + 1)).toNatClampNeg b.toInt64) (nI (8 * n_10 + 2)).toNatClampNeg d.toInt64) (nI (8 * n_10 + 3)).toNatClampNeg ((nI g).toInt64)) (nI (8 * n_10 + 4)).toNatClampNeg 0) := CC.up r_8 (by rw [nI_clamp (by omega)]; omega)
      refine z_aload_n B dX12_see_149 rfl 2 rfl ?_
      have h_23 : Φ11 x = some (o_ 14 [.int v_22, .ref (x + 1), .ref (x + 2), .int ti, .int v_23, .int (nI n_12), .int v_24, .int ad, .ref (x + 3), .ref (x + 4), .int v_25, .long v_26, .ref (x + 5), .int (nI (n_10 + 1)), .int v_27, .long (ob + 1), .long v_28, .long v_29, .long v_30, .ref (x + 6), .ref (x + 7), .int (nI n_11), .ref (x + 8), .int (nI le), .ref (x + 9), .ref (x + 10), .int (nI qu), .ref (x + 11), .ref (x + 12), .ref (x + 13), .ref (x + 14), .ref (x + 15), .ref (x + 16), .int (nI n_13), .long v_31, .ref (x + 17), .ref (x + 18), .ref (x + 19), .ref (x + 20), .ref (x + 21), .ref (x + 22), .int (nI n_14), .ref (x + 23), .ref (x + 24), .int (nI n_15), .ref (x + 25), .int (nI il), .int (nI nx), .int ec, .int ep, .int kn, .int (nI st), .int nu, .long va]) := ((fset_fr hΦ8 (ne_off (x := x) (i := 0) (j := 5) rfl)).trans h_21)
      refine z_get (ref := "FlowExporterModel") (C := RX12) (T := TX12) (N := 54) (ci := 14) (v := .ref (x + 5)) B hu_X12_see_X12 rfl 12 (Nat.le_of_ble_eq_true rfl) hv_X12_see_26 rfl h_23 rfl dX12_see_150 ?_
      refine z_iload B dX12_see_153 0 rfl ?_
      refine z_iconst (v := 5) B dX12_see_155 rfl ?_
      refine z_iadd B dX12_see_156 ?_
      refine z_top (st1 := [.int (nI (8 * n_10 + 5)), .ref (x + 5)]) (congrArg (fun w9 : Int32 => ([.int w9, .ref (x + 5)] : List Value)) (nI_add (8 * n_10) 5)) ?_
      refine z_lconst (v := 0) B dX12_see_157 rfl ?_
      refine z_last B h_22 (Nat.le_trans hx (Nat.le_add_right x 5)) (vp_in_nI (by omega) (by omega)) dX12_see_158 (fun Φ12 hΦ9 => ?_)
      have h_24 : Φ12 (x + 5) = some (al_ G 96 (vp_updL (vp_updL (vp_updL (vp_updL (vp_updL (vp_updL f_1 (nI (8 * n_10)).toNatClampNeg a.toInt64) (nI (8 * n_10 + 1)).toNatClampNeg b.toInt64) (nI (8 * n_10 + 2)).toNatClampNeg d.toInt64) (nI (8 * n_10 + 3)).toNatClampNeg ((nI g).toInt64)) (nI (8 * n_10 + 4)).toNatClampNeg 0) (nI (8 * n_10 + 5)).toNatClampNeg 0)) := fset_at hΦ9
      have hI12 : Im G x (rd, nw, n_10 + 1, n_11, le, nx, il, qu, kn, ec, nu, va, st, ep, ti, ad, ob + 1) Φ12 := Im.put (k := 5) hI11 hΦ9 ⟨_, rfl, CC.up r_9 (by rw [nI_clamp (by omega)]; omega)⟩
      have r_10 : CC (vp_updL (vp_updL (vp_updL (vp_updL (vp_updL (vp_updL f_1 (nI (8 * n_10)).toNatClampNeg a.toInt64) (nI (8 * n_10 + 1)).toNatClampNeg b.toInt64) (nI (8 * n_10 + 2)).toNatClampNeg d.toInt64) (nI (8 * n_10 + 3)).toNatClampNeg ((nI g).toInt64)) (nI (8 * n_10 + 4)).toNatClampNeg 0) (nI (8 * n_10 + 5)).toNatClampNeg 0) := CC.up r_9 (by rw [nI_clamp (by omega)]; omega)
      refine z_aload_n B dX12_see_159 rfl 2 rfl ?_
      have h_25 : Φ12 x = some (o_ 14 [.int v_22, .ref (x + 1), .ref (x + 2), .int ti, .int v_23, .int (nI n_12), .int v_24, .int ad, .ref (x + 3), .ref (x + 4), .int v_25, .long v_26, .ref (x + 5), .int (nI (n_10 + 1)), .int v_27, .long (ob + 1), .long v_28, .long v_29, .long v_30, .ref (x + 6), .ref (x + 7), .int (nI n_11), .ref (x + 8), .int (nI le), .ref (x + 9), .ref (x + 10), .int (nI qu), .ref (x + 11), .ref (x + 12), .ref (x + 13), .ref (x + 14), .ref (x + 15), .ref (x + 16), .int (nI n_13), .long v_31, .ref (x + 17), .ref (x + 18), .ref (x + 19), .ref (x + 20), .ref (x + 21), .ref (x + 22), .int (nI n_14), .ref (x + 23), .ref (x + 24), .int (nI n_15), .ref (x + 25), .int (nI il), .int (nI nx), .int ec, .int ep, .int kn, .int (nI st), .int nu, .long va]) := ((fset_fr hΦ9 (ne_off (x := x) (i := 0) (j := 5) rfl)).trans h_23)
      refine z_get (ref := "FlowExporterModel") (C := RX12) (T := TX12) (N := 54) (ci := 14) (v := .ref (x + 5)) B hu_X12_see_X12 rfl 12 (Nat.le_of_ble_eq_true rfl) hv_X12_see_26 rfl h_25 rfl dX12_see_160 ?_
      refine z_iload B dX12_see_163 0 rfl ?_
      refine z_bipush (v := 6) B dX12_see_165 rfl ?_
      refine z_iadd B dX12_see_167 ?_
      refine z_top (st1 := [.int (nI (8 * n_10 + 6)), .ref (x + 5)]) (congrArg (fun w9 : Int32 => ([.int w9, .ref (x + 5)] : List Value)) (nI_add (8 * n_10) 6)) ?_
      refine z_aload_n B dX12_see_168 rfl 2 rfl ?_
      refine z_get (ref := "FlowExporterModel") (C := RX12) (T := TX12) (N := 54) (ci := 14) (v := .int ti) B hu_X12_see_X12 rfl 3 (Nat.le_of_ble_eq_true rfl) hv_X12_see_101 rfl h_25 rfl dX12_see_169 ?_
      refine z_i2l (v := ti.toInt64) B dX12_see_172 rfl ?_
      refine z_last B h_24 (Nat.le_trans hx (Nat.le_add_right x 5)) (vp_in_nI (by omega) (by omega)) dX12_see_173 (fun Φ13 hΦ10 => ?_)
      have h_26 : Φ13 (x + 5) = some (al_ G 96 (vp_updL (vp_updL (vp_updL (vp_updL (vp_updL (vp_updL (vp_updL f_1 (nI (8 * n_10)).toNatClampNeg a.toInt64) (nI (8 * n_10 + 1)).toNatClampNeg b.toInt64) (nI (8 * n_10 + 2)).toNatClampNeg d.toInt64) (nI (8 * n_10 + 3)).toNatClampNeg ((nI g).toInt64)) (nI (8 * n_10 + 4)).toNatClampNeg 0) (nI (8 * n_10 + 5)).toNatClampNeg 0) (nI (8 * n_10 + 6)).toNatClampNeg ti.toInt64)) := fset_at hΦ10
      have hI13 : Im G x (rd, nw, n_10 + 1, n_11, le, nx, il, qu, kn, ec, nu, va, st, ep, ti, ad, ob + 1) Φ13 := Im.put (k := 5) hI12 hΦ10 ⟨_, rfl, CC.up r_10 (by rw [nI_clamp (by omega)]; omega)⟩
      have r_11 : CC (vp_updL (vp_updL (vp_updL (vp_updL (vp_updL (vp_updL (vp_updL f_1 (nI (8 * n_10)).toNatClampNeg a.toInt64) (nI (8 * n_10 + 1)).toNatClampNeg b.toInt64) (nI (8 * n_10 + 2)).toNatClampNeg d.toInt64) (nI (8 * n_10 + 3)).toNatClampNeg ((nI g).toInt64)) (nI (8 * n_10 + 4)).toNatClampNeg 0) (nI (8 * n_10 + 5)).toNatClampNeg 0) (nI (8 * n_10 + 6)).toNatClampNeg ti.toInt64) := CC.up r_10 (by rw [nI_clamp (by omega)]; omega)
      refine z_aload_n B dX12_see_174 rfl 2 rfl ?_
      have h_27 : Φ13 x = some (o_ 14 [.int v_22, .ref (x + 1), .ref (x + 2), .int ti, .int v_23, .int (nI n_12), .int v_24, .int ad, .ref (x + 3), .ref (x + 4), .int v_25, .long v_26, .ref (x + 5), .int (nI (n_10 + 1)), .int v_27, .long (ob + 1), .long v_28, .long v_29, .long v_30, .ref (x + 6), .ref (x + 7), .int (nI n_11), .ref (x + 8), .int (nI le), .ref (x + 9), .ref (x + 10), .int (nI qu), .ref (x + 11), .ref (x + 12), .ref (x + 13), .ref (x + 14), .ref (x + 15), .ref (x + 16), .int (nI n_13), .long v_31, .ref (x + 17), .ref (x + 18), .ref (x + 19), .ref (x + 20), .ref (x + 21), .ref (x + 22), .int (nI n_14), .ref (x + 23), .ref (x + 24), .int (nI n_15), .ref (x + 25), .int (nI il), .int (nI nx), .int ec, .int ep, .int kn, .int (nI st), .int nu, .long va]) := ((fset_fr hΦ10 (ne_off (x := x) (i := 0) (j := 5) rfl)).trans h_25)
      refine z_get (ref := "FlowExporterModel") (C := RX12) (T := TX12) (N := 54) (ci := 14) (v := .ref (x + 5)) B hu_X12_see_X12 rfl 12 (Nat.le_of_ble_eq_true rfl) hv_X12_see_26 rfl h_27 rfl dX12_see_175 ?_
      refine z_bipush (v := 8) B dX12_see_178 rfl ?_
      refine z_iload B dX12_see_180 1 rfl ?_
      refine z_imul B dX12_see_182 ?_
      refine z_top (st1 := [.int (nI (8 * n_10)), .ref (x + 5)]) (congrArg (fun w9 : Int32 => ([.int w9, .ref (x + 5)] : List Value)) (nI_mul 8 n_10)) ?_
      refine z_iconst (v := 4) B dX12_see_183 rfl ?_
      refine z_iadd B dX12_see_184 ?_
      refine z_top (st1 := [.int (nI (8 * n_10 + 4)), .ref (x + 5)]) (congrArg (fun w9 : Int32 => ([.int w9, .ref (x + 5)] : List Value)) (nI_add (8 * n_10) 4)) ?_
      refine z_dup2_11 B dX12_see_185 rfl rfl ?_
      refine z_lald B h_26 (vp_in_nI (by omega) (by omega)) dX12_see_186 ?_
      refine z_fl (fun v_32 => ?_)
      refine z_lconst (v := 1) B dX12_see_187 rfl ?_
      refine z_ladd B dX12_see_188 ?_
      refine z_fl (fun v_33 => ?_)
      refine z_last B h_26 (Nat.le_trans hx (Nat.le_add_right x 5)) (vp_in_nI (by omega) (by omega)) dX12_see_189 (fun Φ14 hΦ11 => ?_)
      have h_28 : Φ14 (x + 5) = some (al_ G 96 (vp_updL (vp_updL (vp_updL (vp_updL (vp_updL (vp_updL (vp_updL (vp_updL f_1 (nI (8 * n_10)).toNatClampNeg a.toInt64) (nI (8 * n_10 + 1)).toNatClampNeg b.toInt64) (nI (8 * n_10 + 2)).toNatClampNeg d.toInt64) (nI (8 * n_10 + 3)).toNatClampNeg ((nI g).toInt64)) (nI (8 * n_10 + 4)).toNatClampNeg 0) (nI (8 * n_10 + 5)).toNatClampNeg 0) (nI (8 * n_10 + 6)).toNatClampNeg ti.toInt64) (nI (8 * n_10 + 4)).toNatClampNeg v_33)) := fset_at hΦ11
      have hI14 : Im G x (rd, nw, n_10 + 1, n_11, le, nx, il, qu, kn, ec, nu, va, st, ep, ti, ad, ob + 1) Φ14 := Im.put (k := 5) hI13 hΦ11 ⟨_, rfl, CC.up r_11 (by rw [nI_clamp (by omega)]; omega)⟩
      have r_12 : CC (vp_updL (vp_updL (vp_updL (vp_updL (vp_updL (vp_updL (vp_updL (vp_updL f_1 (nI (8 * n_10)).toNatClampNeg a.toInt64) (nI (8 * n_10 + 1)).toNatClampNeg b.toInt64) (nI (8 * n_10 + 2)).toNatClampNeg d.toInt64) (nI (8 * n_10 + 3)).toNatClampNeg ((nI g).toInt64)) (nI (8 * n_10 + 4)).toNatClampNeg 0) (nI (8 * n_10 + 5)).toNatClampNeg 0) (nI (8 * n_10 + 6)).toNatClampNeg ti.toInt64) (nI (8 * n_10 + 4)).toNatClampNeg v_33) := CC.up r_11 (by rw [nI_clamp (by omega)]; omega)
      refine z_aload_n B dX12_see_190 rfl 2 rfl ?_
      have h_29 : Φ14 x = some (o_ 14 [.int v_22, .ref (x + 1), .ref (x + 2), .int ti, .int v_23, .int (nI n_12), .int v_24, .int ad, .ref (x + 3), .ref (x + 4), .int v_25, .long v_26, .ref (x + 5), .int (nI (n_10 + 1)), .int v_27, .long (ob + 1), .long v_28, .long v_29, .long v_30, .ref (x + 6), .ref (x + 7), .int (nI n_11), .ref (x + 8), .int (nI le), .ref (x + 9), .ref (x + 10), .int (nI qu), .ref (x + 11), .ref (x + 12), .ref (x + 13), .ref (x + 14), .ref (x + 15), .ref (x + 16), .int (nI n_13), .long v_31, .ref (x + 17), .ref (x + 18), .ref (x + 19), .ref (x + 20), .ref (x + 21), .ref (x + 22), .int (nI n_14), .ref (x + 23), .ref (x + 24), .int (nI n_15), .ref (x + 25), .int (nI il), .int (nI nx), .int ec, .int ep, .int kn, .int (nI st), .int nu, .long va]) := ((fset_fr hΦ11 (ne_off (x := x) (i := 0) (j := 5) rfl)).trans h_27)
      refine z_get (ref := "FlowExporterModel") (C := RX12) (T := TX12) (N := 54) (ci := 14) (v := .ref (x + 5)) B hu_X12_see_X12 rfl 12 (Nat.le_of_ble_eq_true rfl) hv_X12_see_26 rfl h_29 rfl dX12_see_191 ?_
      refine z_bipush (v := 8) B dX12_see_194 rfl ?_
      refine z_iload B dX12_see_196 1 rfl ?_
      refine z_imul B dX12_see_198 ?_
      refine z_top (st1 := [.int (nI (8 * n_10)), .ref (x + 5)]) (congrArg (fun w9 : Int32 => ([.int w9, .ref (x + 5)] : List Value)) (nI_mul 8 n_10)) ?_
      refine z_iconst (v := 5) B dX12_see_199 rfl ?_
      refine z_iadd B dX12_see_200 ?_
      refine z_top (st1 := [.int (nI (8 * n_10 + 5)), .ref (x + 5)]) (congrArg (fun w9 : Int32 => ([.int w9, .ref (x + 5)] : List Value)) (nI_add (8 * n_10) 5)) ?_
      refine z_dup2_11 B dX12_see_201 rfl rfl ?_
      refine z_lald B h_28 (vp_in_nI (by omega) (by omega)) dX12_see_202 ?_
      refine z_fl (fun v_34 => ?_)
      refine z_iload B dX12_see_203 7 rfl ?_
      refine z_i2l (v := e.toInt64) B dX12_see_205 rfl ?_
      refine z_ladd B dX12_see_206 ?_
      refine z_fl (fun v_35 => ?_)
      refine z_last B h_28 (Nat.le_trans hx (Nat.le_add_right x 5)) (vp_in_nI (by omega) (by omega)) dX12_see_207 (fun Φ15 hΦ12 => ?_)
      have h_30 : Φ15 (x + 5) = some (al_ G 96 (vp_updL (vp_updL (vp_updL (vp_updL (vp_updL (vp_updL (vp_updL (vp_updL (vp_updL f_1 (nI (8 * n_10)).toNatClampNeg a.toInt64) (nI (8 * n_10 + 1)).toNatClampNeg b.toInt64) (nI (8 * n_10 + 2)).toNatClampNeg d.toInt64) (nI (8 * n_10 + 3)).toNatClampNeg ((nI g).toInt64)) (nI (8 * n_10 + 4)).toNatClampNeg 0) (nI (8 * n_10 + 5)).toNatClampNeg 0) (nI (8 * n_10 + 6)).toNatClampNeg ti.toInt64) (nI (8 * n_10 + 4)).toNatClampNeg v_33) (nI (8 * n_10 + 5)).toNatClampNeg v_35)) := fset_at hΦ12
      have hI15 : Im G x (rd, nw, n_10 + 1, n_11, le, nx, il, qu, kn, ec, nu, va, st, ep, ti, ad, ob + 1) Φ15 := Im.put (k := 5) hI14 hΦ12 ⟨_, rfl, CC.up r_12 (by rw [nI_clamp (by omega)]; omega)⟩
      have r_13 : CC (vp_updL (vp_updL (vp_updL (vp_updL (vp_updL (vp_updL (vp_updL (vp_updL (vp_updL f_1 (nI (8 * n_10)).toNatClampNeg a.toInt64) (nI (8 * n_10 + 1)).toNatClampNeg b.toInt64) (nI (8 * n_10 + 2)).toNatClampNeg d.toInt64) (nI (8 * n_10 + 3)).toNatClampNeg ((nI g).toInt64)) (nI (8 * n_10 + 4)).toNatClampNeg 0) (nI (8 * n_10 + 5)).toNatClampNeg 0) (nI (8 * n_10 + 6)).toNatClampNeg ti.toInt64) (nI (8 * n_10 + 4)).toNatClampNeg v_33) (nI (8 * n_10 + 5)).toNatClampNeg v_35) := CC.up r_12 (by rw [nI_clamp (by omega)]; omega)
      refine z_aload_n B dX12_see_208 rfl 2 rfl ?_
      have h_31 : Φ15 x = some (o_ 14 [.int v_22, .ref (x + 1), .ref (x + 2), .int ti, .int v_23, .int (nI n_12), .int v_24, .int ad, .ref (x + 3), .ref (x + 4), .int v_25, .long v_26, .ref (x + 5), .int (nI (n_10 + 1)), .int v_27, .long (ob + 1), .long v_28, .long v_29, .long v_30, .ref (x + 6), .ref (x + 7), .int (nI n_11), .ref (x + 8), .int (nI le), .ref (x + 9), .ref (x + 10), .int (nI qu), .ref (x + 11), .ref (x + 12), .ref (x + 13), .ref (x + 14), .ref (x + 15), .ref (x + 16), .int (nI n_13), .long v_31, .ref (x + 17), .ref (x + 18), .ref (x + 19), .ref (x + 20), .ref (x + 21), .ref (x + 22), .int (nI n_14), .ref (x + 23), .ref (x + 24), .int (nI n_15), .ref (x + 25), .int (nI il), .int (nI nx), .int ec, .int ep, .int kn, .int (nI st), .int nu, .long va]) := ((fset_fr hΦ12 (ne_off (x := x) (i := 0) (j := 5) rfl)).trans h_29)
      refine z_get (ref := "FlowExporterModel") (C := RX12) (T := TX12) (N := 54) (ci := 14) (v := .ref (x + 5)) B hu_X12_see_X12 rfl 12 (Nat.le_of_ble_eq_true rfl) hv_X12_see_26 rfl h_31 rfl dX12_see_209 ?_
      refine z_bipush (v := 8) B dX12_see_212 rfl ?_
      refine z_iload B dX12_see_214 1 rfl ?_
      refine z_imul B dX12_see_216 ?_
      refine z_top (st1 := [.int (nI (8 * n_10)), .ref (x + 5)]) (congrArg (fun w9 : Int32 => ([.int w9, .ref (x + 5)] : List Value)) (nI_mul 8 n_10)) ?_
      refine z_bipush (v := 7) B dX12_see_217 rfl ?_
      refine z_iadd B dX12_see_219 ?_
      refine z_top (st1 := [.int (nI (8 * n_10 + 7)), .ref (x + 5)]) (congrArg (fun w9 : Int32 => ([.int w9, .ref (x + 5)] : List Value)) (nI_add (8 * n_10) 7)) ?_
      refine z_aload_n B dX12_see_220 rfl 2 rfl ?_
      refine z_get (ref := "FlowExporterModel") (C := RX12) (T := TX12) (N := 54) (ci := 14) (v := .int ti) B hu_X12_see_X12 rfl 3 (Nat.le_of_ble_eq_true rfl) hv_X12_see_101 rfl h_31 rfl dX12_see_221 ?_
      refine z_i2l (v := ti.toInt64) B dX12_see_224 rfl ?_
      refine z_last B h_30 (Nat.le_trans hx (Nat.le_add_right x 5)) (vp_in_nI (by omega) (by omega)) dX12_see_225 (fun Φ16 hΦ13 => ?_)
      have h_32 : Φ16 (x + 5) = some (al_ G 96 (vp_updL (vp_updL (vp_updL (vp_updL (vp_updL (vp_updL (vp_updL (vp_updL (vp_updL (vp_updL f_1 (nI (8 * n_10)).toNatClampNeg a.toInt64) (nI (8 * n_10 + 1)).toNatClampNeg b.toInt64) (nI (8 * n_10 + 2)).toNatClampNeg d.toInt64) (nI (8 * n_10 + 3)).toNatClampNeg ((nI g).toInt64)) (nI (8 * n_10 + 4)).toNatClampNeg 0) (nI (8 * n_10 + 5)).toNatClampNeg 0) (nI (8 * n_10 + 6)).toNatClampNeg ti.toInt64) (nI (8 * n_10 + 4)).toNatClampNeg v_33) (nI (8 * n_10 + 5)).toNatClampNeg v_35) (nI (8 * n_10 + 7)).toNatClampNeg ti.toInt64)) := fset_at hΦ13
      have hI16 : Im G x (rd, nw, n_10 + 1, n_11, le, nx, il, qu, kn, ec, nu, va, st, ep, ti, ad, ob + 1) Φ16 := Im.put (k := 5) hI15 hΦ13 ⟨_, rfl, CC.up r_13 (by rw [nI_clamp (by omega)]; omega)⟩
      have r_14 : CC (vp_updL (vp_updL (vp_updL (vp_updL (vp_updL (vp_updL (vp_updL (vp_updL (vp_updL (vp_updL f_1 (nI (8 * n_10)).toNatClampNeg a.toInt64) (nI (8 * n_10 + 1)).toNatClampNeg b.toInt64) (nI (8 * n_10 + 2)).toNatClampNeg d.toInt64) (nI (8 * n_10 + 3)).toNatClampNeg ((nI g).toInt64)) (nI (8 * n_10 + 4)).toNatClampNeg 0) (nI (8 * n_10 + 5)).toNatClampNeg 0) (nI (8 * n_10 + 6)).toNatClampNeg ti.toInt64) (nI (8 * n_10 + 4)).toNatClampNeg v_33) (nI (8 * n_10 + 5)).toNatClampNeg v_35) (nI (8 * n_10 + 7)).toNatClampNeg ti.toInt64) := CC.up r_13 (by rw [nI_clamp (by omega)]; omega)
      refine z_iconst (v := 1) B dX12_see_226 rfl ?_
      exact z_ret_z B dX12_see_227 (by decide) ⟨⟨_, rfl, by decide⟩, rfl, ⟨n_10 + 1, n_11, (Or.inr ⟨(show n_11 ≤ 1 by omega), fun fC1 h8 => Eq.subst (motive := fun z9 => InC z9 (n_10 + 1) a b d (nI g)) (al_inj (h_32.symm.trans h8)) ⟨n_10, (show n_10 < n_10 + 1 by omega), (rK.up (rK.up (rK.up (rK.up (rK.up (rK.up (rK.new (n := n_10) (by rw [nI_clamp (by omega)]) (by rw [nI_clamp (by omega)]) (by rw [nI_clamp (by omega)]) (by rw [nI_clamp (by omega)])) (Or.inl (by rw [nI_clamp (by omega)]; omega))) (Or.inl (by rw [nI_clamp (by omega)]; omega))) (Or.inl (by rw [nI_clamp (by omega)]; omega))) (Or.inl (by rw [nI_clamp (by omega)]; omega))) (Or.inl (by rw [nI_clamp (by omega)]; omega))) (Or.inl (by rw [nI_clamp (by omega)]; omega)))⟩⟩), hI16⟩, (fun b9 h9 => ((fset_fr hΦ13 (fun h8 => h9 (5) h8 (show 5 = 0 ∨ 5 = 5 ∨ 5 = 6 ∨ 5 = 7 ∨ 5 = 23 ∨ 5 = 24 by decide))).trans ((fset_fr hΦ12 (fun h8 => h9 (5) h8 (show 5 = 0 ∨ 5 = 5 ∨ 5 = 6 ∨ 5 = 7 ∨ 5 = 23 ∨ 5 = 24 by decide))).trans ((fset_fr hΦ11 (fun h8 => h9 (5) h8 (show 5 = 0 ∨ 5 = 5 ∨ 5 = 6 ∨ 5 = 7 ∨ 5 = 23 ∨ 5 = 24 by decide))).trans ((fset_fr hΦ10 (fun h8 => h9 (5) h8 (show 5 = 0 ∨ 5 = 5 ∨ 5 = 6 ∨ 5 = 7 ∨ 5 = 23 ∨ 5 = 24 by decide))).trans ((fset_fr hΦ9 (fun h8 => h9 (5) h8 (show 5 = 0 ∨ 5 = 5 ∨ 5 = 6 ∨ 5 = 7 ∨ 5 = 23 ∨ 5 = 24 by decide))).trans ((fset_fr hΦ8 (fun h8 => h9 (5) h8 (show 5 = 0 ∨ 5 = 5 ∨ 5 = 6 ∨ 5 = 7 ∨ 5 = 23 ∨ 5 = 24 by decide))).trans ((fset_fr hΦ7 (fun h8 => h9 (5) h8 (show 5 = 0 ∨ 5 = 5 ∨ 5 = 6 ∨ 5 = 7 ∨ 5 = 23 ∨ 5 = 24 by decide))).trans ((fset_fr hΦ6 (fun h8 => h9 (5) h8 (show 5 = 0 ∨ 5 = 5 ∨ 5 = 6 ∨ 5 = 7 ∨ 5 = 23 ∨ 5 = 24 by decide))).trans ((fset_fr hΦ5 (fun h8 => h9 (5) h8 (show 5 = 0 ∨ 5 = 5 ∨ 5 = 6 ∨ 5 = 7 ∨ 5 = 23 ∨ 5 = 24 by decide))).trans ((fset_fr hΦ4 (fun h8 => h9 (5) h8 (show 5 = 0 ∨ 5 = 5 ∨ 5 = 6 ∨ 5 = 7 ∨ 5 = 23 ∨ 5 = 24 by decide))).trans ((fset_fr hΦ3 (fun h8 => h9 (0) h8 (show 0 = 0 ∨ 0 = 5 ∨ 0 = 6 ∨ 0 = 7 ∨ 0 = 23 ∨ 0 = 24 by decide))).trans ((hF3 b9 (fun j9 h8 h7 => h9 j9 h8 (fq_959 j9 h7))).trans ((hF2 b9 (fun j9 h8 h7 => (show False from h7).elim)).trans ((fset_fr hΦ2 (fun h8 => h9 (0) h8 (show 0 = 0 ∨ 0 = 5 ∨ 0 = 6 ∨ 0 = 7 ∨ 0 = 23 ∨ 0 = 24 by decide))).trans ((hF1 b9 (fun j9 h8 h7 => h9 j9 h8 (fq_958 j9 h7))).trans ((fset_fr hΦ1 (fun h8 => h9 (0) h8 (show 0 = 0 ∨ 0 = 5 ∨ 0 = 6 ∨ 0 = 7 ∨ 0 = 23 ∨ 0 = 24 by decide))).trans rfl)))))))))))))))))⟩
    · replace hs2 : st2 = [.int (nI n_9)] := hs2
      subst st2
      replace b_27 : n_9 < fl := b_27
      replace q_1 : rK fC n_9 a b d (nI g) := q_1
      refine z_istore (lv' := [(6, .int (nI n_9)), (0, .ref x), (1, .int a), (2, .int b), (3, .int d), (4, .int (nI g)), (5, .int e)]) B dX12_see_61 (Nat.le_of_ble_eq_true rfl) rfl ?_
      refine z_iload B dX12_see_63 0 rfl ?_
      refine z_iconst (v := (-1)) B dX12_see_65 rfl ?_
      refine z_icmp_ne (tgt := 174) B dX12_see_66 rfl (fun c_3 => ?_) (fun h9 => absurd h9 (nI_nm1 (n := n_9) (by omega)))
      refine z_aload_n B dX12_see_174 rfl 1 rfl ?_
      have h_33 : Φ4 x = some (o_ 14 [.int v_11, .ref (x + 1), .ref (x + 2), .int ti, .int v_12, .int (nI n_5), .int v_13, .int ad, .ref (x + 3), .ref (x + 4), .int v_14, .long v_15, .ref (x + 5), .int (nI fl), .int v_16, .long (ob + 1), .long v_21, .long v_18, .long v_19, .ref (x + 6), .ref (x + 7), .int (nI pe), .ref (x + 8), .int (nI le), .ref (x + 9), .ref (x + 10), .int (nI qu), .ref (x + 11), .ref (x + 12), .ref (x + 13), .ref (x + 14), .ref (x + 15), .ref (x + 16), .int (nI n_6), .long v_20, .ref (x + 17), .ref (x + 18), .ref (x + 19), .ref (x + 20), .ref (x + 21), .ref (x + 22), .int (nI n_7), .ref (x + 23), .ref (x + 24), .int (nI n_8), .ref (x + 25), .int (nI il), .int (nI nx), .int ec, .int ep, .int kn, .int (nI st), .int nu, .long va]) := ((hF2 x (fun j9 h8 h7 => (show False from h7).elim)).trans h_6)
      refine z_get (ref := "FlowExporterModel") (C := RX12) (T := TX12) (N := 54) (ci := 14) (v := .ref (x + 5)) B hu_X12_see_X12 rfl 12 (Nat.le_of_ble_eq_true rfl) hv_X12_see_26 rfl h_33 rfl dX12_see_175 ?_
      refine z_bipush (v := 8) B dX12_see_178 rfl ?_
      refine z_iload B dX12_see_180 0 rfl ?_
      refine z_imul B dX12_see_182 ?_
      refine z_top (st1 := [.int (nI (8 * n_9)), .ref (x + 5)]) (congrArg (fun w9 : Int32 => ([.int w9, .ref (x + 5)] : List Value)) (nI_mul 8 n_9)) ?_
      refine z_iconst (v := 4) B dX12_see_183 rfl ?_
      refine z_iadd B dX12_see_184 ?_
      refine z_top (st1 := [.int (nI (8 * n_9 + 4)), .ref (x + 5)]) (congrArg (fun w9 : Int32 => ([.int w9, .ref (x + 5)] : List Value)) (nI_add (8 * n_9) 4)) ?_
      refine z_dup2_11 B dX12_see_185 rfl rfl ?_
      have h_34 : Φ4 (x + 5) = some (al_ G 96 fC) := ((hF2 (x + 5) (fun j9 h8 h7 => (show False from h7).elim)).trans h_7)
      refine z_lald B h_34 (vp_in_nI (by omega) (by omega)) dX12_see_186 ?_
      refine z_fl (fun v_36 => ?_)
      refine z_lconst (v := 1) B dX12_see_187 rfl ?_
      refine z_ladd B dX12_see_188 ?_
      refine z_fl (fun v_37 => ?_)
      refine z_last B h_34 (Nat.le_trans hx (Nat.le_add_right x 5)) (vp_in_nI (by omega) (by omega)) dX12_see_189 (fun Φ17 hΦ14 => ?_)
      have h_35 : Φ17 (x + 5) = some (al_ G 96 (vp_updL fC (nI (8 * n_9 + 4)).toNatClampNeg v_37)) := fset_at hΦ14
      have hI17 : Im G x (rd, nw, fl, pe, le, nx, il, qu, kn, ec, nu, va, st, ep, ti, ad, ob + 1) Φ17 := Im.put (k := 5) hI4 hΦ14 ⟨_, rfl, CC.up hC (by rw [nI_clamp (by omega)]; omega)⟩
      have r_15 : CC (vp_updL fC (nI (8 * n_9 + 4)).toNatClampNeg v_37) := CC.up hC (by rw [nI_clamp (by omega)]; omega)
      refine z_aload_n B dX12_see_190 rfl 1 rfl ?_
      have h_36 : Φ17 x = some (o_ 14 [.int v_11, .ref (x + 1), .ref (x + 2), .int ti, .int v_12, .int (nI n_5), .int v_13, .int ad, .ref (x + 3), .ref (x + 4), .int v_14, .long v_15, .ref (x + 5), .int (nI fl), .int v_16, .long (ob + 1), .long v_21, .long v_18, .long v_19, .ref (x + 6), .ref (x + 7), .int (nI pe), .ref (x + 8), .int (nI le), .ref (x + 9), .ref (x + 10), .int (nI qu), .ref (x + 11), .ref (x + 12), .ref (x + 13), .ref (x + 14), .ref (x + 15), .ref (x + 16), .int (nI n_6), .long v_20, .ref (x + 17), .ref (x + 18), .ref (x + 19), .ref (x + 20), .ref (x + 21), .ref (x + 22), .int (nI n_7), .ref (x + 23), .ref (x + 24), .int (nI n_8), .ref (x + 25), .int (nI il), .int (nI nx), .int ec, .int ep, .int kn, .int (nI st), .int nu, .long va]) := ((fset_fr hΦ14 (ne_off (x := x) (i := 0) (j := 5) rfl)).trans h_33)
      refine z_get (ref := "FlowExporterModel") (C := RX12) (T := TX12) (N := 54) (ci := 14) (v := .ref (x + 5)) B hu_X12_see_X12 rfl 12 (Nat.le_of_ble_eq_true rfl) hv_X12_see_26 rfl h_36 rfl dX12_see_191 ?_
      refine z_bipush (v := 8) B dX12_see_194 rfl ?_
      refine z_iload B dX12_see_196 0 rfl ?_
      refine z_imul B dX12_see_198 ?_
      refine z_top (st1 := [.int (nI (8 * n_9)), .ref (x + 5)]) (congrArg (fun w9 : Int32 => ([.int w9, .ref (x + 5)] : List Value)) (nI_mul 8 n_9)) ?_
      refine z_iconst (v := 5) B dX12_see_199 rfl ?_
      refine z_iadd B dX12_see_200 ?_
      refine z_top (st1 := [.int (nI (8 * n_9 + 5)), .ref (x + 5)]) (congrArg (fun w9 : Int32 => ([.int w9, .ref (x + 5)] : List Value)) (nI_add (8 * n_9) 5)) ?_
      refine z_dup2_11 B dX12_see_201 rfl rfl ?_
      refine z_lald B h_35 (vp_in_nI (by omega) (by omega)) dX12_see_202 ?_
      refine z_fl (fun v_38 => ?_)
      refine z_iload B dX12_see_203 6 rfl ?_
      refine z_i2l (v := e.toInt64) B dX12_see_205 rfl ?_
      refine z_ladd B dX12_see_206 ?_
      refine z_fl (fun v_39 => ?_)
      refine z_last B h_35 (Nat.le_trans hx (Nat.le_add_right x 5)) (vp_in_nI (by omega) (by omega)) dX12_see_207 (fun Φ18 hΦ15 => ?_)
      have h_37 : Φ18 (x + 5) = some (al_ G 96 (vp_updL (vp_updL fC (nI (8 * n_9 + 4)).toNatClampNeg v_37) (nI (8 * n_9 + 5)).toNatClampNeg v_39)) := fset_at hΦ15
      have hI18 : Im G x (rd, nw, fl, pe, le, nx, il, qu, kn, ec, nu, va, st, ep, ti, ad, ob + 1) Φ18 := Im.put (k := 5) hI17 hΦ15 ⟨_, rfl, CC.up r_15 (by rw [nI_clamp (by omega)]; omega)⟩
      have r_16 : CC (vp_updL (vp_updL fC (nI (8 * n_9 + 4)).toNatClampNeg v_37) (nI (8 * n_9 + 5)).toNatClampNeg v_39) := CC.up r_15 (by rw [nI_clamp (by omega)]; omega)
      refine z_aload_n B dX12_see_208 rfl 1 rfl ?_
      have h_38 : Φ18 x = some (o_ 14 [.int v_11, .ref (x + 1), .ref (x + 2), .int ti, .int v_12, .int (nI n_5), .int v_13, .int ad, .ref (x + 3), .ref (x + 4), .int v_14, .long v_15, .ref (x + 5), .int (nI fl), .int v_16, .long (ob + 1), .long v_21, .long v_18, .long v_19, .ref (x + 6), .ref (x + 7), .int (nI pe), .ref (x + 8), .int (nI le), .ref (x + 9), .ref (x + 10), .int (nI qu), .ref (x + 11), .ref (x + 12), .ref (x + 13), .ref (x + 14), .ref (x + 15), .ref (x + 16), .int (nI n_6), .long v_20, .ref (x + 17), .ref (x + 18), .ref (x + 19), .ref (x + 20), .ref (x + 21), .ref (x + 22), .int (nI n_7), .ref (x + 23), .ref (x + 24), .int (nI n_8), .ref (x + 25), .int (nI il), .int (nI nx), .int ec, .int ep, .int kn, .int (nI st), .int nu, .long va]) := ((fset_fr hΦ15 (ne_off (x := x) (i := 0) (j := 5) rfl)).trans h_36)
      refine z_get (ref := "FlowExporterModel") (C := RX12) (T := TX12) (N := 54) (ci := 14) (v := .ref (x + 5)) B hu_X12_see_X12 rfl 12 (Nat.le_of_ble_eq_true rfl) hv_X12_see_26 rfl h_38 rfl dX12_see_209 ?_
      refine z_bipush (v := 8) B dX12_see_212 rfl ?_
      refine z_iload B dX12_see_214 0 rfl ?_
      refine z_imul B dX12_see_216 ?_
      refine z_top (st1 := [.int (nI (8 * n_9)), .ref (x + 5)]) (congrArg (fun w9 : Int32 => ([.int w9, .ref (x + 5)] : List Value)) (nI_mul 8 n_9)) ?_
      refine z_bipush (v := 7) B dX12_see_217 rfl ?_
      refine z_iadd B dX12_see_219 ?_
      refine z_top (st1 := [.int (nI (8 * n_9 + 7)), .ref (x + 5)]) (congrArg (fun w9 : Int32 => ([.int w9, .ref (x + 5)] : List Value)) (nI_add (8 * n_9) 7)) ?_
      refine z_aload_n B dX12_see_220 rfl 1 rfl ?_
      refine z_get (ref := "FlowExporterModel") (C := RX12) (T := TX12) (N := 54) (ci := 14) (v := .int ti) B hu_X12_see_X12 rfl 3 (Nat.le_of_ble_eq_true rfl) hv_X12_see_101 rfl h_38 rfl dX12_see_221 ?_
      refine z_i2l (v := ti.toInt64) B dX12_see_224 rfl ?_
      refine z_last B h_37 (Nat.le_trans hx (Nat.le_add_right x 5)) (vp_in_nI (by omega) (by omega)) dX12_see_225 (fun Φ19 hΦ16 => ?_)
      have h_39 : Φ19 (x + 5) = some (al_ G 96 (vp_updL (vp_updL (vp_updL fC (nI (8 * n_9 + 4)).toNatClampNeg v_37) (nI (8 * n_9 + 5)).toNatClampNeg v_39) (nI (8 * n_9 + 7)).toNatClampNeg ti.toInt64)) := fset_at hΦ16
      have hI19 : Im G x (rd, nw, fl, pe, le, nx, il, qu, kn, ec, nu, va, st, ep, ti, ad, ob + 1) Φ19 := Im.put (k := 5) hI18 hΦ16 ⟨_, rfl, CC.up r_16 (by rw [nI_clamp (by omega)]; omega)⟩
      have r_17 : CC (vp_updL (vp_updL (vp_updL fC (nI (8 * n_9 + 4)).toNatClampNeg v_37) (nI (8 * n_9 + 5)).toNatClampNeg v_39) (nI (8 * n_9 + 7)).toNatClampNeg ti.toInt64) := CC.up r_16 (by rw [nI_clamp (by omega)]; omega)
      refine z_iconst (v := 1) B dX12_see_226 rfl ?_
      exact z_ret_z B dX12_see_227 (by decide) ⟨⟨_, rfl, by decide⟩, rfl, ⟨fl, pe, (Or.inr ⟨(show pe ≤ 1 by omega), fun fC1 h8 => Eq.subst (motive := fun z9 => InC z9 fl a b d (nI g)) (al_inj (h_39.symm.trans h8)) ⟨n_9, (show n_9 < fl by omega), (rK.up (rK.up (rK.up q_1 (Or.inl (by rw [nI_clamp (by omega)]; omega))) (Or.inl (by rw [nI_clamp (by omega)]; omega))) (Or.inl (by rw [nI_clamp (by omega)]; omega)))⟩⟩), hI19⟩, (fun b9 h9 => ((fset_fr hΦ16 (fun h8 => h9 (5) h8 (show 5 = 0 ∨ 5 = 5 ∨ 5 = 6 ∨ 5 = 7 ∨ 5 = 23 ∨ 5 = 24 by decide))).trans ((fset_fr hΦ15 (fun h8 => h9 (5) h8 (show 5 = 0 ∨ 5 = 5 ∨ 5 = 6 ∨ 5 = 7 ∨ 5 = 23 ∨ 5 = 24 by decide))).trans ((fset_fr hΦ14 (fun h8 => h9 (5) h8 (show 5 = 0 ∨ 5 = 5 ∨ 5 = 6 ∨ 5 = 7 ∨ 5 = 23 ∨ 5 = 24 by decide))).trans ((hF2 b9 (fun j9 h8 h7 => (show False from h7).elim)).trans ((fset_fr hΦ2 (fun h8 => h9 (0) h8 (show 0 = 0 ∨ 0 = 5 ∨ 0 = 6 ∨ 0 = 7 ∨ 0 = 23 ∨ 0 = 24 by decide))).trans ((hF1 b9 (fun j9 h8 h7 => h9 j9 h8 (fq_958 j9 h7))).trans ((fset_fr hΦ1 (fun h8 => h9 (0) h8 (show 0 = 0 ∨ 0 = 5 ∨ 0 = 6 ∨ 0 = 7 ∨ 0 = 23 ∨ 0 = 24 by decide))).trans rfl))))))))⟩
  · have e_2 : ¬ (n_5 ≤ 1) := fun h9 => c_1 ((nI_leI (a := n_5) (b := 1) (by omega) (by omega)).mpr h9)
    refine z_aload_n B dX12_see_29 rfl 0 rfl ?_
    refine z_aload_n B dX12_see_30 rfl 0 rfl ?_
    refine z_get (ref := "FlowExporterModel") (C := RX12) (T := TX12) (N := 54) (ci := 14) (v := .int (nI n_5)) B hu_X12_see_X12 rfl 5 (Nat.le_of_ble_eq_true rfl) hv_X12_see_107 rfl h_5 rfl dX12_see_31 ?_
    refine z_callV (As := [.int (nI n_5)]) (rest := []) B (r_draw G l Φ2 sz x rd nw fl pe le nx il qu kn ec nu va st ep ti ad (ob + 1) n_5 hx hI2 (show 1 ≤ n_5 by omega) (show n_5 ≤ 1024 by omega) hnw) (cwV 1 B.1.2.2.2.2 gX12_see_X12_draw rfl rfl rfl (by decide +kernel) ⟨Nat.le_of_ble_eq_true rfl, Nat.le_of_ble_eq_true rfl⟩) h_5 rfl rfl rfl rfl (Nat.le_of_ble_eq_true rfl) dX12_see_34 ⟨Nat.le_of_ble_eq_true rfl, Nat.le_of_ble_eq_true rfl⟩ (fun r_18 Φ20 sz4 st4 hp4 hs4 => ?_)
    obtain ⟨⟨v_40, rfl⟩, hq4, hI20, hF4⟩ := hp4
    subst sz4
    replace hs4 : st4 = [.int v_40] := hs4
    subst st4
    replace hI20 : Im G x (rd, nw, fl, pe, le, nx, il, qu, kn, ec, nu, va, st, ep, ti, ad, ob + 1) Φ20 := hI20
    refine z_if_eq (tgt := 42) B dX12_see_37 rfl (fun c_4 => ?_) (fun c_4 => ?_)
    · refine z_aload_n B dX12_see_42 rfl 0 rfl ?_
      refine z_dup B dX12_see_43 rfl ?_
      obtain ⟨v_41, v_42, n_16, v_43, v_44, v_45, v_46, v_47, v_48, v_49, n_17, v_50, n_18, n_19, h_40, b_55, b_43, b_44, b_45, b_46, b_47, b_48, b_49, b_50, b_51, b_52, b_53, b_54⟩ := im0 hI20
      replace b_43 : 1 ≤ n_16 := b_43
      replace b_44 : n_16 ≤ 1024 := b_44
      replace b_45 : fl ≤ 12 := b_45
      replace b_46 : pe ≤ 24 := b_46
      replace b_47 : le ≤ 700 := b_47
      replace b_48 : qu ≤ 12 := b_48
      replace b_49 : n_17 ≤ 8 := b_49
      replace b_50 : n_18 ≤ 24 := b_50
      replace b_51 : n_19 ≤ 24 := b_51
      replace b_52 : il ≤ 700 := b_52
      replace b_53 : nx ≤ 701 := b_53
      replace b_54 : st ≤ 701 := b_54
      have h_41 : Φ20 x = some (o_ 14 [.int v_41, .ref (x + 1), .ref (x + 2), .int ti, .int v_42, .int (nI n_16), .int v_43, .int ad, .ref (x + 3), .ref (x + 4), .int v_44, .long v_45, .ref (x + 5), .int (nI fl), .int v_46, .long (ob + 1), .long v_47, .long v_48, .long v_49, .ref (x + 6), .ref (x + 7), .int (nI pe), .ref (x + 8), .int (nI le), .ref (x + 9), .ref (x + 10), .int (nI qu), .ref (x + 11), .ref (x + 12), .ref (x + 13), .ref (x + 14), .ref (x + 15), .ref (x + 16), .int (nI n_17), .long v_50, .ref (x + 17), .ref (x + 18), .ref (x + 19), .ref (x + 20), .ref (x + 21), .ref (x + 22), .int (nI n_18), .ref (x + 23), .ref (x + 24), .int (nI n_19), .ref (x + 25), .int (nI il), .int (nI nx), .int ec, .int ep, .int kn, .int (nI st), .int nu, .long va]) := h_40
      refine z_get (ref := "FlowExporterModel") (C := RX12) (T := TX12) (N := 54) (ci := 14) (v := .long v_47) B hu_X12_see_X12 rfl 16 (Nat.le_of_ble_eq_true rfl) hv_X12_see_121 rfl h_41 rfl dX12_see_44 ?_
      refine z_lconst (v := 1) B dX12_see_47 rfl ?_
      refine z_ladd B dX12_see_48 ?_
      refine z_fl (fun v_51 => ?_)
      refine z_put (ref := "FlowExporterModel") (C := RX12) (T := TX12) (N := 54) (ci := 14) (v := .long v_51) B hu_X12_see_X12 tyX12 tyX12_ok nmX12 rfl 16 (Nat.le_of_ble_eq_true rfl) hv_X12_see_121 rfl (Or.inl rfl) h_41 hx rfl rfl (Nat.le_of_ble_eq_true rfl) dX12_see_49 (fun Φ21 hΦ17 => ?_)
      have h_42 : Φ21 x = some (o_ 14 [.int v_41, .ref (x + 1), .ref (x + 2), .int ti, .int v_42, .int (nI n_16), .int v_43, .int ad, .ref (x + 3), .ref (x + 4), .int v_44, .long v_45, .ref (x + 5), .int (nI fl), .int v_46, .long (ob + 1), .long v_51, .long v_48, .long v_49, .ref (x + 6), .ref (x + 7), .int (nI pe), .ref (x + 8), .int (nI le), .ref (x + 9), .ref (x + 10), .int (nI qu), .ref (x + 11), .ref (x + 12), .ref (x + 13), .ref (x + 14), .ref (x + 15), .ref (x + 16), .int (nI n_17), .long v_50, .ref (x + 17), .ref (x + 18), .ref (x + 19), .ref (x + 20), .ref (x + 21), .ref (x + 22), .int (nI n_18), .ref (x + 23), .ref (x + 24), .int (nI n_19), .ref (x + 25), .int (nI il), .int (nI nx), .int ec, .int ep, .int kn, .int (nI st), .int nu, .long va]) := fset_at hΦ17
      have hI21 : Im G x (rd, nw, fl, pe, le, nx, il, qu, kn, ec, nu, va, st, ep, ti, ad, ob + 1) Φ21 := Im.put0 hI20 hΦ17 ⟨v_41, v_42, n_16, v_43, v_44, v_45, v_46, v_51, v_48, v_49, n_17, v_50, n_18, n_19, rfl, b_55, b_43, b_44, b_45, b_46, b_47, b_48, b_49, b_50, b_51, b_52, b_53, b_54⟩
      refine z_aload_n B dX12_see_52 rfl 0 rfl ?_
      refine z_iload_n B dX12_see_53 rfl 1 rfl ?_
      refine z_iload_n B dX12_see_54 rfl 2 rfl ?_
      refine z_iload_n B dX12_see_55 rfl 3 rfl ?_
      refine z_iload B dX12_see_56 4 rfl ?_
      have h_43 : Φ21 (x + 5) = some (al_ G 96 fC) := ((fset_fr hΦ17 (ne_off (x := x) (i := 5) (j := 0) rfl)).trans ((hF4 (x + 5) fq_960).trans ((hF1 (x + 5) fq_954).trans ((fset_fr hΦ1 (ne_off (x := x) (i := 5) (j := 0) rfl)).trans hc0))))
      refine z_callV (As := [.int a, .int b, .int d, .int (nI g)]) (rest := []) B (r_flowOf G l Φ21 sz x rd nw fl pe le nx il qu kn ec nu va st ep ti ad (ob + 1) fC a b d (nI g) hx hI21 h_43 hnw) (cwV 4 B.1.2.2.2.2 gX12_see_X12_flowOf rfl rfl rfl (by decide +kernel) ⟨Nat.le_of_ble_eq_true rfl, Nat.le_of_ble_eq_true rfl⟩) h_42 rfl rfl rfl rfl (Nat.le_of_ble_eq_true rfl) dX12_see_58 ⟨Nat.le_of_ble_eq_true rfl, Nat.le_of_ble_eq_true rfl⟩ (fun r_19 Φ22 sz5 st5 hp5 hs5 => ?_)
      obtain ⟨ha2, hq5, hI22, hF5⟩ := hp5
      subst sz5
      replace hI22 : Im G x (rd, nw, fl, pe, le, nx, il, qu, kn, ec, nu, va, st, ep, ti, ad, ob + 1) Φ22 := hI22
      rcases ha2 with ⟨rfl, q_2⟩ | ⟨n_20, b_56, q_2, rfl⟩
      · replace hs5 : st5 = [.int (-1)] := hs5
        subst st5
        refine z_istore (lv' := [(6, .int (-1)), (0, .ref x), (1, .int a), (2, .int b), (3, .int d), (4, .int (nI g)), (5, .int e)]) B dX12_see_61 (Nat.le_of_ble_eq_true rfl) rfl ?_
        refine z_iload B dX12_see_63 0 rfl ?_
        refine z_iconst (v := (-1)) B dX12_see_65 rfl ?_
        refine z_icmp_ne (tgt := 174) B dX12_see_66 rfl (fun h9 => absurd (by decide) h9) (fun c_5 => ?_)
        have hk0 : pe = 0 := hk.resolve_right (fun h9 => q_2 h9.2)
        refine z_aload_n B dX12_see_69 rfl 1 rfl ?_
        have h_44 : Φ22 x = some (o_ 14 [.int v_41, .ref (x + 1), .ref (x + 2), .int ti, .int v_42, .int (nI n_16), .int v_43, .int ad, .ref (x + 3), .ref (x + 4), .int v_44, .long v_45, .ref (x + 5), .int (nI fl), .int v_46, .long (ob + 1), .long v_51, .long v_48, .long v_49, .ref (x + 6), .ref (x + 7), .int (nI pe), .ref (x + 8), .int (nI le), .ref (x + 9), .ref (x + 10), .int (nI qu), .ref (x + 11), .ref (x + 12), .ref (x + 13), .ref (x + 14), .ref (x + 15), .ref (x + 16), .int (nI n_17), .long v_50, .ref (x + 17), .ref (x + 18), .ref (x + 19), .ref (x + 20), .ref (x + 21), .ref (x + 22), .int (nI n_18), .ref (x + 23), .ref (x + 24), .int (nI n_19), .ref (x + 25), .int (nI il), .int (nI nx), .int ec, .int ep, .int kn, .int (nI st), .int nu, .long va]) := ((hF5 x (fun j9 h8 h7 => (show False from h7).elim)).trans h_42)
        refine z_callV (As := []) (rest := []) B (r_makeRoom G l Φ22 sz x rd nw fl pe le nx il qu kn ec nu va st ep ti ad (ob + 1)  hx hI22 (show pe < 24 by omega) hnw) (cwV 0 B.1.2.2.2.2 gX12_see_X12_makeRoom rfl rfl rfl (by decide +kernel) ⟨Nat.le_of_ble_eq_true rfl, Nat.le_of_ble_eq_true rfl⟩) h_44 rfl rfl rfl rfl (Nat.le_of_ble_eq_true rfl) dX12_see_70 ⟨Nat.le_of_ble_eq_true rfl, Nat.le_of_ble_eq_true rfl⟩ (fun r_20 Φ23 sz6 st6 hp6 hs6 => ?_)
        obtain ⟨rfl, hq6, ⟨n_21, n_22, b_57, b_58, hI23⟩, hF6⟩ := hp6
        subst sz6
        replace hs6 : st6 = [] := hs6
        subst st6
        replace hI23 : Im G x (rd, nw, n_21, n_22, le, nx, il, qu, kn, ec, nu, va, st, ep, ti, ad, ob + 1) Φ23 := hI23
        replace b_57 : n_21 ≤ 11 := b_57
        replace b_58 : n_22 ≤ pe + 1 := b_58
        refine z_aload_n B dX12_see_73 rfl 1 rfl ?_
        obtain ⟨v_52, v_53, n_23, v_54, v_55, v_56, v_57, v_58, v_59, v_60, n_24, v_61, n_25, n_26, h_45, b_71, b_59, b_60, b_61, b_62, b_63, b_64, b_65, b_66, b_67, b_68, b_69, b_70⟩ := im0 hI23
        replace b_59 : 1 ≤ n_23 := b_59
        replace b_60 : n_23 ≤ 1024 := b_60
        replace b_61 : n_21 ≤ 12 := b_61
        replace b_62 : n_22 ≤ 24 := b_62
        replace b_63 : le ≤ 700 := b_63
        replace b_64 : qu ≤ 12 := b_64
        replace b_65 : n_24 ≤ 8 := b_65
        replace b_66 : n_25 ≤ 24 := b_66
        replace b_67 : n_26 ≤ 24 := b_67
        replace b_68 : il ≤ 700 := b_68
        replace b_69 : nx ≤ 701 := b_69
        replace b_70 : st ≤ 701 := b_70
        have h_46 : Φ23 x = some (o_ 14 [.int v_52, .ref (x + 1), .ref (x + 2), .int ti, .int v_53, .int (nI n_23), .int v_54, .int ad, .ref (x + 3), .ref (x + 4), .int v_55, .long v_56, .ref (x + 5), .int (nI n_21), .int v_57, .long (ob + 1), .long v_58, .long v_59, .long v_60, .ref (x + 6), .ref (x + 7), .int (nI n_22), .ref (x + 8), .int (nI le), .ref (x + 9), .ref (x + 10), .int (nI qu), .ref (x + 11), .ref (x + 12), .ref (x + 13), .ref (x + 14), .ref (x + 15), .ref (x + 16), .int (nI n_24), .long v_61, .ref (x + 17), .ref (x + 18), .ref (x + 19), .ref (x + 20), .ref (x + 21), .ref (x + 22), .int (nI n_25), .ref (x + 23), .ref (x + 24), .int (nI n_26), .ref (x + 25), .int (nI il), .int (nI nx), .int ec, .int ep, .int kn, .int (nI st), .int nu, .long va]) := h_45
        refine z_get (ref := "FlowExporterModel") (C := RX12) (T := TX12) (N := 54) (ci := 14) (v := .int (nI n_21)) B hu_X12_see_X12 rfl 13 (Nat.le_of_ble_eq_true rfl) hv_X12_see_133 rfl h_46 rfl dX12_see_74 ?_
        refine z_istore (lv' := [(6, .int (nI n_21)), (0, .ref x), (1, .int a), (2, .int b), (3, .int d), (4, .int (nI g)), (5, .int e)]) B dX12_see_77 (Nat.le_of_ble_eq_true rfl) rfl ?_
        refine z_aload_n B dX12_see_79 rfl 1 rfl ?_
        refine z_dup B dX12_see_80 rfl ?_
        refine z_get (ref := "FlowExporterModel") (C := RX12) (T := TX12) (N := 54) (ci := 14) (v := .int (nI n_21)) B hu_X12_see_X12 rfl 13 (Nat.le_of_ble_eq_true rfl) hv_X12_see_133 rfl h_46 rfl dX12_see_81 ?_
        refine z_iconst (v := 1) B dX12_see_84 rfl ?_
        refine z_iadd B dX12_see_85 ?_
        refine z_top (st1 := [.int (nI (n_21 + 1)), .ref x]) (congrArg (fun w9 : Int32 => ([.int w9, .ref x] : List Value)) (nI_add n_21 1)) ?_
        refine z_put (ref := "FlowExporterModel") (C := RX12) (T := TX12) (N := 54) (ci := 14) (v := .int (nI (n_21 + 1))) B hu_X12_see_X12 tyX12 tyX12_ok nmX12 rfl 13 (Nat.le_of_ble_eq_true rfl) hv_X12_see_133 rfl (Or.inl rfl) h_46 hx rfl rfl (Nat.le_of_ble_eq_true rfl) dX12_see_86 (fun Φ24 hΦ18 => ?_)
        have h_47 : Φ24 x = some (o_ 14 [.int v_52, .ref (x + 1), .ref (x + 2), .int ti, .int v_53, .int (nI n_23), .int v_54, .int ad, .ref (x + 3), .ref (x + 4), .int v_55, .long v_56, .ref (x + 5), .int (nI (n_21 + 1)), .int v_57, .long (ob + 1), .long v_58, .long v_59, .long v_60, .ref (x + 6), .ref (x + 7), .int (nI n_22), .ref (x + 8), .int (nI le), .ref (x + 9), .ref (x + 10), .int (nI qu), .ref (x + 11), .ref (x + 12), .ref (x + 13), .ref (x + 14), .ref (x + 15), .ref (x + 16), .int (nI n_24), .long v_61, .ref (x + 17), .ref (x + 18), .ref (x + 19), .ref (x + 20), .ref (x + 21), .ref (x + 22), .int (nI n_25), .ref (x + 23), .ref (x + 24), .int (nI n_26), .ref (x + 25), .int (nI il), .int (nI nx), .int ec, .int ep, .int kn, .int (nI st), .int nu, .long va]) := fset_at hΦ18
        have hI24 : Im G x (rd, nw, n_21 + 1, n_22, le, nx, il, qu, kn, ec, nu, va, st, ep, ti, ad, ob + 1) Φ24 := Im.put0 hI23 hΦ18 ⟨v_52, v_53, n_23, v_54, v_55, v_56, v_57, v_58, v_59, v_60, n_24, v_61, n_25, n_26, rfl, b_71, b_59, b_60, (show (n_21 + 1) ≤ 12 by omega), b_62, b_63, b_64, b_65, b_66, b_67, b_68, b_69, b_70⟩
        refine z_bipush (v := 8) B dX12_see_89 rfl ?_
        refine z_iload B dX12_see_91 0 rfl ?_
        refine z_imul B dX12_see_93 ?_
        refine z_top (st1 := [.int (nI (8 * n_21))]) (congrArg (fun w9 : Int32 => ([.int w9] : List Value)) (nI_mul 8 n_21)) ?_
        refine z_istore (lv' := [(7, .int (nI (8 * n_21))), (6, .int (nI n_21)), (0, .ref x), (1, .int a), (2, .int b), (3, .int d), (4, .int (nI g)), (5, .int e)]) B dX12_see_94 (Nat.le_of_ble_eq_true rfl) rfl ?_
        refine z_aload_n B dX12_see_96 rfl 2 rfl ?_
        refine z_get (ref := "FlowExporterModel") (C := RX12) (T := TX12) (N := 54) (ci := 14) (v := .ref (x + 5)) B hu_X12_see_X12 rfl 12 (Nat.le_of_ble_eq_true rfl) hv_X12_see_26 rfl h_47 rfl dX12_see_97 ?_
        refine z_iload B dX12_see_100 0 rfl ?_
        refine z_iload_n B dX12_see_102 rfl 3 rfl ?_
        refine z_i2l (v := a.toInt64) B dX12_see_103 rfl ?_
        obtain ⟨f_2, h_48, r_21⟩ := imk (k := 5) hI24
        replace r_21 : CC f_2 := r_21
        have h_49 : Φ24 (x + 5) = some (al_ G 96 f_2) := h_48
        refine z_last B h_49 (Nat.le_trans hx (Nat.le_add_right x 5)) (vp_in_nI (by omega) (by omega)) dX12_see_104 (fun Φ25 hΦ19 => ?_)
        have h_50 : Φ25 (x + 5) = some (al_ G 96 (vp_updL f_2 (nI (8 * n_21)).toNatClampNeg a.toInt64)) := fset_at hΦ19
        have hI25 : Im G x (rd, nw, n_21 + 1, n_22, le, nx, il, qu, kn, ec, nu, va, st, ep, ti, ad, ob + 1) Φ25 := Im.put (k := 5) hI24 hΦ19 ⟨_, rfl, CC.up r_21 (by rw [nI_clamp (by omega)]; omega)⟩
        have r_22 : CC (vp_updL f_2 (nI (8 * n_21)).toNatClampNeg a.toInt64) := CC.up r_21 (by rw [nI_clamp (by omega)]; omega)
        refine z_aload_n B dX12_see_105 rfl 2 rfl ?_
        have h_51 : Φ25 x = some (o_ 14 [.int v_52, .ref (x + 1), .ref (x + 2), .int ti, .int v_53, .int (nI n_23), .int v_54, .int ad, .ref (x + 3), .ref (x + 4), .int v_55, .long v_56, .ref (x + 5), .int (nI (n_21 + 1)), .int v_57, .long (ob + 1), .long v_58, .long v_59, .long v_60, .ref (x + 6), .ref (x + 7), .int (nI n_22), .ref (x + 8), .int (nI le), .ref (x + 9), .ref (x + 10), .int (nI qu), .ref (x + 11), .ref (x + 12), .ref (x + 13), .ref (x + 14), .ref (x + 15), .ref (x + 16), .int (nI n_24), .long v_61, .ref (x + 17), .ref (x + 18), .ref (x + 19), .ref (x + 20), .ref (x + 21), .ref (x + 22), .int (nI n_25), .ref (x + 23), .ref (x + 24), .int (nI n_26), .ref (x + 25), .int (nI il), .int (nI nx), .int ec, .int ep, .int kn, .int (nI st), .int nu, .long va]) := ((fset_fr hΦ19 (ne_off (x := x) (i := 0) (j := 5) rfl)).trans h_47)
        refine z_get (ref := "FlowExporterModel") (C := RX12) (T := TX12) (N := 54) (ci := 14) (v := .ref (x + 5)) B hu_X12_see_X12 rfl 12 (Nat.le_of_ble_eq_true rfl) hv_X12_see_26 rfl h_51 rfl dX12_see_106 ?_
        refine z_iload B dX12_see_109 0 rfl ?_
        refine z_iconst (v := 1) B dX12_see_111 rfl ?_
        refine z_iadd B dX12_see_112 ?_
        refine z_top (st1 := [.int (nI (8 * n_21 + 1)), .ref (x + 5)]) (congrArg (fun w9 : Int32 => ([.int w9, .ref (x + 5)] : List Value)) (nI_add (8 * n_21) 1)) ?_
        refine z_iload_n B dX12_see_113 rfl 4 rfl ?_
        refine z_i2l (v := b.toInt64) B dX12_see_114 rfl ?_
        refine z_last B h_50 (Nat.le_trans hx (Nat.le_add_right x 5)) (vp_in_nI (by omega) (by omega)) dX12_see_115 (fun Φ26 hΦ20 => ?_)
        have h_52 : Φ26 (x + 5) = some (al_ G 96 (vp_updL (vp_updL f_2 (nI (8 * n_21)).toNatClampNeg a.toInt64) (nI (8 * n_21 + 1)).toNatClampNeg b.toInt64)) := fset_at hΦ20
        have hI26 : Im G x (rd, nw, n_21 + 1, n_22, le, nx, il, qu, kn, ec, nu, va, st, ep, ti, ad, ob + 1) Φ26 := Im.put (k := 5) hI25 hΦ20 ⟨_, rfl, CC.up r_22 (by rw [nI_clamp (by omega)]; omega)⟩
        have r_23 : CC (vp_updL (vp_updL f_2 (nI (8 * n_21)).toNatClampNeg a.toInt64) (nI (8 * n_21 + 1)).toNatClampNeg b.toInt64) := CC.up r_22 (by rw [nI_clamp (by omega)]; omega)
        refine z_aload_n B dX12_see_116 rfl 2 rfl ?_
        have h_53 : Φ26 x = some (o_ 14 [.int v_52, .ref (x + 1), .ref (x + 2), .int ti, .int v_53, .int (nI n_23), .int v_54, .int ad, .ref (x + 3), .ref (x + 4), .int v_55, .long v_56, .ref (x + 5), .int (nI (n_21 + 1)), .int v_57, .long (ob + 1), .long v_58, .long v_59, .long v_60, .ref (x + 6), .ref (x + 7), .int (nI n_22), .ref (x + 8), .int (nI le), .ref (x + 9), .ref (x + 10), .int (nI qu), .ref (x + 11), .ref (x + 12), .ref (x + 13), .ref (x + 14), .ref (x + 15), .ref (x + 16), .int (nI n_24), .long v_61, .ref (x + 17), .ref (x + 18), .ref (x + 19), .ref (x + 20), .ref (x + 21), .ref (x + 22), .int (nI n_25), .ref (x + 23), .ref (x + 24), .int (nI n_26), .ref (x + 25), .int (nI il), .int (nI nx), .int ec, .int ep, .int kn, .int (nI st), .int nu, .long va]) := ((fset_fr hΦ20 (ne_off (x := x) (i := 0) (j := 5) rfl)).trans h_51)
        refine z_get (ref := "FlowExporterModel") (C := RX12) (T := TX12) (N := 54) (ci := 14) (v := .ref (x + 5)) B hu_X12_see_X12 rfl 12 (Nat.le_of_ble_eq_true rfl) hv_X12_see_26 rfl h_53 rfl dX12_see_117 ?_
        refine z_iload B dX12_see_120 0 rfl ?_
        refine z_iconst (v := 2) B dX12_see_122 rfl ?_
        refine z_iadd B dX12_see_123 ?_
        refine z_top (st1 := [.int (nI (8 * n_21 + 2)), .ref (x + 5)]) (congrArg (fun w9 : Int32 => ([.int w9, .ref (x + 5)] : List Value)) (nI_add (8 * n_21) 2)) ?_
        refine z_iload_n B dX12_see_124 rfl 5 rfl ?_
        refine z_i2l (v := d.toInt64) B dX12_see_125 rfl ?_
        refine z_last B h_52 (Nat.le_trans hx (Nat.le_add_right x 5)) (vp_in_nI (by omega) (by omega)) dX12_see_126 (fun Φ27 hΦ21 => ?_)
        have h_54 : Φ27 (x + 5) = some (al_ G 96 (vp_updL (vp_updL (vp_updL f_2 (nI (8 * n_21)).toNatClampNeg a.toInt64) (nI (8 * n_21 + 1)).toNatClampNeg b.toInt64) (nI (8 * n_21 + 2)).toNatClampNeg d.toInt64)) := fset_at hΦ21
        have hI27 : Im G x (rd, nw, n_21 + 1, n_22, le, nx, il, qu, kn, ec, nu, va, st, ep, ti, ad, ob + 1) Φ27 := Im.put (k := 5) hI26 hΦ21 ⟨_, rfl, CC.up r_23 (by rw [nI_clamp (by omega)]; omega)⟩
        have r_24 : CC (vp_updL (vp_updL (vp_updL f_2 (nI (8 * n_21)).toNatClampNeg a.toInt64) (nI (8 * n_21 + 1)).toNatClampNeg b.toInt64) (nI (8 * n_21 + 2)).toNatClampNeg d.toInt64) := CC.up r_23 (by rw [nI_clamp (by omega)]; omega)
        refine z_aload_n B dX12_see_127 rfl 2 rfl ?_
        have h_55 : Φ27 x = some (o_ 14 [.int v_52, .ref (x + 1), .ref (x + 2), .int ti, .int v_53, .int (nI n_23), .int v_54, .int ad, .ref (x + 3), .ref (x + 4), .int v_55, .long v_56, .ref (x + 5), .int (nI (n_21 + 1)), .int v_57, .long (ob + 1), .long v_58, .long v_59, .long v_60, .ref (x + 6), .ref (x + 7), .int (nI n_22), .ref (x + 8), .int (nI le), .ref (x + 9), .ref (x + 10), .int (nI qu), .ref (x + 11), .ref (x + 12), .ref (x + 13), .ref (x + 14), .ref (x + 15), .ref (x + 16), .int (nI n_24), .long v_61, .ref (x + 17), .ref (x + 18), .ref (x + 19), .ref (x + 20), .ref (x + 21), .ref (x + 22), .int (nI n_25), .ref (x + 23), .ref (x + 24), .int (nI n_26), .ref (x + 25), .int (nI il), .int (nI nx), .int ec, .int ep, .int kn, .int (nI st), .int nu, .long va]) := ((fset_fr hΦ21 (ne_off (x := x) (i := 0) (j := 5) rfl)).trans h_53)
        refine z_get (ref := "FlowExporterModel") (C := RX12) (T := TX12) (N := 54) (ci := 14) (v := .ref (x + 5)) B hu_X12_see_X12 rfl 12 (Nat.le_of_ble_eq_true rfl) hv_X12_see_26 rfl h_55 rfl dX12_see_128 ?_
        refine z_iload B dX12_see_131 0 rfl ?_
        refine z_iconst (v := 3) B dX12_see_133 rfl ?_
        refine z_iadd B dX12_see_134 ?_
        refine z_top (st1 := [.int (nI (8 * n_21 + 3)), .ref (x + 5)]) (congrArg (fun w9 : Int32 => ([.int w9, .ref (x + 5)] : List Value)) (nI_add (8 * n_21) 3)) ?_
        refine z_iload B dX12_see_135 6 rfl ?_
        refine z_i2l (v := (nI g).toInt64) B dX12_see_137 rfl ?_
        refine z_last B h_54 (Nat.le_trans hx (Nat.le_add_right x 5)) (vp_in_nI (by omega) (by omega)) dX12_see_138 (fun Φ28 hΦ22 => ?_)
        have h_56 : Φ28 (x + 5) = some (al_ G 96 (vp_updL (vp_updL (vp_updL (vp_updL f_2 (nI (8 * n_21)).toNatClampNeg a.toInt64) (nI (8 * n_21 + 1)).toNatClampNeg b.toInt64) (nI (8 * n_21 + 2)).toNatClampNeg d.toInt64) (nI (8 * n_21 + 3)).toNatClampNeg ((nI g).toInt64))) := fset_at hΦ22
        have hI28 : Im G x (rd, nw, n_21 + 1, n_22, le, nx, il, qu, kn, ec, nu, va, st, ep, ti, ad, ob + 1) Φ28 := Im.put (k := 5) hI27 hΦ22 ⟨_, rfl, CC.up3 (n := g) r_24 (by omega) (toL (by omega))⟩
        have r_25 : CC (vp_updL (vp_updL (vp_updL (vp_updL f_2 (nI (8 * n_21)).toNatClampNeg a.toInt64) (nI (8 * n_21 + 1)).toNatClampNeg b.toInt64) (nI (8 * n_21 + 2)).toNatClampNeg d.toInt64) (nI (8 * n_21 + 3)).toNatClampNeg ((nI g).toInt64)) := CC.up3 (n := g) r_24 (by omega) (toL (by omega))
        refine z_aload_n B dX12_see_139 rfl 2 rfl ?_
        have h_57 : Φ28 x = some (o_ 14 [.int v_52, .ref (x + 1), .ref (x + 2), .int ti, .int v_53, .int (nI n_23), .int v_54, .int ad, .ref (x + 3), .ref (x + 4), .int v_55, .long v_56, .ref (x + 5), .int (nI (n_21 + 1)), .int v_57, .long (ob + 1), .long v_58, .long v_59, .long v_60, .ref (x + 6), .ref (x + 7), .int (nI n_22), .ref (x + 8), .int (nI le), .ref (x + 9), .ref (x + 10), .int (nI qu), .ref (x + 11), .ref (x + 12), .ref (x + 13), .ref (x + 14), .ref (x + 15), .ref (x + 16), .int (nI n_24), .long v_61, .ref (x + 17), .ref (x + 18), .ref (x + 19), .ref (x + 20), .ref (x + 21), .ref (x + 22), .int (nI n_25), .ref (x + 23), .ref (x + 24), .int (nI n_26), .ref (x + 25), .int (nI il), .int (nI nx), .int ec, .int ep, .int kn, .int (nI st), .int nu, .long va]) := ((fset_fr hΦ22 (ne_off (x := x) (i := 0) (j := 5) rfl)).trans h_55)
        refine z_get (ref := "FlowExporterModel") (C := RX12) (T := TX12) (N := 54) (ci := 14) (v := .ref (x + 5)) B hu_X12_see_X12 rfl 12 (Nat.le_of_ble_eq_true rfl) hv_X12_see_26 rfl h_57 rfl dX12_see_140 ?_
        refine z_iload B dX12_see_143 0 rfl ?_
        refine z_iconst (v := 4) B dX12_see_145 rfl ?_
        refine z_iadd B dX12_see_146 ?_
        refine z_top (st1 := [.int (nI (8 * n_21 + 4)), .ref (x + 5)]) (congrArg (fun w9 : Int32 => ([.int w9, .ref (x + 5)] : List Value)) (nI_add (8 * n_21) 4)) ?_
        refine z_lconst (v := 0) B dX12_see_147 rfl ?_
        refine z_last B h_56 (Nat.le_trans hx (Nat.le_add_right x 5)) (vp_in_nI (by omega) (by omega)) dX12_see_148 (fun Φ29 hΦ23 => ?_)
        have h_58 : Φ29 (x + 5) = some (al_ G 96 (vp_updL (vp_updL (vp_updL (vp_updL (vp_updL f_2 (nI (8 * n_21)).toNatClampNeg a.toInt64) (nI (8 * n_21 + 1)).toNatClampNeg b.toInt64) (nI (8 * n_21 + 2)).toNatClampNeg d.toInt64) (nI (8 * n_21 + 3)).toNatClampNeg ((nI g).toInt64)) (nI (8 * n_21 + 4)).toNatClampNeg 0)) := fset_at hΦ23
        have hI29 : Im G x (rd, nw, n_21 + 1, n_22, le, nx, il, qu, kn, ec, nu, va, st, ep, ti, ad, ob + 1) Φ29 := Im.put (k := 5) hI28 hΦ23 ⟨_, rfl, CC.up r_25 (by rw [nI_clamp (by omega)]; omega)⟩
        have r_26 : CC (vp_updL (vp_updL (vp_updL (vp_updL (vp_updL f_2 (nI (8 * n_21)).toNatClampNeg a.toInt64) (nI (8 * n_21 + 1)).toNatClampNeg b.toInt64) (nI (8 * n_21 + 2)).toNatClampNeg d.toInt64) (nI (8 * n_21 + 3)).toNatClampNeg ((nI g).toInt64)) (nI (8 * n_21 + 4)).toNatClampNeg 0) := CC.up r_25 (by rw [nI_clamp (by omega)]; omega)
        refine z_aload_n B dX12_see_149 rfl 2 rfl ?_
        have h_59 : Φ29 x = some (o_ 14 [.int v_52, .ref (x + 1), .ref (x + 2), .int ti, .int v_53, .int (nI n_23), .int v_54, .int ad, .ref (x + 3), .ref (x + 4), .int v_55, .long v_56, .ref (x + 5), .int (nI (n_21 + 1)), .int v_57, .long (ob + 1), .long v_58, .long v_59, .long v_60, .ref (x + 6), .ref (x + 7), .int (nI n_22), .ref (x + 8), .int (nI le), .ref (x + 9), .ref (x + 10), .int (nI qu), .ref (x + 11), .ref (x + 12), .ref (x + 13), .ref (x + 14), .ref (x + 15), .ref (x + 16), .int (nI n_24), .long v_61, .ref (x + 17), .ref (x + 18), .ref (x + 19), .ref (x + 20), .ref (x + 21), .ref (x + 22), .int (nI n_25), .ref (x + 23), .ref (x + 24), .int (nI n_26), .ref (x + 25), .int (nI il), .int (nI nx), .int ec, .int ep, .int kn, .int (nI st), .int nu, .long va]) := ((fset_fr hΦ23 (ne_off (x := x) (i := 0) (j := 5) rfl)).trans h_57)
        refine z_get (ref := "FlowExporterModel") (C := RX12) (T := TX12) (N := 54) (ci := 14) (v := .ref (x + 5)) B hu_X12_see_X12 rfl 12 (Nat.le_of_ble_eq_true rfl) hv_X12_see_26 rfl h_59 rfl dX12_see_150 ?_
        refine z_iload B dX12_see_153 0 rfl ?_
        refine z_iconst (v := 5) B dX12_see_155 rfl ?_
        refine z_iadd B dX12_see_156 ?_
        refine z_top (st1 := [.int (nI (8 * n_21 + 5)), .ref (x + 5)]) (congrArg (fun w9 : Int32 => ([.int w9, .ref (x + 5)] : List Value)) (nI_add (8 * n_21) 5)) ?_
        refine z_lconst (v := 0) B dX12_see_157 rfl ?_
        refine z_last B h_58 (Nat.le_trans hx (Nat.le_add_right x 5)) (vp_in_nI (by omega) (by omega)) dX12_see_158 (fun Φ30 hΦ24 => ?_)
        have h_60 : Φ30 (x + 5) = some (al_ G 96 (vp_updL (vp_updL (vp_updL (vp_updL (vp_updL (vp_updL f_2 (nI (8 * n_21)).toNatClampNeg a.toInt64) (nI (8 * n_21 + 1)).toNatClampNeg b.toInt64) (nI (8 * n_21 + 2)).toNatClampNeg d.toInt64) (nI (8 * n_21 + 3)).toNatClampNeg ((nI g).toInt64)) (nI (8 * n_21 + 4)).toNatClampNeg 0) (nI (8 * n_21 + 5)).toNatClampNeg 0)) := fset_at hΦ24
        have hI30 : Im G x (rd, nw, n_21 + 1, n_22, le, nx, il, qu, kn, ec, nu, va, st, ep, ti, ad, ob + 1) Φ30 := Im.put (k := 5) hI29 hΦ24 ⟨_, rfl, CC.up r_26 (by rw [nI_clamp (by omega)]; omega)⟩
        have r_27 : CC (vp_updL (vp_updL (vp_updL (vp_updL (vp_updL (vp_updL f_2 (nI (8 * n_21)).toNatClampNeg a.toInt64) (nI (8 * n_21 + 1)).toNatClampNeg b.toInt64) (nI (8 * n_21 + 2)).toNatClampNeg d.toInt64) (nI (8 * n_21 + 3)).toNatClampNeg ((nI g).toInt64)) (nI (8 * n_21 + 4)).toNatClampNeg 0) (nI (8 * n_21 + 5)).toNatClampNeg 0) := CC.up r_26 (by rw [nI_clamp (by omega)]; omega)
        refine z_aload_n B dX12_see_159 rfl 2 rfl ?_
        have h_61 : Φ30 x = some (o_ 14 [.int v_52, .ref (x + 1), .ref (x + 2), .int ti, .int v_53, .int (nI n_23), .int v_54, .int ad, .ref (x + 3), .ref (x + 4), .int v_55, .long v_56, .ref (x + 5), .int (nI (n_21 + 1)), .int v_57, .long (ob + 1), .long v_58, .long v_59, .long v_60, .ref (x + 6), .ref (x + 7), .int (nI n_22), .ref (x + 8), .int (nI le), .ref (x + 9), .ref (x + 10), .int (nI qu), .ref (x + 11), .ref (x + 12), .ref (x + 13), .ref (x + 14), .ref (x + 15), .ref (x + 16), .int (nI n_24), .long v_61, .ref (x + 17), .ref (x + 18), .ref (x + 19), .ref (x + 20), .ref (x + 21), .ref (x + 22), .int (nI n_25), .ref (x + 23), .ref (x + 24), .int (nI n_26), .ref (x + 25), .int (nI il), .int (nI nx), .int ec, .int ep, .int kn, .int (nI st), .int nu, .long va]) := ((fset_fr hΦ24 (ne_off (x := x) (i := 0) (j := 5) rfl)).trans h_59)
        refine z_get (ref := "FlowExporterModel") (C := RX12) (T := TX12) (N := 54) (ci := 14) (v := .ref (x + 5)) B hu_X12_see_X12 rfl 12 (Nat.le_of_ble_eq_true rfl) hv_X12_see_26 rfl h_61 rfl dX12_see_160 ?_
        refine z_iload B dX12_see_163 0 rfl ?_
        refine z_bipush (v := 6) B dX12_see_165 rfl ?_
        refine z_iadd B dX12_see_167 ?_
        refine z_top (st1 := [.int (nI (8 * n_21 + 6)), .ref (x + 5)]) (congrArg (fun w9 : Int32 => ([.int w9, .ref (x + 5)] : List Value)) (nI_add (8 * n_21) 6)) ?_
        refine z_aload_n B dX12_see_168 rfl 2 rfl ?_
        refine z_get (ref := "FlowExporterModel") (C := RX12) (T := TX12) (N := 54) (ci := 14) (v := .int ti) B hu_X12_see_X12 rfl 3 (Nat.le_of_ble_eq_true rfl) hv_X12_see_101 rfl h_61 rfl dX12_see_169 ?_
        refine z_i2l (v := ti.toInt64) B dX12_see_172 rfl ?_
        refine z_last B h_60 (Nat.le_trans hx (Nat.le_add_right x 5)) (vp_in_nI (by omega) (by omega)) dX12_see_173 (fun Φ31 hΦ25 => ?_)
        have h_62 : Φ31 (x + 5) = some (al_ G 96 (vp_updL (vp_updL (vp_updL (vp_updL (vp_updL (vp_updL (vp_updL f_2 (nI (8 * n_21)).toNatClampNeg a.toInt64) (nI (8 * n_21 + 1)).toNatClampNeg b.toInt64) (nI (8 * n_21 + 2)).toNatClampNeg d.toInt64) (nI (8 * n_21 + 3)).toNatClampNeg ((nI g).toInt64)) (nI (8 * n_21 + 4)).toNatClampNeg 0) (nI (8 * n_21 + 5)).toNatClampNeg 0) (nI (8 * n_21 + 6)).toNatClampNeg ti.toInt64)) := fset_at hΦ25
        have hI31 : Im G x (rd, nw, n_21 + 1, n_22, le, nx, il, qu, kn, ec, nu, va, st, ep, ti, ad, ob + 1) Φ31 := Im.put (k := 5) hI30 hΦ25 ⟨_, rfl, CC.up r_27 (by rw [nI_clamp (by omega)]; omega)⟩
        have r_28 : CC (vp_updL (vp_updL (vp_updL (vp_updL (vp_updL (vp_updL (vp_updL f_2 (nI (8 * n_21)).toNatClampNeg a.toInt64) (nI (8 * n_21 + 1)).toNatClampNeg b.toInt64) (nI (8 * n_21 + 2)).toNatClampNeg d.toInt64) (nI (8 * n_21 + 3)).toNatClampNeg ((nI g).toInt64)) (nI (8 * n_21 + 4)).toNatClampNeg 0) (nI (8 * n_21 + 5)).toNatClampNeg 0) (nI (8 * n_21 + 6)).toNatClampNeg ti.toInt64) := CC.up r_27 (by rw [nI_clamp (by omega)]; omega)
        refine z_aload_n B dX12_see_174 rfl 2 rfl ?_
        have h_63 : Φ31 x = some (o_ 14 [.int v_52, .ref (x + 1), .ref (x + 2), .int ti, .int v_53, .int (nI n_23), .int v_54, .int ad, .ref (x + 3), .ref (x + 4), .int v_55, .long v_56, .ref (x + 5), .int (nI (n_21 + 1)), .int v_57, .long (ob + 1), .long v_58, .long v_59, .long v_60, .ref (x + 6), .ref (x + 7), .int (nI n_22), .ref (x + 8), .int (nI le), .ref (x + 9), .ref (x + 10), .int (nI qu), .ref (x + 11), .ref (x + 12), .ref (x + 13), .ref (x + 14), .ref (x + 15), .ref (x + 16), .int (nI n_24), .long v_61, .ref (x + 17), .ref (x + 18), .ref (x + 19), .ref (x + 20), .ref (x + 21), .ref (x + 22), .int (nI n_25), .ref (x + 23), .ref (x + 24), .int (nI n_26), .ref (x + 25), .int (nI il), .int (nI nx), .int ec, .int ep, .int kn, .int (nI st), .int nu, .long va]) := ((fset_fr hΦ25 (ne_off (x := x) (i := 0) (j := 5) rfl)).trans h_61)
        refine z_get (ref := "FlowExporterModel") (C := RX12) (T := TX12) (N := 54) (ci := 14) (v := .ref (x + 5)) B hu_X12_see_X12 rfl 12 (Nat.le_of_ble_eq_true rfl) hv_X12_see_26 rfl h_63 rfl dX12_see_175 ?_
        refine z_bipush (v := 8) B dX12_see_178 rfl ?_
        refine z_iload B dX12_see_180 1 rfl ?_
        refine z_imul B dX12_see_182 ?_
        refine z_top (st1 := [.int (nI (8 * n_21)), .ref (x + 5)]) (congrArg (fun w9 : Int32 => ([.int w9, .ref (x + 5)] : List Value)) (nI_mul 8 n_21)) ?_
        refine z_iconst (v := 4) B dX12_see_183 rfl ?_
        refine z_iadd B dX12_see_184 ?_
        refine z_top (st1 := [.int (nI (8 * n_21 + 4)), .ref (x + 5)]) (congrArg (fun w9 : Int32 => ([.int w9, .ref (x + 5)] : List Value)) (nI_add (8 * n_21) 4)) ?_
        refine z_dup2_11 B dX12_see_185 rfl rfl ?_
        refine z_lald B h_62 (vp_in_nI (by omega) (by omega)) dX12_see_186 ?_
        refine z_fl (fun v_62 => ?_)
        refine z_lconst (v := 1) B dX12_see_187 rfl ?_
        refine z_ladd B dX12_see_188 ?_
        refine z_fl (fun v_63 => ?_)
        refine z_last B h_62 (Nat.le_trans hx (Nat.le_add_right x 5)) (vp_in_nI (by omega) (by omega)) dX12_see_189 (fun Φ32 hΦ26 => ?_)
        have h_64 : Φ32 (x + 5) = some (al_ G 96 (vp_updL (vp_updL (vp_updL (vp_updL (vp_updL (vp_updL (vp_updL (vp_updL f_2 (nI (8 * n_21)).toNatClampNeg a.toInt64) (nI (8 * n_21 + 1)).toNatClampNeg b.toInt64) (nI (8 * n_21 + 2)).toNatClampNeg d.toInt64) (nI (8 * n_21 + 3)).toNatClampNeg ((nI g).toInt64)) (nI (8 * n_21 + 4)).toNatClampNeg 0) (nI (8 * n_21 + 5)).toNatClampNeg 0) (nI (8 * n_21 + 6)).toNatClampNeg ti.toInt64) (nI (8 * n_21 + 4)).toNatClampNeg v_63)) := fset_at hΦ26
        have hI32 : Im G x (rd, nw, n_21 + 1, n_22, le, nx, il, qu, kn, ec, nu, va, st, ep, ti, ad, ob + 1) Φ32 := Im.put (k := 5) hI31 hΦ26 ⟨_, rfl, CC.up r_28 (by rw [nI_clamp (by omega)]; omega)⟩
        have r_29 : CC (vp_updL (vp_updL (vp_updL (vp_updL (vp_updL (vp_updL (vp_updL (vp_updL f_2 (nI (8 * n_21)).toNatClampNeg a.toInt64) (nI (8 * n_21 + 1)).toNatClampNeg b.toInt64) (nI (8 * n_21 + 2)).toNatClampNeg d.toInt64) (nI (8 * n_21 + 3)).toNatClampNeg ((nI g).toInt64)) (nI (8 * n_21 + 4)).toNatClampNeg 0) (nI (8 * n_21 + 5)).toNatClampNeg 0) (nI (8 * n_21 + 6)).toNatClampNeg ti.toInt64) (nI (8 * n_21 + 4)).toNatClampNeg v_63) := CC.up r_28 (by rw [nI_clamp (by omega)]; omega)
        refine z_aload_n B dX12_see_190 rfl 2 rfl ?_
        have h_65 : Φ32 x = some (o_ 14 [.int v_52, .ref (x + 1), .ref (x + 2), .int ti, .int v_53, .int (nI n_23), .int v_54, .int ad, .ref (x + 3), .ref (x + 4), .int v_55, .long v_56, .ref (x + 5), .int (nI (n_21 + 1)), .int v_57, .long (ob + 1), .long v_58, .long v_59, .long v_60, .ref (x + 6), .ref (x + 7), .int (nI n_22), .ref (x + 8), .int (nI le), .ref (x + 9), .ref (x + 10), .int (nI qu), .ref (x + 11), .ref (x + 12), .ref (x + 13), .ref (x + 14), .ref (x + 15), .ref (x + 16), .int (nI n_24), .long v_61, .ref (x + 17), .ref (x + 18), .ref (x + 19), .ref (x + 20), .ref (x + 21), .ref (x + 22), .int (nI n_25), .ref (x + 23), .ref (x + 24), .int (nI n_26), .ref (x + 25), .int (nI il), .int (nI nx), .int ec, .int ep, .int kn, .int (nI st), .int nu, .long va]) := ((fset_fr hΦ26 (ne_off (x := x) (i := 0) (j := 5) rfl)).trans h_63)
        refine z_get (ref := "FlowExporterModel") (C := RX12) (T := TX12) (N := 54) (ci := 14) (v := .ref (x + 5)) B hu_X12_see_X12 rfl 12 (Nat.le_of_ble_eq_true rfl) hv_X12_see_26 rfl h_65 rfl dX12_see_191 ?_
        refine z_bipush (v := 8) B dX12_see_194 rfl ?_
        refine z_iload B dX12_see_196 1 rfl ?_
        refine z_imul B dX12_see_198 ?_
        refine z_top (st1 := [.int (nI (8 * n_21)), .ref (x + 5)]) (congrArg (fun w9 : Int32 => ([.int w9, .ref (x + 5)] : List Value)) (nI_mul 8 n_21)) ?_
        refine z_iconst (v := 5) B dX12_see_199 rfl ?_
        refine z_iadd B dX12_see_200 ?_
        refine z_top (st1 := [.int (nI (8 * n_21 + 5)), .ref (x + 5)]) (congrArg (fun w9 : Int32 => ([.int w9, .ref (x + 5)] : List Value)) (nI_add (8 * n_21) 5)) ?_
        refine z_dup2_11 B dX12_see_201 rfl rfl ?_
        refine z_lald B h_64 (vp_in_nI (by omega) (by omega)) dX12_see_202 ?_
        refine z_fl (fun v_64 => ?_)
        refine z_iload B dX12_see_203 7 rfl ?_
        refine z_i2l (v := e.toInt64) B dX12_see_205 rfl ?_
        refine z_ladd B dX12_see_206 ?_
        refine z_fl (fun v_65 => ?_)
        refine z_last B h_64 (Nat.le_trans hx (Nat.le_add_right x 5)) (vp_in_nI (by omega) (by omega)) dX12_see_207 (fun Φ33 hΦ27 => ?_)
        have h_66 : Φ33 (x + 5) = some (al_ G 96 (vp_updL (vp_updL (vp_updL (vp_updL (vp_updL (vp_updL (vp_updL (vp_updL (vp_updL f_2 (nI (8 * n_21)).toNatClampNeg a.toInt64) (nI (8 * n_21 + 1)).toNatClampNeg b.toInt64) (nI (8 * n_21 + 2)).toNatClampNeg d.toInt64) (nI (8 * n_21 + 3)).toNatClampNeg ((nI g).toInt64)) (nI (8 * n_21 + 4)).toNatClampNeg 0) (nI (8 * n_21 + 5)).toNatClampNeg 0) (nI (8 * n_21 + 6)).toNatClampNeg ti.toInt64) (nI (8 * n_21 + 4)).toNatClampNeg v_63) (nI (8 * n_21 + 5)).toNatClampNeg v_65)) := fset_at hΦ27
        have hI33 : Im G x (rd, nw, n_21 + 1, n_22, le, nx, il, qu, kn, ec, nu, va, st, ep, ti, ad, ob + 1) Φ33 := Im.put (k := 5) hI32 hΦ27 ⟨_, rfl, CC.up r_29 (by rw [nI_clamp (by omega)]; omega)⟩
        have r_30 : CC (vp_updL (vp_updL (vp_updL (vp_updL (vp_updL (vp_updL (vp_updL (vp_updL (vp_updL f_2 (nI (8 * n_21)).toNatClampNeg a.toInt64) (nI (8 * n_21 + 1)).toNatClampNeg b.toInt64) (nI (8 * n_21 + 2)).toNatClampNeg d.toInt64) (nI (8 * n_21 + 3)).toNatClampNeg ((nI g).toInt64)) (nI (8 * n_21 + 4)).toNatClampNeg 0) (nI (8 * n_21 + 5)).toNatClampNeg 0) (nI (8 * n_21 + 6)).toNatClampNeg ti.toInt64) (nI (8 * n_21 + 4)).toNatClampNeg v_63) (nI (8 * n_21 + 5)).toNatClampNeg v_65) := CC.up r_29 (by rw [nI_clamp (by omega)]; omega)
        refine z_aload_n B dX12_see_208 rfl 2 rfl ?_
        have h_67 : Φ33 x = some (o_ 14 [.int v_52, .ref (x + 1), .ref (x + 2), .int ti, .int v_53, .int (nI n_23), .int v_54, .int ad, .ref (x + 3), .ref (x + 4), .int v_55, .long v_56, .ref (x + 5), .int (nI (n_21 + 1)), .int v_57, .long (ob + 1), .long v_58, .long v_59, .long v_60, .ref (x + 6), .ref (x + 7), .int (nI n_22), .ref (x + 8), .int (nI le), .ref (x + 9), .ref (x + 10), .int (nI qu), .ref (x + 11), .ref (x + 12), .ref (x + 13), .ref (x + 14), .ref (x + 15), .ref (x + 16), .int (nI n_24), .long v_61, .ref (x + 17), .ref (x + 18), .ref (x + 19), .ref (x + 20), .ref (x + 21), .ref (x + 22), .int (nI n_25), .ref (x + 23), .ref (x + 24), .int (nI n_26), .ref (x + 25), .int (nI il), .int (nI nx), .int ec, .int ep, .int kn, .int (nI st), .int nu, .long va]) := ((fset_fr hΦ27 (ne_off (x := x) (i := 0) (j := 5) rfl)).trans h_65)
        refine z_get (ref := "FlowExporterModel") (C := RX12) (T := TX12) (N := 54) (ci := 14) (v := .ref (x + 5)) B hu_X12_see_X12 rfl 12 (Nat.le_of_ble_eq_true rfl) hv_X12_see_26 rfl h_67 rfl dX12_see_209 ?_
        refine z_bipush (v := 8) B dX12_see_212 rfl ?_
        refine z_iload B dX12_see_214 1 rfl ?_
        refine z_imul B dX12_see_216 ?_
        refine z_top (st1 := [.int (nI (8 * n_21)), .ref (x + 5)]) (congrArg (fun w9 : Int32 => ([.int w9, .ref (x + 5)] : List Value)) (nI_mul 8 n_21)) ?_
        refine z_bipush (v := 7) B dX12_see_217 rfl ?_
        refine z_iadd B dX12_see_219 ?_
        refine z_top (st1 := [.int (nI (8 * n_21 + 7)), .ref (x + 5)]) (congrArg (fun w9 : Int32 => ([.int w9, .ref (x + 5)] : List Value)) (nI_add (8 * n_21) 7)) ?_
        refine z_aload_n B dX12_see_220 rfl 2 rfl ?_
        refine z_get (ref := "FlowExporterModel") (C := RX12) (T := TX12) (N := 54) (ci := 14) (v := .int ti) B hu_X12_see_X12 rfl 3 (Nat.le_of_ble_eq_true rfl) hv_X12_see_101 rfl h_67 rfl dX12_see_221 ?_
        refine z_i2l (v := ti.toInt64) B dX12_see_224 rfl ?_
        refine z_last B h_66 (Nat.le_trans hx (Nat.le_add_right x 5)) (vp_in_nI (by omega) (by omega)) dX12_see_225 (fun Φ34 hΦ28 => ?_)
        have h_68 : Φ34 (x + 5) = some (al_ G 96 (vp_updL (vp_updL (vp_updL (vp_updL (vp_updL (vp_updL (vp_updL (vp_updL (vp_updL (vp_updL f_2 (nI (8 * n_21)).toNatClampNeg a.toInt64) (nI (8 * n_21 + 1)).toNatClampNeg b.toInt64) (nI (8 * n_21 + 2)).toNatClampNeg d.toInt64) (nI (8 * n_21 + 3)).toNatClampNeg ((nI g).toInt64)) (nI (8 * n_21 + 4)).toNatClampNeg 0) (nI (8 * n_21 + 5)).toNatClampNeg 0) (nI (8 * n_21 + 6)).toNatClampNeg ti.toInt64) (nI (8 * n_21 + 4)).toNatClampNeg v_63) (nI (8 * n_21 + 5)).toNatClampNeg v_65) (nI (8 * n_21 + 7)).toNatClampNeg ti.toInt64)) := fset_at hΦ28
        have hI34 : Im G x (rd, nw, n_21 + 1, n_22, le, nx, il, qu, kn, ec, nu, va, st, ep, ti, ad, ob + 1) Φ34 := Im.put (k := 5) hI33 hΦ28 ⟨_, rfl, CC.up r_30 (by rw [nI_clamp (by omega)]; omega)⟩
        have r_31 : CC (vp_updL (vp_updL (vp_updL (vp_updL (vp_updL (vp_updL (vp_updL (vp_updL (vp_updL (vp_updL f_2 (nI (8 * n_21)).toNatClampNeg a.toInt64) (nI (8 * n_21 + 1)).toNatClampNeg b.toInt64) (nI (8 * n_21 + 2)).toNatClampNeg d.toInt64) (nI (8 * n_21 + 3)).toNatClampNeg ((nI g).toInt64)) (nI (8 * n_21 + 4)).toNatClampNeg 0) (nI (8 * n_21 + 5)).toNatClampNeg 0) (nI (8 * n_21 + 6)).toNatClampNeg ti.toInt64) (nI (8 * n_21 + 4)).toNatClampNeg v_63) (nI (8 * n_21 + 5)).toNatClampNeg v_65) (nI (8 * n_21 + 7)).toNatClampNeg ti.toInt64) := CC.up r_30 (by rw [nI_clamp (by omega)]; omega)
        refine z_iconst (v := 1) B dX12_see_226 rfl ?_
        exact z_ret_z B dX12_see_227 (by decide) ⟨⟨_, rfl, by decide⟩, rfl, ⟨n_21 + 1, n_22, (Or.inr ⟨(show n_22 ≤ 1 by omega), fun fC1 h8 => Eq.subst (motive := fun z9 => InC z9 (n_21 + 1) a b d (nI g)) (al_inj (h_68.symm.trans h8)) ⟨n_21, (show n_21 < n_21 + 1 by omega), (rK.up (rK.up (rK.up (rK.up (rK.up (rK.up (rK.new (n := n_21) (by rw [nI_clamp (by omega)]) (by rw [nI_clamp (by omega)]) (by rw [nI_clamp (by omega)]) (by rw [nI_clamp (by omega)])) (Or.inl (by rw [nI_clamp (by omega)]; omega))) (Or.inl (by rw [nI_clamp (by omega)]; omega))) (Or.inl (by rw [nI_clamp (by omega)]; omega))) (Or.inl (by rw [nI_clamp (by omega)]; omega))) (Or.inl (by rw [nI_clamp (by omega)]; omega))) (Or.inl (by rw [nI_clamp (by omega)]; omega)))⟩⟩), hI34⟩, (fun b9 h9 => ((fset_fr hΦ28 (fun h8 => h9 (5) h8 (show 5 = 0 ∨ 5 = 5 ∨ 5 = 6 ∨ 5 = 7 ∨ 5 = 23 ∨ 5 = 24 by decide))).trans ((fset_fr hΦ27 (fun h8 => h9 (5) h8 (show 5 = 0 ∨ 5 = 5 ∨ 5 = 6 ∨ 5 = 7 ∨ 5 = 23 ∨ 5 = 24 by decide))).trans ((fset_fr hΦ26 (fun h8 => h9 (5) h8 (show 5 = 0 ∨ 5 = 5 ∨ 5 = 6 ∨ 5 = 7 ∨ 5 = 23 ∨ 5 = 24 by decide))).trans ((fset_fr hΦ25 (fun h8 => h9 (5) h8 (show 5 = 0 ∨ 5 = 5 ∨ 5 = 6 ∨ 5 = 7 ∨ 5 = 23 ∨ 5 = 24 by decide))).trans ((fset_fr hΦ24 (fun h8 => h9 (5) h8 (show 5 = 0 ∨ 5 = 5 ∨ 5 = 6 ∨ 5 = 7 ∨ 5 = 23 ∨ 5 = 24 by decide))).trans ((fset_fr hΦ23 (fun h8 => h9 (5) h8 (show 5 = 0 ∨ 5 = 5 ∨ 5 = 6 ∨ 5 = 7 ∨ 5 = 23 ∨ 5 = 24 by decide))).trans ((fset_fr hΦ22 (fun h8 => h9 (5) h8 (show 5 = 0 ∨ 5 = 5 ∨ 5 = 6 ∨ 5 = 7 ∨ 5 = 23 ∨ 5 = 24 by decide))).trans ((fset_fr hΦ21 (fun h8 => h9 (5) h8 (show 5 = 0 ∨ 5 = 5 ∨ 5 = 6 ∨ 5 = 7 ∨ 5 = 23 ∨ 5 = 24 by decide))).trans ((fset_fr hΦ20 (fun h8 => h9 (5) h8 (show 5 = 0 ∨ 5 = 5 ∨ 5 = 6 ∨ 5 = 7 ∨ 5 = 23 ∨ 5 = 24 by decide))).trans ((fset_fr hΦ19 (fun h8 => h9 (5) h8 (show 5 = 0 ∨ 5 = 5 ∨ 5 = 6 ∨ 5 = 7 ∨ 5 = 23 ∨ 5 = 24 by decide))).trans ((fset_fr hΦ18 (fun h8 => h9 (0) h8 (show 0 = 0 ∨ 0 = 5 ∨ 0 = 6 ∨ 0 = 7 ∨ 0 = 23 ∨ 0 = 24 by decide))).trans ((hF6 b9 (fun j9 h8 h7 => h9 j9 h8 (fq_959 j9 h7))).trans ((hF5 b9 (fun j9 h8 h7 => (show False from h7).elim)).trans ((fset_fr hΦ17 (fun h8 => h9 (0) h8 (show 0 = 0 ∨ 0 = 5 ∨ 0 = 6 ∨ 0 = 7 ∨ 0 = 23 ∨ 0 = 24 by decide))).trans ((hF4 b9 (fun j9 h8 h7 => h9 j9 h8 (fq_961 j9 h7))).trans ((hF1 b9 (fun j9 h8 h7 => h9 j9 h8 (fq_958 j9 h7))).trans ((fset_fr hΦ1 (fun h8 => h9 (0) h8 (show 0 = 0 ∨ 0 = 5 ∨ 0 = 6 ∨ 0 = 7 ∨ 0 = 23 ∨ 0 = 24 by decide))).trans rfl))))))))))))))))))⟩
      · replace hs5 : st5 = [.int (nI n_20)] := hs5
        subst st5
        replace b_56 : n_20 < fl := b_56
        replace q_2 : rK fC n_20 a b d (nI g) := q_2
        refine z_istore (lv' := [(6, .int (nI n_20)), (0, .ref x), (1, .int a), (2, .int b), (3, .int d), (4, .int (nI g)), (5, .int e)]) B dX12_see_61 (Nat.le_of_ble_eq_true rfl) rfl ?_
        refine z_iload B dX12_see_63 0 rfl ?_
        refine z_iconst (v := (-1)) B dX12_see_65 rfl ?_
        refine z_icmp_ne (tgt := 174) B dX12_see_66 rfl (fun c_6 => ?_) (fun h9 => absurd h9 (nI_nm1 (n := n_20) (by omega)))
        refine z_aload_n B dX12_see_174 rfl 1 rfl ?_
        have h_69 : Φ22 x = some (o_ 14 [.int v_41, .ref (x + 1), .ref (x + 2), .int ti, .int v_42, .int (nI n_16), .int v_43, .int ad, .ref (x + 3), .ref (x + 4), .int v_44, .long v_45, .ref (x + 5), .int (nI fl), .int v_46, .long (ob + 1), .long v_51, .long v_48, .long v_49, .ref (x + 6), .ref (x + 7), .int (nI pe), .ref (x + 8), .int (nI le), .ref (x + 9), .ref (x + 10), .int (nI qu), .ref (x + 11), .ref (x + 12), .ref (x + 13), .ref (x + 14), .ref (x + 15), .ref (x + 16), .int (nI n_17), .long v_50, .ref (x + 17), .ref (x + 18), .ref (x + 19), .ref (x + 20), .ref (x + 21), .ref (x + 22), .int (nI n_18), .ref (x + 23), .ref (x + 24), .int (nI n_19), .ref (x + 25), .int (nI il), .int (nI nx), .int ec, .int ep, .int kn, .int (nI st), .int nu, .long va]) := ((hF5 x (fun j9 h8 h7 => (show False from h7).elim)).trans h_42)
        refine z_get (ref := "FlowExporterModel") (C := RX12) (T := TX12) (N := 54) (ci := 14) (v := .ref (x + 5)) B hu_X12_see_X12 rfl 12 (Nat.le_of_ble_eq_true rfl) hv_X12_see_26 rfl h_69 rfl dX12_see_175 ?_
        refine z_bipush (v := 8) B dX12_see_178 rfl ?_
        refine z_iload B dX12_see_180 0 rfl ?_
        refine z_imul B dX12_see_182 ?_
        refine z_top (st1 := [.int (nI (8 * n_20)), .ref (x + 5)]) (congrArg (fun w9 : Int32 => ([.int w9, .ref (x + 5)] : List Value)) (nI_mul 8 n_20)) ?_
        refine z_iconst (v := 4) B dX12_see_183 rfl ?_
        refine z_iadd B dX12_see_184 ?_
        refine z_top (st1 := [.int (nI (8 * n_20 + 4)), .ref (x + 5)]) (congrArg (fun w9 : Int32 => ([.int w9, .ref (x + 5)] : List Value)) (nI_add (8 * n_20) 4)) ?_
        refine z_dup2_11 B dX12_see_185 rfl rfl ?_
        have h_70 : Φ22 (x + 5) = some (al_ G 96 fC) := ((hF5 (x + 5) (fun j9 h8 h7 => (show False from h7).elim)).trans h_43)
        refine z_lald B h_70 (vp_in_nI (by omega) (by omega)) dX12_see_186 ?_
        refine z_fl (fun v_66 => ?_)
        refine z_lconst (v := 1) B dX12_see_187 rfl ?_
        refine z_ladd B dX12_see_188 ?_
        refine z_fl (fun v_67 => ?_)
        refine z_last B h_70 (Nat.le_trans hx (Nat.le_add_right x 5)) (vp_in_nI (by omega) (by omega)) dX12_see_189 (fun Φ35 hΦ29 => ?_)
        have h_71 : Φ35 (x + 5) = some (al_ G 96 (vp_updL fC (nI (8 * n_20 + 4)).toNatClampNeg v_67)) := fset_at hΦ29
        have hI35 : Im G x (rd, nw, fl, pe, le, nx, il, qu, kn, ec, nu, va, st, ep, ti, ad, ob + 1) Φ35 := Im.put (k := 5) hI22 hΦ29 ⟨_, rfl, CC.up hC (by rw [nI_clamp (by omega)]; omega)⟩
        have r_32 : CC (vp_updL fC (nI (8 * n_20 + 4)).toNatClampNeg v_67) := CC.up hC (by rw [nI_clamp (by omega)]; omega)
        refine z_aload_n B dX12_see_190 rfl 1 rfl ?_
        have h_72 : Φ35 x = some (o_ 14 [.int v_41, .ref (x + 1), .ref (x + 2), .int ti, .int v_42, .int (nI n_16), .int v_43, .int ad, .ref (x + 3), .ref (x + 4), .int v_44, .long v_45, .ref (x + 5), .int (nI fl), .int v_46, .long (ob + 1), .long v_51, .long v_48, .long v_49, .ref (x + 6), .ref (x + 7), .int (nI pe), .ref (x + 8), .int (nI le), .ref (x + 9), .ref (x + 10), .int (nI qu), .ref (x + 11), .ref (x + 12), .ref (x + 13), .ref (x + 14), .ref (x + 15), .ref (x + 16), .int (nI n_17), .long v_50, .ref (x + 17), .ref (x + 18), .ref (x + 19), .ref (x + 20), .ref (x + 21), .ref (x + 22), .int (nI n_18), .ref (x + 23), .ref (x + 24), .int (nI n_19), .ref (x + 25), .int (nI il), .int (nI nx), .int ec, .int ep, .int kn, .int (nI st), .int nu, .long va]) := ((fset_fr hΦ29 (ne_off (x := x) (i := 0) (j := 5) rfl)).trans h_69)
        refine z_get (ref := "FlowExporterModel") (C := RX12) (T := TX12) (N := 54) (ci := 14) (v := .ref (x + 5)) B hu_X12_see_X12 rfl 12 (Nat.le_of_ble_eq_true rfl) hv_X12_see_26 rfl h_72 rfl dX12_see_191 ?_
        refine z_bipush (v := 8) B dX12_see_194 rfl ?_
        refine z_iload B dX12_see_196 0 rfl ?_
        refine z_imul B dX12_see_198 ?_
        refine z_top (st1 := [.int (nI (8 * n_20)), .ref (x + 5)]) (congrArg (fun w9 : Int32 => ([.int w9, .ref (x + 5)] : List Value)) (nI_mul 8 n_20)) ?_
        refine z_iconst (v := 5) B dX12_see_199 rfl ?_
        refine z_iadd B dX12_see_200 ?_
        refine z_top (st1 := [.int (nI (8 * n_20 + 5)), .ref (x + 5)]) (congrArg (fun w9 : Int32 => ([.int w9, .ref (x + 5)] : List Value)) (nI_add (8 * n_20) 5)) ?_
        refine z_dup2_11 B dX12_see_201 rfl rfl ?_
        refine z_lald B h_71 (vp_in_nI (by omega) (by omega)) dX12_see_202 ?_
        refine z_fl (fun v_68 => ?_)
        refine z_iload B dX12_see_203 6 rfl ?_
        refine z_i2l (v := e.toInt64) B dX12_see_205 rfl ?_
        refine z_ladd B dX12_see_206 ?_
        refine z_fl (fun v_69 => ?_)
        refine z_last B h_71 (Nat.le_trans hx (Nat.le_add_right x 5)) (vp_in_nI (by omega) (by omega)) dX12_see_207 (fun Φ36 hΦ30 => ?_)
        have h_73 : Φ36 (x + 5) = some (al_ G 96 (vp_updL (vp_updL fC (nI (8 * n_20 + 4)).toNatClampNeg v_67) (nI (8 * n_20 + 5)).toNatClampNeg v_69)) := fset_at hΦ30
        have hI36 : Im G x (rd, nw, fl, pe, le, nx, il, qu, kn, ec, nu, va, st, ep, ti, ad, ob + 1) Φ36 := Im.put (k := 5) hI35 hΦ30 ⟨_, rfl, CC.up r_32 (by rw [nI_clamp (by omega)]; omega)⟩
        have r_33 : CC (vp_updL (vp_updL fC (nI (8 * n_20 + 4)).toNatClampNeg v_67) (nI (8 * n_20 + 5)).toNatClampNeg v_69) := CC.up r_32 (by rw [nI_clamp (by omega)]; omega)
        refine z_aload_n B dX12_see_208 rfl 1 rfl ?_
        have h_74 : Φ36 x = some (o_ 14 [.int v_41, .ref (x + 1), .ref (x + 2), .int ti, .int v_42, .int (nI n_16), .int v_43, .int ad, .ref (x + 3), .ref (x + 4), .int v_44, .long v_45, .ref (x + 5), .int (nI fl), .int v_46, .long (ob + 1), .long v_51, .long v_48, .long v_49, .ref (x + 6), .ref (x + 7), .int (nI pe), .ref (x + 8), .int (nI le), .ref (x + 9), .ref (x + 10), .int (nI qu), .ref (x + 11), .ref (x + 12), .ref (x + 13), .ref (x + 14), .ref (x + 15), .ref (x + 16), .int (nI n_17), .long v_50, .ref (x + 17), .ref (x + 18), .ref (x + 19), .ref (x + 20), .ref (x + 21), .ref (x + 22), .int (nI n_18), .ref (x + 23), .ref (x + 24), .int (nI n_19), .ref (x + 25), .int (nI il), .int (nI nx), .int ec, .int ep, .int kn, .int (nI st), .int nu, .long va]) := ((fset_fr hΦ30 (ne_off (x := x) (i := 0) (j := 5) rfl)).trans h_72)
        refine z_get (ref := "FlowExporterModel") (C := RX12) (T := TX12) (N := 54) (ci := 14) (v := .ref (x + 5)) B hu_X12_see_X12 rfl 12 (Nat.le_of_ble_eq_true rfl) hv_X12_see_26 rfl h_74 rfl dX12_see_209 ?_
        refine z_bipush (v := 8) B dX12_see_212 rfl ?_
        refine z_iload B dX12_see_214 0 rfl ?_
        refine z_imul B dX12_see_216 ?_
        refine z_top (st1 := [.int (nI (8 * n_20)), .ref (x + 5)]) (congrArg (fun w9 : Int32 => ([.int w9, .ref (x + 5)] : List Value)) (nI_mul 8 n_20)) ?_
        refine z_bipush (v := 7) B dX12_see_217 rfl ?_
        refine z_iadd B dX12_see_219 ?_
        refine z_top (st1 := [.int (nI (8 * n_20 + 7)), .ref (x + 5)]) (congrArg (fun w9 : Int32 => ([.int w9, .ref (x + 5)] : List Value)) (nI_add (8 * n_20) 7)) ?_
        refine z_aload_n B dX12_see_220 rfl 1 rfl ?_
        refine z_get (ref := "FlowExporterModel") (C := RX12) (T := TX12) (N := 54) (ci := 14) (v := .int ti) B hu_X12_see_X12 rfl 3 (Nat.le_of_ble_eq_true rfl) hv_X12_see_101 rfl h_74 rfl dX12_see_221 ?_
        refine z_i2l (v := ti.toInt64) B dX12_see_224 rfl ?_
        refine z_last B h_73 (Nat.le_trans hx (Nat.le_add_right x 5)) (vp_in_nI (by omega) (by omega)) dX12_see_225 (fun Φ37 hΦ31 => ?_)
        have h_75 : Φ37 (x + 5) = some (al_ G 96 (vp_updL (vp_updL (vp_updL fC (nI (8 * n_20 + 4)).toNatClampNeg v_67) (nI (8 * n_20 + 5)).toNatClampNeg v_69) (nI (8 * n_20 + 7)).toNatClampNeg ti.toInt64)) := fset_at hΦ31
        have hI37 : Im G x (rd, nw, fl, pe, le, nx, il, qu, kn, ec, nu, va, st, ep, ti, ad, ob + 1) Φ37 := Im.put (k := 5) hI36 hΦ31 ⟨_, rfl, CC.up r_33 (by rw [nI_clamp (by omega)]; omega)⟩
        have r_34 : CC (vp_updL (vp_updL (vp_updL fC (nI (8 * n_20 + 4)).toNatClampNeg v_67) (nI (8 * n_20 + 5)).toNatClampNeg v_69) (nI (8 * n_20 + 7)).toNatClampNeg ti.toInt64) := CC.up r_33 (by rw [nI_clamp (by omega)]; omega)
        refine z_iconst (v := 1) B dX12_see_226 rfl ?_
        exact z_ret_z B dX12_see_227 (by decide) ⟨⟨_, rfl, by decide⟩, rfl, ⟨fl, pe, (Or.inr ⟨(show pe ≤ 1 by omega), fun fC1 h8 => Eq.subst (motive := fun z9 => InC z9 fl a b d (nI g)) (al_inj (h_75.symm.trans h8)) ⟨n_20, (show n_20 < fl by omega), (rK.up (rK.up (rK.up q_2 (Or.inl (by rw [nI_clamp (by omega)]; omega))) (Or.inl (by rw [nI_clamp (by omega)]; omega))) (Or.inl (by rw [nI_clamp (by omega)]; omega)))⟩⟩), hI37⟩, (fun b9 h9 => ((fset_fr hΦ31 (fun h8 => h9 (5) h8 (show 5 = 0 ∨ 5 = 5 ∨ 5 = 6 ∨ 5 = 7 ∨ 5 = 23 ∨ 5 = 24 by decide))).trans ((fset_fr hΦ30 (fun h8 => h9 (5) h8 (show 5 = 0 ∨ 5 = 5 ∨ 5 = 6 ∨ 5 = 7 ∨ 5 = 23 ∨ 5 = 24 by decide))).trans ((fset_fr hΦ29 (fun h8 => h9 (5) h8 (show 5 = 0 ∨ 5 = 5 ∨ 5 = 6 ∨ 5 = 7 ∨ 5 = 23 ∨ 5 = 24 by decide))).trans ((hF5 b9 (fun j9 h8 h7 => (show False from h7).elim)).trans ((fset_fr hΦ17 (fun h8 => h9 (0) h8 (show 0 = 0 ∨ 0 = 5 ∨ 0 = 6 ∨ 0 = 7 ∨ 0 = 23 ∨ 0 = 24 by decide))).trans ((hF4 b9 (fun j9 h8 h7 => h9 j9 h8 (fq_961 j9 h7))).trans ((hF1 b9 (fun j9 h8 h7 => h9 j9 h8 (fq_958 j9 h7))).trans ((fset_fr hΦ1 (fun h8 => h9 (0) h8 (show 0 = 0 ∨ 0 = 5 ∨ 0 = 6 ∨ 0 = 7 ∨ 0 = 23 ∨ 0 = 24 by decide))).trans rfl)))))))))⟩
    · refine z_iconst (v := 0) B dX12_see_40 rfl ?_
      have h_76 : Φ20 (x + 5) = some (al_ G 96 fC) := ((hF4 (x + 5) fq_960).trans ((hF1 (x + 5) fq_954).trans ((fset_fr hΦ1 (ne_off (x := x) (i := 5) (j := 0) rfl)).trans hc0)))
      exact z_ret_z B dX12_see_41 (by decide) ⟨⟨_, rfl, by decide⟩, rfl, ⟨fl, pe, (Or.imp id (fun h9 => ⟨h9.1, fun fC1 h8 => Eq.subst (motive := fun z9 => InC z9 fl a b d (nI g)) (al_inj (h_76.symm.trans h8)) h9.2⟩) hk), hI20⟩, (fun b9 h9 => ((hF4 b9 (fun j9 h8 h7 => h9 j9 h8 (fq_961 j9 h7))).trans ((hF1 b9 (fun j9 h8 h7 => h9 j9 h8 (fq_958 j9 h7))).trans ((fset_fr hΦ1 (fun h8 => h9 (0) h8 (show 0 = 0 ∨ 0 = 5 ∨ 0 = 6 ∨ 0 = 7 ∨ 0 = 23 ∨ 0 = 24 by decide))).trans rfl))))⟩

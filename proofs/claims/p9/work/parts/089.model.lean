set_option maxRecDepth 20000 in
theorem ggX12_fieldHere_X12_pack : GoodIn wsX12_fieldHere wsX12_pack := (goodIn_r _ [8, 9, 10] rfl (by decide +kernel))
set_option maxRecDepth 20000 in
theorem gX12_fieldHere_X12_pack : GoodIn wsX12_fieldHere (va_wsS RX12 495 yX12_pack wsX12_pack) := goodIn_app (goodIn_m (mem_cA (List.mem_cons_of_mem _ (List.mem_append_left _ (List.mem_of_getElem? (i := 4) rfl))) (mem_cA (List.mem_cons_of_mem _ (List.mem_append_left _ (List.mem_of_getElem? (i := 5) rfl))) (mem_cA (List.mem_cons_of_mem _ (List.mem_append_left _ (List.mem_of_getElem? (i := 6) rfl))) mem_cZ))) (by decide +kernel)) ggX12_fieldHere_X12_pack
theorem dX12_fieldHere_0 : decode cX12_fieldHere 0 = .ok (.aload_n 0, 1) := by decide +kernel
theorem dX12_fieldHere_1 : decode cX12_fieldHere 1 = .ok (.getfield 476, 3) := by decide +kernel
theorem dX12_fieldHere_4 : decode cX12_fieldHere 4 = .ok (.iconst 1, 1) := by decide +kernel
theorem dX12_fieldHere_5 : decode cX12_fieldHere 5 = .ok (.if_icmp .eq 5, 3) := by decide +kernel
theorem dX12_fieldHere_8 : decode cX12_fieldHere 8 = .ok (.iconst (-1), 1) := by decide +kernel
theorem dX12_fieldHere_9 : decode cX12_fieldHere 9 = .ok (.ireturn, 1) := by decide +kernel
theorem dX12_fieldHere_10 : decode cX12_fieldHere 10 = .ok (.aload_n 0, 1) := by decide +kernel
theorem dX12_fieldHere_11 : decode cX12_fieldHere 11 = .ok (.getfield 467, 3) := by decide +kernel
theorem dX12_fieldHere_14 : decode cX12_fieldHere 14 = .ok (.bipush 115, 2) := by decide +kernel
theorem dX12_fieldHere_16 : decode cX12_fieldHere 16 = .ok (.bipush 111, 2) := by decide +kernel
theorem dX12_fieldHere_18 : decode cX12_fieldHere 18 = .ok (.bipush 117, 2) := by decide +kernel
theorem dX12_fieldHere_20 : decode cX12_fieldHere 20 = .ok (.bipush 114, 2) := by decide +kernel
theorem dX12_fieldHere_22 : decode cX12_fieldHere 22 = .ok (.bipush 99, 2) := by decide +kernel
theorem dX12_fieldHere_24 : decode cX12_fieldHere 24 = .ok (.bipush 101, 2) := by decide +kernel
theorem dX12_fieldHere_26 : decode cX12_fieldHere 26 = .ok (.invokestatic 495, 3) := by decide +kernel
theorem dX12_fieldHere_29 : decode cX12_fieldHere 29 = .ok (.lcmp, 1) := by decide +kernel
theorem dX12_fieldHere_30 : decode cX12_fieldHere 30 = .ok (.ifCond .ne 5, 3) := by decide +kernel
theorem dX12_fieldHere_33 : decode cX12_fieldHere 33 = .ok (.iconst 0, 1) := by decide +kernel
theorem dX12_fieldHere_34 : decode cX12_fieldHere 34 = .ok (.ireturn, 1) := by decide +kernel
theorem dX12_fieldHere_35 : decode cX12_fieldHere 35 = .ok (.aload_n 0, 1) := by decide +kernel
theorem dX12_fieldHere_36 : decode cX12_fieldHere 36 = .ok (.getfield 467, 3) := by decide +kernel
theorem dX12_fieldHere_39 : decode cX12_fieldHere 39 = .ok (.bipush 100, 2) := by decide +kernel
theorem dX12_fieldHere_41 : decode cX12_fieldHere 41 = .ok (.bipush 101, 2) := by decide +kernel
theorem dX12_fieldHere_43 : decode cX12_fieldHere 43 = .ok (.bipush 115, 2) := by decide +kernel
theorem dX12_fieldHere_45 : decode cX12_fieldHere 45 = .ok (.bipush 116, 2) := by decide +kernel
theorem dX12_fieldHere_47 : decode cX12_fieldHere 47 = .ok (.bipush 105, 2) := by decide +kernel
theorem dX12_fieldHere_49 : decode cX12_fieldHere 49 = .ok (.bipush 110, 2) := by decide +kernel
theorem dX12_fieldHere_51 : decode cX12_fieldHere 51 = .ok (.invokestatic 495, 3) := by decide +kernel
theorem dX12_fieldHere_54 : decode cX12_fieldHere 54 = .ok (.ldc2_w 499, 3) := by decide +kernel
theorem dX12_fieldHere_57 : decode cX12_fieldHere 57 = .ok (.lmul, 1) := by decide +kernel
theorem dX12_fieldHere_58 : decode cX12_fieldHere 58 = .ok (.bipush 97, 2) := by decide +kernel
theorem dX12_fieldHere_60 : decode cX12_fieldHere 60 = .ok (.bipush 116, 2) := by decide +kernel
theorem dX12_fieldHere_62 : decode cX12_fieldHere 62 = .ok (.bipush 105, 2) := by decide +kernel
theorem dX12_fieldHere_64 : decode cX12_fieldHere 64 = .ok (.bipush 111, 2) := by decide +kernel
theorem dX12_fieldHere_66 : decode cX12_fieldHere 66 = .ok (.bipush 110, 2) := by decide +kernel
theorem dX12_fieldHere_68 : decode cX12_fieldHere 68 = .ok (.iconst 0, 1) := by decide +kernel
theorem dX12_fieldHere_69 : decode cX12_fieldHere 69 = .ok (.invokestatic 495, 3) := by decide +kernel
theorem dX12_fieldHere_72 : decode cX12_fieldHere 72 = .ok (.ladd, 1) := by decide +kernel
theorem dX12_fieldHere_73 : decode cX12_fieldHere 73 = .ok (.lcmp, 1) := by decide +kernel
theorem dX12_fieldHere_74 : decode cX12_fieldHere 74 = .ok (.ifCond .ne 5, 3) := by decide +kernel
theorem dX12_fieldHere_77 : decode cX12_fieldHere 77 = .ok (.iconst 1, 1) := by decide +kernel
theorem dX12_fieldHere_78 : decode cX12_fieldHere 78 = .ok (.ireturn, 1) := by decide +kernel
theorem dX12_fieldHere_79 : decode cX12_fieldHere 79 = .ok (.aload_n 0, 1) := by decide +kernel
theorem dX12_fieldHere_80 : decode cX12_fieldHere 80 = .ok (.getfield 467, 3) := by decide +kernel
theorem dX12_fieldHere_83 : decode cX12_fieldHere 83 = .ok (.bipush 112, 2) := by decide +kernel
theorem dX12_fieldHere_85 : decode cX12_fieldHere 85 = .ok (.bipush 111, 2) := by decide +kernel
theorem dX12_fieldHere_87 : decode cX12_fieldHere 87 = .ok (.bipush 114, 2) := by decide +kernel
theorem dX12_fieldHere_89 : decode cX12_fieldHere 89 = .ok (.bipush 116, 2) := by decide +kernel
theorem dX12_fieldHere_91 : decode cX12_fieldHere 91 = .ok (.iconst 0, 1) := by decide +kernel
theorem dX12_fieldHere_92 : decode cX12_fieldHere 92 = .ok (.iconst 0, 1) := by decide +kernel
theorem dX12_fieldHere_93 : decode cX12_fieldHere 93 = .ok (.invokestatic 495, 3) := by decide +kernel
theorem dX12_fieldHere_96 : decode cX12_fieldHere 96 = .ok (.lcmp, 1) := by decide +kernel
theorem dX12_fieldHere_97 : decode cX12_fieldHere 97 = .ok (.ifCond .ne 5, 3) := by decide +kernel
theorem dX12_fieldHere_100 : decode cX12_fieldHere 100 = .ok (.iconst 2, 1) := by decide +kernel
theorem dX12_fieldHere_101 : decode cX12_fieldHere 101 = .ok (.ireturn, 1) := by decide +kernel
theorem dX12_fieldHere_102 : decode cX12_fieldHere 102 = .ok (.aload_n 0, 1) := by decide +kernel
theorem dX12_fieldHere_103 : decode cX12_fieldHere 103 = .ok (.getfield 467, 3) := by decide +kernel
theorem dX12_fieldHere_106 : decode cX12_fieldHere 106 = .ok (.bipush 112, 2) := by decide +kernel
theorem dX12_fieldHere_108 : decode cX12_fieldHere 108 = .ok (.bipush 114, 2) := by decide +kernel
theorem dX12_fieldHere_110 : decode cX12_fieldHere 110 = .ok (.bipush 111, 2) := by decide +kernel
theorem dX12_fieldHere_112 : decode cX12_fieldHere 112 = .ok (.bipush 116, 2) := by decide +kernel
theorem dX12_fieldHere_114 : decode cX12_fieldHere 114 = .ok (.bipush 111, 2) := by decide +kernel
theorem dX12_fieldHere_116 : decode cX12_fieldHere 116 = .ok (.iconst 0, 1) := by decide +kernel
theorem dX12_fieldHere_117 : decode cX12_fieldHere 117 = .ok (.invokestatic 495, 3) := by decide +kernel
theorem dX12_fieldHere_120 : decode cX12_fieldHere 120 = .ok (.ldc2_w 501, 3) := by decide +kernel
theorem dX12_fieldHere_123 : decode cX12_fieldHere 123 = .ok (.lmul, 1) := by decide +kernel
theorem dX12_fieldHere_124 : decode cX12_fieldHere 124 = .ok (.bipush 99, 2) := by decide +kernel
theorem dX12_fieldHere_126 : decode cX12_fieldHere 126 = .ok (.bipush 111, 2) := by decide +kernel
theorem dX12_fieldHere_128 : decode cX12_fieldHere 128 = .ok (.bipush 108, 2) := by decide +kernel
theorem dX12_fieldHere_130 : decode cX12_fieldHere 130 = .ok (.iconst 0, 1) := by decide +kernel
theorem dX12_fieldHere_131 : decode cX12_fieldHere 131 = .ok (.iconst 0, 1) := by decide +kernel
theorem dX12_fieldHere_132 : decode cX12_fieldHere 132 = .ok (.iconst 0, 1) := by decide +kernel
theorem dX12_fieldHere_133 : decode cX12_fieldHere 133 = .ok (.invokestatic 495, 3) := by decide +kernel
theorem dX12_fieldHere_136 : decode cX12_fieldHere 136 = .ok (.ladd, 1) := by decide +kernel
theorem dX12_fieldHere_137 : decode cX12_fieldHere 137 = .ok (.lcmp, 1) := by decide +kernel
theorem dX12_fieldHere_138 : decode cX12_fieldHere 138 = .ok (.ifCond .ne 5, 3) := by decide +kernel
theorem dX12_fieldHere_141 : decode cX12_fieldHere 141 = .ok (.iconst 3, 1) := by decide +kernel
theorem dX12_fieldHere_142 : decode cX12_fieldHere 142 = .ok (.ireturn, 1) := by decide +kernel
theorem dX12_fieldHere_143 : decode cX12_fieldHere 143 = .ok (.aload_n 0, 1) := by decide +kernel
theorem dX12_fieldHere_144 : decode cX12_fieldHere 144 = .ok (.getfield 467, 3) := by decide +kernel
theorem dX12_fieldHere_147 : decode cX12_fieldHere 147 = .ok (.bipush 112, 2) := by decide +kernel
theorem dX12_fieldHere_149 : decode cX12_fieldHere 149 = .ok (.bipush 97, 2) := by decide +kernel
theorem dX12_fieldHere_151 : decode cX12_fieldHere 151 = .ok (.bipush 99, 2) := by decide +kernel
theorem dX12_fieldHere_153 : decode cX12_fieldHere 153 = .ok (.bipush 107, 2) := by decide +kernel
theorem dX12_fieldHere_155 : decode cX12_fieldHere 155 = .ok (.iconst 0, 1) := by decide +kernel
theorem dX12_fieldHere_156 : decode cX12_fieldHere 156 = .ok (.iconst 0, 1) := by decide +kernel
theorem dX12_fieldHere_157 : decode cX12_fieldHere 157 = .ok (.invokestatic 495, 3) := by decide +kernel
theorem dX12_fieldHere_160 : decode cX12_fieldHere 160 = .ok (.ldc2_w 501, 3) := by decide +kernel
theorem dX12_fieldHere_163 : decode cX12_fieldHere 163 = .ok (.lmul, 1) := by decide +kernel
theorem dX12_fieldHere_164 : decode cX12_fieldHere 164 = .ok (.bipush 101, 2) := by decide +kernel
theorem dX12_fieldHere_166 : decode cX12_fieldHere 166 = .ok (.bipush 116, 2) := by decide +kernel
theorem dX12_fieldHere_168 : decode cX12_fieldHere 168 = .ok (.bipush 115, 2) := by decide +kernel
theorem dX12_fieldHere_170 : decode cX12_fieldHere 170 = .ok (.iconst 0, 1) := by decide +kernel
theorem dX12_fieldHere_171 : decode cX12_fieldHere 171 = .ok (.iconst 0, 1) := by decide +kernel
theorem dX12_fieldHere_172 : decode cX12_fieldHere 172 = .ok (.iconst 0, 1) := by decide +kernel
theorem dX12_fieldHere_173 : decode cX12_fieldHere 173 = .ok (.invokestatic 495, 3) := by decide +kernel
theorem dX12_fieldHere_176 : decode cX12_fieldHere 176 = .ok (.ladd, 1) := by decide +kernel
theorem dX12_fieldHere_177 : decode cX12_fieldHere 177 = .ok (.lcmp, 1) := by decide +kernel
theorem dX12_fieldHere_178 : decode cX12_fieldHere 178 = .ok (.ifCond .ne 5, 3) := by decide +kernel
theorem dX12_fieldHere_181 : decode cX12_fieldHere 181 = .ok (.iconst 4, 1) := by decide +kernel
theorem dX12_fieldHere_182 : decode cX12_fieldHere 182 = .ok (.ireturn, 1) := by decide +kernel
theorem dX12_fieldHere_183 : decode cX12_fieldHere 183 = .ok (.aload_n 0, 1) := by decide +kernel
theorem dX12_fieldHere_184 : decode cX12_fieldHere 184 = .ok (.getfield 467, 3) := by decide +kernel
theorem dX12_fieldHere_187 : decode cX12_fieldHere 187 = .ok (.bipush 98, 2) := by decide +kernel
theorem dX12_fieldHere_189 : decode cX12_fieldHere 189 = .ok (.bipush 121, 2) := by decide +kernel
theorem dX12_fieldHere_191 : decode cX12_fieldHere 191 = .ok (.bipush 116, 2) := by decide +kernel
theorem dX12_fieldHere_193 : decode cX12_fieldHere 193 = .ok (.bipush 101, 2) := by decide +kernel
theorem dX12_fieldHere_195 : decode cX12_fieldHere 195 = .ok (.bipush 115, 2) := by decide +kernel
theorem dX12_fieldHere_197 : decode cX12_fieldHere 197 = .ok (.iconst 0, 1) := by decide +kernel
theorem dX12_fieldHere_198 : decode cX12_fieldHere 198 = .ok (.invokestatic 495, 3) := by decide +kernel
theorem dX12_fieldHere_201 : decode cX12_fieldHere 201 = .ok (.lcmp, 1) := by decide +kernel
theorem dX12_fieldHere_202 : decode cX12_fieldHere 202 = .ok (.ifCond .ne 5, 3) := by decide +kernel
theorem dX12_fieldHere_205 : decode cX12_fieldHere 205 = .ok (.iconst 5, 1) := by decide +kernel
theorem dX12_fieldHere_206 : decode cX12_fieldHere 206 = .ok (.ireturn, 1) := by decide +kernel
theorem dX12_fieldHere_207 : decode cX12_fieldHere 207 = .ok (.aload_n 0, 1) := by decide +kernel
theorem dX12_fieldHere_208 : decode cX12_fieldHere 208 = .ok (.getfield 467, 3) := by decide +kernel
theorem dX12_fieldHere_211 : decode cX12_fieldHere 211 = .ok (.bipush 102, 2) := by decide +kernel
theorem dX12_fieldHere_213 : decode cX12_fieldHere 213 = .ok (.bipush 105, 2) := by decide +kernel
theorem dX12_fieldHere_215 : decode cX12_fieldHere 215 = .ok (.bipush 114, 2) := by decide +kernel
theorem dX12_fieldHere_217 : decode cX12_fieldHere 217 = .ok (.bipush 115, 2) := by decide +kernel
theorem dX12_fieldHere_219 : decode cX12_fieldHere 219 = .ok (.bipush 116, 2) := by decide +kernel
theorem dX12_fieldHere_221 : decode cX12_fieldHere 221 = .ok (.iconst 0, 1) := by decide +kernel
theorem dX12_fieldHere_222 : decode cX12_fieldHere 222 = .ok (.invokestatic 495, 3) := by decide +kernel
theorem dX12_fieldHere_225 : decode cX12_fieldHere 225 = .ok (.lcmp, 1) := by decide +kernel
theorem dX12_fieldHere_226 : decode cX12_fieldHere 226 = .ok (.ifCond .ne 6, 3) := by decide +kernel
theorem dX12_fieldHere_229 : decode cX12_fieldHere 229 = .ok (.bipush 6, 2) := by decide +kernel
theorem dX12_fieldHere_231 : decode cX12_fieldHere 231 = .ok (.ireturn, 1) := by decide +kernel
theorem dX12_fieldHere_232 : decode cX12_fieldHere 232 = .ok (.aload_n 0, 1) := by decide +kernel
theorem dX12_fieldHere_233 : decode cX12_fieldHere 233 = .ok (.getfield 467, 3) := by decide +kernel
theorem dX12_fieldHere_236 : decode cX12_fieldHere 236 = .ok (.bipush 108, 2) := by decide +kernel
theorem dX12_fieldHere_238 : decode cX12_fieldHere 238 = .ok (.bipush 97, 2) := by decide +kernel
theorem dX12_fieldHere_240 : decode cX12_fieldHere 240 = .ok (.bipush 115, 2) := by decide +kernel
theorem dX12_fieldHere_242 : decode cX12_fieldHere 242 = .ok (.bipush 116, 2) := by decide +kernel
theorem dX12_fieldHere_244 : decode cX12_fieldHere 244 = .ok (.iconst 0, 1) := by decide +kernel
theorem dX12_fieldHere_245 : decode cX12_fieldHere 245 = .ok (.iconst 0, 1) := by decide +kernel
theorem dX12_fieldHere_246 : decode cX12_fieldHere 246 = .ok (.invokestatic 495, 3) := by decide +kernel
theorem dX12_fieldHere_249 : decode cX12_fieldHere 249 = .ok (.lcmp, 1) := by decide +kernel
theorem dX12_fieldHere_250 : decode cX12_fieldHere 250 = .ok (.ifCond .ne 6, 3) := by decide +kernel
theorem dX12_fieldHere_253 : decode cX12_fieldHere 253 = .ok (.bipush 7, 2) := by decide +kernel
theorem dX12_fieldHere_255 : decode cX12_fieldHere 255 = .ok (.ireturn, 1) := by decide +kernel
theorem dX12_fieldHere_256 : decode cX12_fieldHere 256 = .ok (.aload_n 0, 1) := by decide +kernel
theorem dX12_fieldHere_257 : decode cX12_fieldHere 257 = .ok (.getfield 467, 3) := by decide +kernel
theorem dX12_fieldHere_260 : decode cX12_fieldHere 260 = .ok (.bipush 114, 2) := by decide +kernel
theorem dX12_fieldHere_262 : decode cX12_fieldHere 262 = .ok (.bipush 97, 2) := by decide +kernel
theorem dX12_fieldHere_264 : decode cX12_fieldHere 264 = .ok (.bipush 116, 2) := by decide +kernel
theorem dX12_fieldHere_266 : decode cX12_fieldHere 266 = .ok (.bipush 101, 2) := by decide +kernel
theorem dX12_fieldHere_268 : decode cX12_fieldHere 268 = .ok (.iconst 0, 1) := by decide +kernel
theorem dX12_fieldHere_269 : decode cX12_fieldHere 269 = .ok (.iconst 0, 1) := by decide +kernel
theorem dX12_fieldHere_270 : decode cX12_fieldHere 270 = .ok (.invokestatic 495, 3) := by decide +kernel
theorem dX12_fieldHere_273 : decode cX12_fieldHere 273 = .ok (.lcmp, 1) := by decide +kernel
theorem dX12_fieldHere_274 : decode cX12_fieldHere 274 = .ok (.ifCond .ne 8, 3) := by decide +kernel
theorem dX12_fieldHere_277 : decode cX12_fieldHere 277 = .ok (.bipush 8, 2) := by decide +kernel
theorem dX12_fieldHere_279 : decode cX12_fieldHere 279 = .ok (.goto 4, 3) := by decide +kernel
theorem dX12_fieldHere_282 : decode cX12_fieldHere 282 = .ok (.iconst (-1), 1) := by decide +kernel
theorem dX12_fieldHere_283 : decode cX12_fieldHere 283 = .ok (.ireturn, 1) := by decide +kernel
noncomputable def fHf (kn : Int32) (va : Int64) : Int32 := if kn = 1 then (if va = 653969509 then 0 else if va = 4701109538661870 then 1 else if va = 540244 then 2 else if va = 569607949804 then 3 else if va = 17216935571 then 4 else if va = 2937011 then 5 else if va = 6605428 then 6 else if va = 394868 then 7 else if va = 591493 then 8 else -1) else -1
/-- the field at hand is the word at hand -/
theorem fH_eq {f : Nat → Int32} {n p st nx : Nat} {kn : Int32} {va : Int64} (h : TkR (bA f n) p kn st nx va) (hp : p ≤ n) : ∃ k, Tk (bA f n) p k st nx ∧ fHf kn va = wd fdW (bA f n) k st nx ∧ ¬ k = 1 ∧ kn = kR k := by
  obtain ⟨k, h1, h2, h3, h4, h5, h6⟩ := TkR_k h hp
  refine ⟨k, h1, ?_, h3, h2⟩
  by_cases hk : k = 2
  · subst hk
    have hva := h5 rfl
    have h0 : kn = 1 := h2
    unfold fHf
    rw [if_pos h0]
    by_cases g0 : va = 653969509
    · rw [if_pos g0]
      exact (fd_hit (i := 0) h1 hp hva (by decide) (g0.trans (by decide +kernel))).symm
    rw [if_neg g0]
    by_cases g1 : va = 4701109538661870
    · rw [if_pos g1]
      exact (fd_hit (i := 1) h1 hp hva (by decide) (g1.trans (by decide +kernel))).symm
    rw [if_neg g1]
    by_cases g2 : va = 540244
    · rw [if_pos g2]
      exact (fd_hit (i := 2) h1 hp hva (by decide) (g2.trans (by decide +kernel))).symm
    rw [if_neg g2]
    by_cases g3 : va = 569607949804
    · rw [if_pos g3]
      exact (fd_hit (i := 3) h1 hp hva (by decide) (g3.trans (by decide +kernel))).symm
    rw [if_neg g3]
    by_cases g4 : va = 17216935571
    · rw [if_pos g4]
      exact (fd_hit (i := 4) h1 hp hva (by decide) (g4.trans (by decide +kernel))).symm
    rw [if_neg g4]
    by_cases g5 : va = 2937011
    · rw [if_pos g5]
      exact (fd_hit (i := 5) h1 hp hva (by decide) (g5.trans (by decide +kernel))).symm
    rw [if_neg g5]
    by_cases g6 : va = 6605428
    · rw [if_pos g6]
      exact (fd_hit (i := 6) h1 hp hva (by decide) (g6.trans (by decide +kernel))).symm
    rw [if_neg g6]
    by_cases g7 : va = 394868
    · rw [if_pos g7]
      exact (fd_hit (i := 7) h1 hp hva (by decide) (g7.trans (by decide +kernel))).symm
    rw [if_neg g7]
    by_cases g8 : va = 591493
    · rw [if_pos g8]
      exact (fd_hit (i := 8) h1 hp hva (by decide) (g8.trans (by decide +kernel))).symm
    rw [if_neg g8]
    refine (fd_mis hva (fun i hi e => ?_)).symm
    rcases (show i = 0 ∨ i = 1 ∨ i = 2 ∨ i = 3 ∨ i = 4 ∨ i = 5 ∨ i = 6 ∨ i = 7 ∨ i = 8 by omega) with rfl | rfl | rfl | rfl | rfl | rfl | rfl | rfl | rfl
    · exact g0 (e.trans (by decide +kernel))
    · exact g1 (e.trans (by decide +kernel))
    · exact g2 (e.trans (by decide +kernel))
    · exact g3 (e.trans (by decide +kernel))
    · exact g4 (e.trans (by decide +kernel))
    · exact g5 (e.trans (by decide +kernel))
    · exact g6 (e.trans (by decide +kernel))
    · exact g7 (e.trans (by decide +kernel))
    · exact g8 (e.trans (by decide +kernel))
  · rw [wd_no hk]
    unfold fHf
    refine if_neg (fun e => ?_)
    have h7 : k - 1 = 1 := kR_k (c := 1) (h2.symm.trans e) h4 (by omega)
    omega
noncomputable def NNt (t : Nat) (g : Nat → Int32) : Prop := NN g ∧ g 10 = nI t
theorem fHf_nat {kn : Int32} {va : Int64} (h : ¬ fHf kn va = -1) : ∃ n, n ≤ 8 ∧ fHf kn va = nI n := by
  unfold fHf at h ⊢
  by_cases h0 : kn = 1
  · rw [if_pos h0] at h ⊢
    by_cases g0 : va = 653969509
    · rw [if_pos g0]
      exact ⟨0, by decide, rfl⟩
    rw [if_neg g0] at h ⊢
    by_cases g1 : va = 4701109538661870
    · rw [if_pos g1]
      exact ⟨1, by decide, rfl⟩
    rw [if_neg g1] at h ⊢
    by_cases g2 : va = 540244
    · rw [if_pos g2]
      exact ⟨2, by decide, rfl⟩
    rw [if_neg g2] at h ⊢
    by_cases g3 : va = 569607949804
    · rw [if_pos g3]
      exact ⟨3, by decide, rfl⟩
    rw [if_neg g3] at h ⊢
    by_cases g4 : va = 17216935571
    · rw [if_pos g4]
      exact ⟨4, by decide, rfl⟩
    rw [if_neg g4] at h ⊢
    by_cases g5 : va = 2937011
    · rw [if_pos g5]
      exact ⟨5, by decide, rfl⟩
    rw [if_neg g5] at h ⊢
    by_cases g6 : va = 6605428
    · rw [if_pos g6]
      exact ⟨6, by decide, rfl⟩
    rw [if_neg g6] at h ⊢
    by_cases g7 : va = 394868
    · rw [if_pos g7]
      exact ⟨7, by decide, rfl⟩
    rw [if_neg g7] at h ⊢
    by_cases g8 : va = 591493
    · rw [if_pos g8]
      exact ⟨8, by decide, rfl⟩
    rw [if_neg g8] at h ⊢
    exact absurd rfl h
  · rw [if_neg h0] at h
    exact absurd rfl h
/-! a word for a row, and the row itself, cell by cell -/
noncomputable def AndC (P : (Nat → Int32) → Prop) (c : Cf) (g : Nat → Int32) : Prop := P g ∧ ∀ j, j < 307 → g j = c j
theorem AndC.upi {P Q : (Nat → Int32) → Prop} {c : Cf} {g : Nat → Int32} {i k : Nat} {v w : Int32} (h : AndC P c g) (hq : Q (upd g i v)) (hv : v = w) (hi : i = k) : AndC Q (upd c k w) (upd g i v) := by
  subst hv
  subst hi
  refine ⟨hq, fun j hj => ?_⟩
  by_cases e : j = i
  · subst e
    rw [upd_at, upd_at]
  · rw [upd_ne e, upd_ne e]
    exact h.2 j hj
theorem AndC.up {P Q : (Nat → Int32) → Prop} {c : Cf} {g : Nat → Int32} {i : Nat} {v w : Int32} (h : AndC P c g) (hq : Q (upd g i v)) (hv : v = w) : AndC Q (upd c i w) (upd g i v) := AndC.upi h hq hv rfl
abbrev NNc (t : Nat) (c : Cf) (g : Nat → Int32) : Prop := AndC (NNt t) c g
theorem predI {n : Nat} (h : n < 2 ^ 31) : (nI n - 1).toInt = (n : Int) - 1 := by
  have h1 := predL h
  rw [Int32.toInt_toInt64] at h1
  exact h1
theorem NN.up {f : Nat → Int32} {i : Nat} {v : Int32} (h : NN f) (hi : i < 10 ∨ 51 ≤ i) (h0 : i = 0 → ∃ n : Nat, 1 ≤ n ∧ n ≤ 1024 ∧ v = nI n) (h7 : i = 7 → ∃ n : Nat, 256 ≤ n ∧ n ≤ 600 ∧ v = nI n) (h8 : i = 8 → ∃ n : Nat, n ≤ 1024 ∧ v = nI n) (hu : 51 ≤ i → ∃ n : Nat, n ≤ 3 ∧ v = nI n) : NN (upd f i v) := by
  have e : ∀ j, j ≠ i → upd f i v j = f j := fun j hj => by simp [upd, hj]
  have e2 : upd f i v i = v := by simp [upd]
  obtain ⟨k1, k2, k3, k4, k5, k6, k7, k8, k9⟩ := h
  refine ⟨fun j a b => ?_, fun j a b => ?_, fun j a b => ?_, ?_, ?_, ?_, ?_, fun t ht => ?_, fun t n ht hn hl => ?_⟩
  · rw [e j (by clear h0 h7 h8 hu; omega)]; exact k1 j a b
  · rw [e j (by clear h0 h7 h8 hu; omega)]; exact k2 j a b
  · by_cases hj : j = i
    · subst hj
      rw [e2]
      exact hu a
    · rw [e j hj]; exact k3 j a b
  · by_cases hj : i = 7
    · subst hj
      rw [e2]
      exact h7 rfl
    · rw [e 7 (by clear h0 h7 h8 hu; omega)]; exact k4
  · rw [e 10 (by clear h0 h7 h8 hu; omega)]; exact k5
  · by_cases hj : i = 0
    · subst hj
      rw [e2]
      exact h0 rfl
    · rw [e 0 (by clear h0 h7 h8 hu; omega)]; exact k6
  · by_cases hj : i = 8
    · subst hj
      rw [e2]
      exact h8 rfl
    · rw [e 8 (by clear h0 h7 h8 hu; omega)]; exact k7
  · rw [e (11 + t) (by clear h0 h7 h8 hu; omega), lsm_ext (g := f) (fun j hj => e _ (by
      obtain ⟨n, hn, hq⟩ := k1 (11 + t) (by clear h0 h7 h8 hu; omega) (by clear h0 h7 h8 hu; omega)
      rw [hq, nI_clamp (by clear h0 h7 h8 hu; omega)] at hj
      clear h0 h7 h8 hu
      omega))]
    exact k8 t ht
  · rw [e (11 + t) (by clear h0 h7 h8 hu; omega)]
    exact k9 t n ht (by rw [← e 10 (by clear h0 h7 h8 hu; omega)]; exact hn) hl
/-- sets of fields: how many, and their lengths -/
noncomputable def pcn (m : Nat) : Nat := (List.range 9).foldl (fun a k => a + m / 2 ^ k % 2) 0
noncomputable def lmk (m : Nat) : Nat := (List.range 9).foldl (fun a k => a + m / 2 ^ k % 2 * lnN k) 0
theorem msk_all : ∀ m, m < 512 → ∀ n, n < 9 → ((nI m >>> (nI n &&& 31)) &&& 1 = 1 ∨ (nI m ||| ((1 : Int32) <<< (nI n &&& 31)) = nI (m + 2 ^ n) ∧ m + 2 ^ n < 512 ∧ pcn (m + 2 ^ n) = pcn m + 1 ∧ lmk (m + 2 ^ n) = lmk m + lnN n ∧ pcn m ≤ 8)) := by decide +kernel
theorem msk {m n : Nat} (hm : m < 512) (hn : n < 9) (h : ¬ (nI m >>> (nI n &&& 31)) &&& 1 = 1) : nI m ||| ((1 : Int32) <<< (nI n &&& 31)) = nI (m + 2 ^ n) ∧ m + 2 ^ n < 512 ∧ pcn (m + 2 ^ n) = pcn m + 1 ∧ lmk (m + 2 ^ n) = lmk m + lnN n ∧ pcn m ≤ 8 := (msk_all m hm n hn).resolve_left h
theorem lmk_le : ∀ m, m < 512 → lmk m ≤ 29 ∧ pcn m ≤ 9 := by decide +kernel
/-- the row of a template that is being read -/
noncomputable def TplR (t s m : Nat) (f : Nat → Int32) : Prop := NN f ∧ f 10 = nI t ∧ lsm f (15 + 9 * t) s = lmk m
theorem TplR.fld {t s m n i : Nat} {f : Nat → Int32} (h : TplR t s m f) (ht : t < 4) (hs : s < 9) (hn : n ≤ 8) (hi : i = 15 + 9 * t + s) (hm : lmk (m + 2 ^ n) = lmk m + lnN n) : TplR t (s + 1) (m + 2 ^ n) (upd f i (nI n)) := by
  subst hi
  have e : ∀ j, j ≠ 15 + 9 * t + s → upd f (15 + 9 * t + s) (nI n) j = f j := fun j hj => by simp [upd, hj]
  have e2 : upd f (15 + 9 * t + s) (nI n) (15 + 9 * t + s) = nI n := by simp [upd]
  obtain ⟨⟨k1, k2, k3, k4, k5, k6, k7, k8, k9⟩, h10, hl⟩ := h
  refine ⟨⟨fun j a b => ?_, fun j a b => ?_, fun j a b => ?_, ?_, ?_, ?_, ?_, fun u hu => ?_, fun u q hu hq hl => ?_⟩, ?_, ?_⟩
  · rw [e j (by omega)]; exact k1 j a b
  · by_cases hj : j = 15 + 9 * t + s
    · subst hj
      rw [e2]
      exact ⟨n, hn, rfl⟩
    · rw [e j hj]; exact k2 j a b
  · rw [e j (by omega)]; exact k3 j a b
  · rw [e 7 (by omega)]; exact k4
  · rw [e 10 (by omega)]; exact k5
  · rw [e 0 (by omega)]; exact k6
  · rw [e 8 (by omega)]; exact k7
  · rw [e (11 + u) (by omega)]
    by_cases hu2 : u = t
    · subst hu2
      have h0 : f (11 + u) = 0 := k9 u u hu h10 (Nat.le_refl _)
      rw [h0]
      exact Nat.zero_le _
    · rw [lsm_ext (g := f) (fun j hj => e _ (by
        obtain ⟨q, hq, hq2⟩ := k1 (11 + u) (by omega) (by omega)
        rw [hq2, nI_clamp (by omega)] at hj
        omega))]
      exact k8 u hu
  · rw [e (11 + u) (by omega)]
    exact k9 u q hu (by rw [← e 10 (by omega)]; exact hq) hl
  · rw [e 10 (by omega)]; exact h10
  · rw [lsm_s (n := n) e2 (by omega), lsm_ext (g := f) (fun j hj => e _ (by omega)), hl, hm]
noncomputable def TplE (t s : Nat) (g : Nat → Int32) : Prop := ∃ f : Nat → Int32, NN f ∧ f 10 = nI t ∧ lsm f (15 + 9 * t) s ≤ 29 ∧ g = upd f (11 + t) (nI s)
theorem TplR.ends {t s m i : Nat} {f : Nat → Int32} (h : TplR t s m f) (hm : m < 512) (hi : i = 11 + t) : TplE t s (upd f i (nI s)) := by
  subst hi
  exact ⟨f, h.1, h.2.1, by rw [h.2.2]; exact (lmk_le m hm).1, rfl⟩
theorem TplE.ten {t s : Nat} {g : Nat → Int32} (h : TplE t s g) (ht : t < 4) : g 10 = nI t := by
  obtain ⟨f, -, h2, -, rfl⟩ := h
  show (if 10 = 11 + t then _ else f 10) = _
  rw [if_neg (by omega)]
  exact h2
theorem TplE.nn {t s i : Nat} {g : Nat → Int32} (h : TplE t s g) (ht : t < 4) (hs : s ≤ 9) (hi : i = 10) : NN (upd g i (nI (t + 1))) := by
  subst hi
  obtain ⟨f, ⟨k1, k2, k3, k4, k5, k6, k7, k8, k9⟩, h10, hl, rfl⟩ := h
  have e : ∀ j, j ≠ 10 → j ≠ 11 + t → upd (upd f (11 + t) (nI s)) 10 (nI (t + 1)) j = f j := fun j hj hk => by simp [upd, hj, hk]
  have e10 : upd (upd f (11 + t) (nI s)) 10 (nI (t + 1)) 10 = nI (t + 1) := by simp [upd]
  have et : upd (upd f (11 + t) (nI s)) 10 (nI (t + 1)) (11 + t) = nI s := by
    show (if 11 + t = 10 then _ else if 11 + t = 11 + t then nI s else _) = _
    rw [if_neg (by omega), if_pos rfl]
  refine ⟨fun j a b => ?_, fun j a b => ?_, fun j a b => ?_, ?_, ?_, ?_, ?_, fun u hu => ?_, fun u q hu hq hl => ?_⟩
  · by_cases hj : j = 11 + t
    · subst hj
      rw [et]
      exact ⟨s, hs, rfl⟩
    · rw [e j (by omega) hj]; exact k1 j a b
  · rw [e j (by omega) (by omega)]; exact k2 j a b
  · rw [e j (by omega) (by omega)]; exact k3 j a b
  · rw [e 7 (by omega) (by omega)]; exact k4
  · rw [e10]; exact ⟨t + 1, by omega, rfl⟩
  · rw [e 0 (by omega) (by omega)]; exact k6
  · rw [e 8 (by omega) (by omega)]; exact k7
  · by_cases hu2 : u = t
    · subst hu2
      rw [et, nI_clamp (by omega), lsm_ext (g := f) (fun j hj => e _ (by omega) (by omega))]
      exact hl
    · rw [e (11 + u) (by omega) (by omega), lsm_ext (g := f) (fun j hj => e _ (by
        obtain ⟨q, hq, hq2⟩ := k1 (11 + u) (by omega) (by omega)
        rw [hq2, nI_clamp (by omega)] at hj
        omega) (by
        obtain ⟨q, hq, hq2⟩ := k1 (11 + u) (by omega) (by omega)
        rw [hq2, nI_clamp (by omega)] at hj
        omega))]
      exact k8 u hu
  · rw [e10] at hq
    obtain ⟨q2, hq2, hq3⟩ := k5
    have hq4 : t + 1 = q := by
      have h9 : (nI (t + 1)).toNatClampNeg = (nI q).toNatClampNeg := by rw [hq]
      rw [nI_clamp (by omega)] at h9
      by_cases hqs : q < 2 ^ 31
      · rw [nI_clamp hqs] at h9
        exact h9
      · exact absurd hl (by omega)
    rw [e (11 + u) (by omega) (by omega)]
    exact k9 u t hu h10 (by omega)
theorem Im.re1 {G : EnvG} {x : Nat} {rd rd1 nw : (Nat → Int32) → Prop} {T : ((Nat → Int64) → Prop) × ((Nat → Int32) → Prop) × ((Nat → Int64) → Prop) × Nat × Nat × Nat × Nat × Nat × Nat × Int32 × Int32 × Int32 × Int64 × Nat × Int32 × Int32 × Int32 × Int64 × Int32 × Nat × Int32 × Int64 × Int64 × Nat × Int32} {Φ : Hm} {f : Nat → Int32} (h : Im G x (rd, nw, T) Φ) (hf : Φ (x + 1) = some (ai_ G 307 f)) (hp : rd1 f) : Im G x (rd1, nw, T) Φ := by
  refine ⟨h.1, fun j h3 h4 => ?_⟩
  have h5 := h.2 j h3 h4
  match j, h3, h5 with
  | 1, _, _ => exact ⟨f, hf, hp⟩
  | 2, _, q => exact q
  | j + 3, _, q => exact q
theorem ld_dec {e e1 : Int32} {n n1 : Nat} (he : e = 0) (h1 : n ≤ n1) (h2 : ¬ e1 = 0 ∨ n < n1) (hn : n1 ≤ 701) : (if e1 = 0 then 1 else 0) + 2 * (702 - n1) < (if e = 0 then 1 else 0) + 2 * (702 - n) := by
  rw [if_pos he]
  rcases h2 with h2 | h2
  · rw [if_neg h2]
    omega
  · split <;> omega

theorem hu_X12_fieldHere_X12 : ∀ w ∈ u_ws RX12 TX12 54, w ∈ wsX12_fieldHere := fun _ h => List.mem_cons_of_mem _ (List.mem_append_right _ (h))

theorem hv_X12_fieldHere_476 : Cond.fieldLink RX12 476 "FlowExporterModel" (TX12 50).2.1 (TX12 50).2.2.1 ∈ wsX12_fieldHere := List.mem_cons_of_mem _ (List.mem_append_left _ (List.mem_of_getElem? (i := 0) rfl))

theorem hv_X12_fieldHere_467 : Cond.fieldLink RX12 467 "FlowExporterModel" (TX12 53).2.1 (TX12 53).2.2.1 ∈ wsX12_fieldHere := List.mem_cons_of_mem _ (List.mem_append_left _ (List.mem_of_getElem? (i := 1) rfl))

set_option maxHeartbeats 4000000 in
set_option maxRecDepth 100000 in
theorem r_fieldHere (G : EnvG) (l : Launch) (Φ : Hm) (sz x : Nat) (rd : (Nat → Int32) → Prop) (nw : (Nat → Int32) → Prop) (cr : (Nat → Int64) → Prop) (tp : (Nat → Int32) → Prop) (tt : (Nat → Int64) → Prop) (fl : Nat) (pe : Nat) (le : Nat) (nx : Nat) (il : Nat) (qu : Nat) (kn : Int32) (ec : Int32) (nu : Int32) (va : Int64) (st : Nat) (ep : Int32) (ti : Int32) (ad : Int32) (ob : Int64) (ra : Int32) (rt : Nat) (ex : Int32) (sa : Int64) (us : Int64) (tk : Nat) (th : Int32)  (hx : G.2.2.2 ≤ x) (hI : Im G x (rd, nw, cr, tp, tt, fl, pe, le, nx, il, qu, kn, ec, nu, va, st, ep, ti, ad, ob, ra, rt, ex, sa, us, tk, th) Φ) (hnw : ∀ f9 : Nat → Int32, nw f9 → NN f9) : Ct G l yX12_fieldHere wsX12_fieldHere ({ frames := 1, cells := 0, slots := 0, locals := 27 }) 0 0 [.ref x] Φ sz (fun v Φ1 sz1 => (v = some (.int (fHf kn va))) ∧ sz1 = sz ∧ (Im G x (rd, nw, cr, tp, tt, fl, pe, le, nx, il, qu, kn, ec, nu, va, st, ep, ti, ad, ob, ra, rt, ex, sa, us, tk, th) Φ1) ∧ Fr x (fun j9 => False) Φ Φ1) := by
  refine Ct.of (cc := cX12_fieldHere) (maxL := 1) (ret := (some .int)) (by decide) rfl (Nat.le_of_ble_eq_true rfl) ?_
  intro p9 e9 s9 m9 w9 t9 k9 B
  show Z p9 l e9 _ s9 m9 _ w9 t9 k9 _ G 1 0 [(0, .ref x)] [] Φ sz 0 0
  refine z_aload_n B dX12_fieldHere_0 rfl 0 rfl ?_
  obtain ⟨v_1, v_2, v_3, v_4, n_1, v_5, n_2, h_1, b_13, b_1, b_2, b_3, b_4, b_5, b_6, b_7, b_8, b_9, b_10, b_11, b_12⟩ := im0 hI
  replace b_1 : 1 ≤ rt := b_1
  replace b_2 : rt ≤ 1024 := b_2
  replace b_3 : fl ≤ 12 := b_3
  replace b_4 : pe ≤ 24 := b_4
  replace b_5 : le ≤ 700 := b_5
  replace b_6 : qu ≤ 12 := b_6
  replace b_7 : n_1 ≤ 8 := b_7
  replace b_8 : n_2 ≤ 24 := b_8
  replace b_9 : tk ≤ 24 := b_9
  replace b_10 : il ≤ 700 := b_10
  replace b_11 : nx ≤ 701 := b_11
  replace b_12 : st ≤ 701 := b_12
  have h_2 : Φ x = some (o_ 14 [.int th, .ref (x + 1), .ref (x + 2), .int ti, .int ra, .int (nI rt), .int ex, .int ad, .ref (x + 3), .ref (x + 4), .int v_1, .long v_2, .ref (x + 5), .int (nI fl), .int v_3, .long ob, .long sa, .long v_4, .long us, .ref (x + 6), .ref (x + 7), .int (nI pe), .ref (x + 8), .int (nI le), .ref (x + 9), .ref (x + 10), .int (nI qu), .ref (x + 11), .ref (x + 12), .ref (x + 13), .ref (x + 14), .ref (x + 15), .ref (x + 16), .int (nI n_1), .long v_5, .ref (x + 17), .ref (x + 18), .ref (x + 19), .ref (x + 20), .ref (x + 21), .ref (x + 22), .int (nI n_2), .ref (x + 23), .ref (x + 24), .int (nI tk), .ref (x + 25), .int (nI il), .int (nI nx), .int ec, .int ep, .int kn, .int (nI st), .int nu, .long va]) := h_1
  refine z_get (ref := "FlowExporterModel") (C := RX12) (T := TX12) (N := 54) (ci := 14) (v := .int kn) B hu_X12_fieldHere_X12 rfl 50 (Nat.le_of_ble_eq_true rfl) hv_X12_fieldHere_476 rfl h_2 rfl dX12_fieldHere_1 ?_
  refine z_iconst (v := 1) B dX12_fieldHere_4 rfl ?_
  refine z_icmp_eq (tgt := 10) B dX12_fieldHere_5 rfl (fun c_1 => ?_) (fun c_1 => ?_)
  · refine z_aload_n B dX12_fieldHere_10 rfl 0 rfl ?_
    refine z_get (ref := "FlowExporterModel") (C := RX12) (T := TX12) (N := 54) (ci := 14) (v := .long va) B hu_X12_fieldHere_X12 rfl 53 (Nat.le_of_ble_eq_true rfl) hv_X12_fieldHere_467 rfl h_2 rfl dX12_fieldHere_11 ?_
    refine z_bipush (v := 115) B dX12_fieldHere_14 rfl ?_
    refine z_bipush (v := 111) B dX12_fieldHere_16 rfl ?_
    refine z_bipush (v := 117) B dX12_fieldHere_18 rfl ?_
    refine z_bipush (v := 114) B dX12_fieldHere_20 rfl ?_
    refine z_bipush (v := 99) B dX12_fieldHere_22 rfl ?_
    refine z_bipush (v := 101) B dX12_fieldHere_24 rfl ?_
    refine z_callS (As := [.int 115, .int 111, .int 117, .int 114, .int 99, .int 101]) (rest := [.long va]) B (r_pack_115_111_117_114_99_101 G l Φ sz x rd nw cr tp tt fl pe le nx il qu kn ec nu va st ep ti ad ob ra rt ex sa us tk th  hx hI hnw) (va_cwS 6 B.1.2.2.2.2 gX12_fieldHere_X12_pack rfl rfl rfl (by decide +kernel) ⟨Nat.le_of_ble_eq_true rfl, Nat.le_of_ble_eq_true rfl⟩) rfl rfl (Nat.le_of_ble_eq_true rfl) dX12_fieldHere_26 ⟨Nat.le_of_ble_eq_true rfl, Nat.le_of_ble_eq_true rfl⟩ (fun r_1 Φ1 sz1 st1 hp1 hs1 => ?_)
    obtain ⟨rfl, hq1, hI1, hF1⟩ := hp1
    subst sz1
    replace hs1 : st1 = [.long 653969509, .long va] := hs1
    subst st1
    replace hI1 : Im G x (rd, nw, cr, tp, tt, fl, pe, le, nx, il, qu, kn, ec, nu, va, st, ep, ti, ad, ob, ra, rt, ex, sa, us, tk, th) Φ1 := hI1
    refine z_lcmp B dX12_fieldHere_29 ?_
    refine z_if_ne (tgt := 35) B dX12_fieldHere_30 rfl (fun c_2 => ?_) (fun c_2 => ?_)
    · refine z_aload_n B dX12_fieldHere_35 rfl 0 rfl ?_
      have h_3 : Φ1 x = some (o_ 14 [.int th, .ref (x + 1), .ref (x + 2), .int ti, .int ra, .int (nI rt), .int ex, .int ad, .ref (x + 3), .ref (x + 4), .int v_1, .long v_2, .ref (x + 5), .int (nI fl), .int v_3, .long ob, .long sa, .long v_4, .long us, .ref (x + 6), .ref (x + 7), .int (nI pe), .ref (x + 8), .int (nI le), .ref (x + 9), .ref (x + 10), .int (nI qu), .ref (x + 11), .ref (x + 12), .ref (x + 13), .ref (x + 14), .ref (x + 15), .ref (x + 16), .int (nI n_1), .long v_5, .ref (x + 17), .ref (x + 18), .ref (x + 19), .ref (x + 20), .ref (x + 21), .ref (x + 22), .int (nI n_2), .ref (x + 23), .ref (x + 24), .int (nI tk), .ref (x + 25), .int (nI il), .int (nI nx), .int ec, .int ep, .int kn, .int (nI st), .int nu, .long va]) := ((hF1 x (fun j9 h8 h7 => (show False from h7).elim)).trans h_2)
      refine z_get (ref := "FlowExporterModel") (C := RX12) (T := TX12) (N := 54) (ci := 14) (v := .long va) B hu_X12_fieldHere_X12 rfl 53 (Nat.le_of_ble_eq_true rfl) hv_X12_fieldHere_467 rfl h_3 rfl dX12_fieldHere_36 ?_
      refine z_bipush (v := 100) B dX12_fieldHere_39 rfl ?_
      refine z_bipush (v := 101) B dX12_fieldHere_41 rfl ?_
      refine z_bipush (v := 115) B dX12_fieldHere_43 rfl ?_
      refine z_bipush (v := 116) B dX12_fieldHere_45 rfl ?_
      refine z_bipush (v := 105) B dX12_fieldHere_47 rfl ?_
      refine z_bipush (v := 110) B dX12_fieldHere_49 rfl ?_
      refine z_callS (As := [.int 100, .int 101, .int 115, .int 116, .int 105, .int 110]) (rest := [.long va]) B (r_pack_100_101_115_116_105_110 G l Φ1 sz x rd nw cr tp tt fl pe le nx il qu kn ec nu va st ep ti ad ob ra rt ex sa us tk th  hx hI1 hnw) (va_cwS 6 B.1.2.2.2.2 gX12_fieldHere_X12_pack rfl rfl rfl (by decide +kernel) ⟨Nat.le_of_ble_eq_true rfl, Nat.le_of_ble_eq_true rfl⟩) rfl rfl (Nat.le_of_ble_eq_true rfl) dX12_fieldHere_51 ⟨Nat.le_of_ble_eq_true rfl, Nat.le_of_ble_eq_true rfl⟩ (fun r_2 Φ2 sz2 st2 hp2 hs2 => ?_)
      obtain ⟨rfl, hq2, hI2, hF2⟩ := hp2
      subst sz2
      replace hs2 : st2 = [.long 140103982, .long va] := hs2
      subst st2
      replace hI2 : Im G x (rd, nw, cr, tp, tt, fl, pe, le, nx, il, qu, kn, ec, nu, va, st, ep, ti, ad, ob, ra, rt, ex, sa, us, tk, th) Φ2 := hI2
      refine z_ldc2 (v := 33554432) B (by decide +kernel) dX12_fieldHere_54 ?_
      refine z_lmul B dX12_fieldHere_57 ?_
      refine z_top (st1 := [.long 4701109536948224, .long va]) (congrArg (fun w9 : Int64 => ([.long w9, .long va] : List Value)) (show (140103982 * 33554432 : Int64) = 4701109536948224 by decide +kernel)) ?_
      refine z_bipush (v := 97) B dX12_fieldHere_58 rfl ?_
      refine z_bipush (v := 116) B dX12_fieldHere_60 rfl ?_
      refine z_bipush (v := 105) B dX12_fieldHere_62 rfl ?_
      refine z_bipush (v := 111) B dX12_fieldHere_64 rfl ?_
      refine z_bipush (v := 110) B dX12_fieldHere_66 rfl ?_
      refine z_iconst (v := 0) B dX12_fieldHere_68 rfl ?_
      refine z_callS (As := [.int 97, .int 116, .int 105, .int 111, .int 110, .int 0]) (rest := [.long 4701109536948224, .long va]) B (r_pack_97_116_105_111_110_0 G l Φ2 sz x rd nw cr tp tt fl pe le nx il qu kn ec nu va st ep ti ad ob ra rt ex sa us tk th  hx hI2 hnw) (va_cwS 6 B.1.2.2.2.2 gX12_fieldHere_X12_pack rfl rfl rfl (by decide +kernel) ⟨Nat.le_of_ble_eq_true rfl, Nat.le_of_ble_eq_true rfl⟩) rfl rfl (Nat.le_of_ble_eq_true rfl) dX12_fieldHere_69 ⟨Nat.le_of_ble_eq_true rfl, Nat.le_of_ble_eq_true rfl⟩ (fun r_3 Φ3 sz3 st3 hp3 hs3 => ?_)
      obtain ⟨rfl, hq3, hI3, hF3⟩ := hp3
      subst sz3
      replace hs3 : st3 = [.long 1713646, .long 4701109536948224, .long va] := hs3
      subst st3
      replace hI3 : Im G x (rd, nw, cr, tp, tt, fl, pe, le, nx, il, qu, kn, ec, nu, va, st, ep, ti, ad, ob, ra, rt, ex, sa, us, tk, th) Φ3 := hI3
      refine z_ladd B dX12_fieldHere_72 ?_
      refine z_top (st1 := [.long 4701109538661870, .long va]) (congrArg (fun w9 : Int64 => ([.long w9, .long va] : List Value)) (show (4701109536948224 + 1713646 : Int64) = 4701109538661870 by decide +kernel)) ?_
      refine z_lcmp B dX12_fieldHere_73 ?_
      refine z_if_ne (tgt := 79) B dX12_fieldHere_74 rfl (fun c_3 => ?_) (fun c_3 => ?_)
      · refine z_aload_n B dX12_fieldHere_79 rfl 0 rfl ?_
        have h_4 : Φ3 x = some (o_ 14 [.int th, .ref (x + 1), .ref (x + 2), .int ti, .int ra, .int (nI rt), .int ex, .int ad, .ref (x + 3), .ref (x + 4), .int v_1, .long v_2, .ref (x + 5), .int (nI fl), .int v_3, .long ob, .long sa, .long v_4, .long us, .ref (x + 6), .ref (x + 7), .int (nI pe), .ref (x + 8), .int (nI le), .ref (x + 9), .ref (x + 10), .int (nI qu), .ref (x + 11), .ref (x + 12), .ref (x + 13), .ref (x + 14), .ref (x + 15), .ref (x + 16), .int (nI n_1), .long v_5, .ref (x + 17), .ref (x + 18), .ref (x + 19), .ref (x + 20), .ref (x + 21), .ref (x + 22), .int (nI n_2), .ref (x + 23), .ref (x + 24), .int (nI tk), .ref (x + 25), .int (nI il), .int (nI nx), .int ec, .int ep, .int kn, .int (nI st), .int nu, .long va]) := ((hF3 x (fun j9 h8 h7 => (show False from h7).elim)).trans ((hF2 x (fun j9 h8 h7 => (show False from h7).elim)).trans h_3))
        refine z_get (ref := "FlowExporterModel") (C := RX12) (T := TX12) (N := 54) (ci := 14) (v := .long va) B hu_X12_fieldHere_X12 rfl 53 (Nat.le_of_ble_eq_true rfl) hv_X12_fieldHere_467 rfl h_4 rfl dX12_fieldHere_80 ?_
        refine z_bipush (v := 112) B dX12_fieldHere_83 rfl ?_
        refine z_bipush (v := 111) B dX12_fieldHere_85 rfl ?_
        refine z_bipush (v := 114) B dX12_fieldHere_87 rfl ?_
        refine z_bipush (v := 116) B dX12_fieldHere_89 rfl ?_
        refine z_iconst (v := 0) B dX12_fieldHere_91 rfl ?_
        refine z_iconst (v := 0) B dX12_fieldHere_92 rfl ?_
        refine z_callS (As := [.int 112, .int 111, .int 114, .int 116, .int 0, .int 0]) (rest := [.long va]) B (r_pack_112_111_114_116_0_0 G l Φ3 sz x rd nw cr tp tt fl pe le nx il qu kn ec nu va st ep ti ad ob ra rt ex sa us tk th  hx hI3 hnw) (va_cwS 6 B.1.2.2.2.2 gX12_fieldHere_X12_pack rfl rfl rfl (by decide +kernel) ⟨Nat.le_of_ble_eq_true rfl, Nat.le_of_ble_eq_true rfl⟩) rfl rfl (Nat.le_of_ble_eq_true rfl) dX12_fieldHere_93 ⟨Nat.le_of_ble_eq_true rfl, Nat.le_of_ble_eq_true rfl⟩ (fun r_4 Φ4 sz4 st4 hp4 hs4 => ?_)
        obtain ⟨rfl, hq4, hI4, hF4⟩ := hp4
        subst sz4
        replace hs4 : st4 = [.long 540244, .long va] := hs4
        subst st4
        replace hI4 : Im G x (rd, nw, cr, tp, tt, fl, pe, le, nx, il, qu, kn, ec, nu, va, st, ep, ti, ad, ob, ra, rt, ex, sa, us, tk, th) Φ4 := hI4
        refine z_lcmp B dX12_fieldHere_96 ?_
        refine z_if_ne (tgt := 102) B dX12_fieldHere_97 rfl (fun c_4 => ?_) (fun c_4 => ?_)
        · refine z_aload_n B dX12_fieldHere_102 rfl 0 rfl ?_
          have h_5 : Φ4 x = some (o_ 14 [.int th, .ref (x + 1), .ref (x + 2), .int ti, .int ra, .int (nI rt), .int ex, .int ad, .ref (x + 3), .ref (x + 4), .int v_1, .long v_2, .ref (x + 5), .int (nI fl), .int v_3, .long ob, .long sa, .long v_4, .long us, .ref (x + 6), .ref (x + 7), .int (nI pe), .ref (x + 8), .int (nI le), .ref (x + 9), .ref (x + 10), .int (nI qu), .ref (x + 11), .ref (x + 12), .ref (x + 13), .ref (x + 14), .ref (x + 15), .ref (x + 16), .int (nI n_1), .long v_5, .ref (x + 17), .ref (x + 18), .ref (x + 19), .ref (x + 20), .ref (x + 21), .ref (x + 22), .int (nI n_2), .ref (x + 23), .ref (x + 24), .int (nI tk), .ref (x + 25), .int (nI il), .int (nI nx), .int ec, .int ep, .int kn, .int (nI st), .int nu, .long va]) := ((hF4 x (fun j9 h8 h7 => (show False from h7).elim)).trans h_4)
          refine z_get (ref := "FlowExporterModel") (C := RX12) (T := TX12) (N := 54) (ci := 14) (v := .long va) B hu_X12_fieldHere_X12 rfl 53 (Nat.le_of_ble_eq_true rfl) hv_X12_fieldHere_467 rfl h_5 rfl dX12_fieldHere_103 ?_
          refine z_bipush (v := 112) B dX12_fieldHere_106 rfl ?_
          refine z_bipush (v := 114) B dX12_fieldHere_108 rfl ?_
          refine z_bipush (v := 111) B dX12_fieldHere_110 rfl ?_
          refine z_bipush (v := 116) B dX12_fieldHere_112 rfl ?_
          refine z_bipush (v := 111) B dX12_fieldHere_114 rfl ?_
          refine z_iconst (v := 0) B dX12_fieldHere_116 rfl ?_
          refine z_callS (As := [.int 112, .int 114, .int 111, .int 116, .int 111, .int 0]) (rest := [.long va]) B (r_pack_112_114_111_116_111_0 G l Φ4 sz x rd nw cr tp tt fl pe le nx il qu kn ec nu va st ep ti ad ob ra rt ex sa us tk th  hx hI4 hnw) (va_cwS 6 B.1.2.2.2.2 gX12_fieldHere_X12_pack rfl rfl rfl (by decide +kernel) ⟨Nat.le_of_ble_eq_true rfl, Nat.le_of_ble_eq_true rfl⟩) rfl rfl (Nat.le_of_ble_eq_true rfl) dX12_fieldHere_117 ⟨Nat.le_of_ble_eq_true rfl, Nat.le_of_ble_eq_true rfl⟩ (fun r_5 Φ5 sz5 st5 hp5 hs5 => ?_)
          obtain ⟨rfl, hq5, hI5, hF5⟩ := hp5
          subst sz5
          replace hs5 : st5 = [.long 17383055, .long va] := hs5
          subst st5
          replace hI5 : Im G x (rd, nw, cr, tp, tt, fl, pe, le, nx, il, qu, kn, ec, nu, va, st, ep, ti, ad, ob, ra, rt, ex, sa, us, tk, th) Φ5 := hI5
          refine z_ldc2 (v := 32768) B (by decide +kernel) dX12_fieldHere_120 ?_
          refine z_lmul B dX12_fieldHere_123 ?_
          refine z_top (st1 := [.long 569607946240, .long va]) (congrArg (fun w9 : Int64 => ([.long w9, .long va] : List Value)) (show (17383055 * 32768 : Int64) = 569607946240 by decide +kernel)) ?_
          refine z_bipush (v := 99) B dX12_fieldHere_124 rfl ?_
          refine z_bipush (v := 111) B dX12_fieldHere_126 rfl ?_
          refine z_bipush (v := 108) B dX12_fieldHere_128 rfl ?_
          refine z_iconst (v := 0) B dX12_fieldHere_130 rfl ?_
          refine z_iconst (v := 0) B dX12_fieldHere_131 rfl ?_
          refine z_iconst (v := 0) B dX12_fieldHere_132 rfl ?_
          refine z_callS (As := [.int 99, .int 111, .int 108, .int 0, .int 0, .int 0]) (rest := [.long 569607946240, .long va]) B (r_pack_99_111_108_0_0_0 G l Φ5 sz x rd nw cr tp tt fl pe le nx il qu kn ec nu va st ep ti ad ob ra rt ex sa us tk th  hx hI5 hnw) (va_cwS 6 B.1.2.2.2.2 gX12_fieldHere_X12_pack rfl rfl rfl (by decide +kernel) ⟨Nat.le_of_ble_eq_true rfl, Nat.le_of_ble_eq_true rfl⟩) rfl rfl (Nat.le_of_ble_eq_true rfl) dX12_fieldHere_133 ⟨Nat.le_of_ble_eq_true rfl, Nat.le_of_ble_eq_true rfl⟩ (fun r_6 Φ6 sz6 st6 hp6 hs6 => ?_)
          obtain ⟨rfl, hq6, hI6, hF6⟩ := hp6
          subst sz6
          replace hs6 : st6 = [.long 3564, .long 569607946240, .long va] := hs6
          subst st6
          replace hI6 : Im G x (rd, nw, cr, tp, tt, fl, pe, le, nx, il, qu, kn, ec, nu, va, st, ep, ti, ad, ob, ra, rt, ex, sa, us, tk, th) Φ6 := hI6
          refine z_ladd B dX12_fieldHere_136 ?_
          refine z_top (st1 := [.long 569607949804, .long va]) (congrArg (fun w9 : Int64 => ([.long w9, .long va] : List Value)) (show (569607946240 + 3564 : Int64) = 569607949804 by decide +kernel)) ?_
          refine z_lcmp B dX12_fieldHere_137 ?_
          refine z_if_ne (tgt := 143) B dX12_fieldHere_138 rfl (fun c_5 => ?_) (fun c_5 => ?_)
          · refine z_aload_n B dX12_fieldHere_143 rfl 0 rfl ?_
            have h_6 : Φ6 x = some (o_ 14 [.int th, .ref (x + 1), .ref (x + 2), .int ti, .int ra, .int (nI rt), .int ex, .int ad, .ref (x + 3), .ref (x + 4), .int v_1, .long v_2, .ref (x + 5), .int (nI fl), .int v_3, .long ob, .long sa, .long v_4, .long us, .ref (x + 6), .ref (x + 7), .int (nI pe), .ref (x + 8), .int (nI le), .ref (x + 9), .ref (x + 10), .int (nI qu), .ref (x + 11), .ref (x + 12), .ref (x + 13), .ref (x + 14), .ref (x + 15), .ref (x + 16), .int (nI n_1), .long v_5, .ref (x + 17), .ref (x + 18), .ref (x + 19), .ref (x + 20), .ref (x + 21), .ref (x + 22), .int (nI n_2), .ref (x + 23), .ref (x + 24), .int (nI tk), .ref (x + 25), .int (nI il), .int (nI nx), .int ec, .int ep, .int kn, .int (nI st), .int nu, .long va]) := ((hF6 x (fun j9 h8 h7 => (show False from h7).elim)).trans ((hF5 x (fun j9 h8 h7 => (show False from h7).elim)).trans h_5))
            refine z_get (ref := "FlowExporterModel") (C := RX12) (T := TX12) (N := 54) (ci := 14) (v := .long va) B hu_X12_fieldHere_X12 rfl 53 (Nat.le_of_ble_eq_true rfl) hv_X12_fieldHere_467 rfl h_6 rfl dX12_fieldHere_144 ?_
            refine z_bipush (v := 112) B dX12_fieldHere_147 rfl ?_
            refine z_bipush (v := 97) B dX12_fieldHere_149 rfl ?_
            refine z_bipush (v := 99) B dX12_fieldHere_151 rfl ?_
            refine z_bipush (v := 107) B dX12_fieldHere_153 rfl ?_
            refine z_iconst (v := 0) B dX12_fieldHere_155 rfl ?_
            refine z_iconst (v := 0) B dX12_fieldHere_156 rfl ?_
            refine z_callS (As := [.int 112, .int 97, .int 99, .int 107, .int 0, .int 0]) (rest := [.long va]) B (r_pack_112_97_99_107_0_0 G l Φ6 sz x rd nw cr tp tt fl pe le nx il qu kn ec nu va st ep ti ad ob ra rt ex sa us tk th  hx hI6 hnw) (va_cwS 6 B.1.2.2.2.2 gX12_fieldHere_X12_pack rfl rfl rfl (by decide +kernel) ⟨Nat.le_of_ble_eq_true rfl, Nat.le_of_ble_eq_true rfl⟩) rfl rfl (Nat.le_of_ble_eq_true rfl) dX12_fieldHere_157 ⟨Nat.le_of_ble_eq_true rfl, Nat.le_of_ble_eq_true rfl⟩ (fun r_7 Φ7 sz7 st7 hp7 hs7 => ?_)
            obtain ⟨rfl, hq7, hI7, hF7⟩ := hp7
            subst sz7
            replace hs7 : st7 = [.long 525419, .long va] := hs7
            subst st7
            replace hI7 : Im G x (rd, nw, cr, tp, tt, fl, pe, le, nx, il, qu, kn, ec, nu, va, st, ep, ti, ad, ob, ra, rt, ex, sa, us, tk, th) Φ7 := hI7
            refine z_ldc2 (v := 32768) B (by decide +kernel) dX12_fieldHere_160 ?_
            refine z_lmul B dX12_fieldHere_163 ?_
            refine z_top (st1 := [.long 17216929792, .long va]) (congrArg (fun w9 : Int64 => ([.long w9, .long va] : List Value)) (show (525419 * 32768 : Int64) = 17216929792 by decide +kernel)) ?_
            refine z_bipush (v := 101) B dX12_fieldHere_164 rfl ?_
            refine z_bipush (v := 116) B dX12_fieldHere_166 rfl ?_
            refine z_bipush (v := 115) B dX12_fieldHere_168 rfl ?_
            refine z_iconst (v := 0) B dX12_fieldHere_170 rfl ?_
            refine z_iconst (v := 0) B dX12_fieldHere_171 rfl ?_
            refine z_iconst (v := 0) B dX12_fieldHere_172 rfl ?_
            refine z_callS (As := [.int 101, .int 116, .int 115, .int 0, .int 0, .int 0]) (rest := [.long 17216929792, .long va]) B (r_pack_101_116_115_0_0_0 G l Φ7 sz x rd nw cr tp tt fl pe le nx il qu kn ec nu va st ep ti ad ob ra rt ex sa us tk th  hx hI7 hnw) (va_cwS 6 B.1.2.2.2.2 gX12_fieldHere_X12_pack rfl rfl rfl (by decide +kernel) ⟨Nat.le_of_ble_eq_true rfl, Nat.le_of_ble_eq_true rfl⟩) rfl rfl (Nat.le_of_ble_eq_true rfl) dX12_fieldHere_173 ⟨Nat.le_of_ble_eq_true rfl, Nat.le_of_ble_eq_true rfl⟩ (fun r_8 Φ8 sz8 st8 hp8 hs8 => ?_)
            obtain ⟨rfl, hq8, hI8, hF8⟩ := hp8
            subst sz8
            replace hs8 : st8 = [.long 5779, .long 17216929792, .long va] := hs8
            subst st8
            replace hI8 : Im G x (rd, nw, cr, tp, tt, fl, pe, le, nx, il, qu, kn, ec, nu, va, st, ep, ti, ad, ob, ra, rt, ex, sa, us, tk, th) Φ8 := hI8
            refine z_ladd B dX12_fieldHere_176 ?_
            refine z_top (st1 := [.long 17216935571, .long va]) (congrArg (fun w9 : Int64 => ([.long w9, .long va] : List Value)) (show (17216929792 + 5779 : Int64) = 17216935571 by decide +kernel)) ?_
            refine z_lcmp B dX12_fieldHere_177 ?_
            refine z_if_ne (tgt := 183) B dX12_fieldHere_178 rfl (fun c_6 => ?_) (fun c_6 => ?_)
            · refine z_aload_n B dX12_fieldHere_183 rfl 0 rfl ?_
              have h_7 : Φ8 x = some (o_ 14 [.int th, .ref (x + 1), .ref (x + 2), .int ti, .int ra, .int (nI rt), .int ex, .int ad, .ref (x + 3), .ref (x + 4), .int v_1, .long v_2, .ref (x + 5), .int (nI fl), .int v_3, .long ob, .long sa, .long v_4, .long us, .ref (x + 6), .ref (x + 7), .int (nI pe), .ref (x + 8), .int (nI le), .ref (x + 9), .ref (x + 10), .int (nI qu), .ref (x + 11), .ref (x + 12), .ref (x + 13), .ref (x + 14), .ref (x + 15), .ref (x + 16), .int (nI n_1), .long v_5, .ref (x + 17), .ref (x + 18), .ref (x + 19), .ref (x + 20), .ref (x + 21), .ref (x + 22), .int (nI n_2), .ref (x + 23), .ref (x + 24), .int (nI tk), .ref (x + 25), .int (nI il), .int (nI nx), .int ec, .int ep, .int kn, .int (nI st), .int nu, .long va]) := ((hF8 x (fun j9 h8 h7 => (show False from h7).elim)).trans ((hF7 x (fun j9 h8 h7 => (show False from h7).elim)).trans h_6))
              refine z_get (ref := "FlowExporterModel") (C := RX12) (T := TX12) (N := 54) (ci := 14) (v := .long va) B hu_X12_fieldHere_X12 rfl 53 (Nat.le_of_ble_eq_true rfl) hv_X12_fieldHere_467 rfl h_7 rfl dX12_fieldHere_184 ?_
              refine z_bipush (v := 98) B dX12_fieldHere_187 rfl ?_
              refine z_bipush (v := 121) B dX12_fieldHere_189 rfl ?_
              refine z_bipush (v := 116) B dX12_fieldHere_191 rfl ?_
              refine z_bipush (v := 101) B dX12_fieldHere_193 rfl ?_
              refine z_bipush (v := 115) B dX12_fieldHere_195 rfl ?_
              refine z_iconst (v := 0) B dX12_fieldHere_197 rfl ?_
              refine z_callS (As := [.int 98, .int 121, .int 116, .int 101, .int 115, .int 0]) (rest := [.long va]) B (r_pack_98_121_116_101_115_0 G l Φ8 sz x rd nw cr tp tt fl pe le nx il qu kn ec nu va st ep ti ad ob ra rt ex sa us tk th  hx hI8 hnw) (va_cwS 6 B.1.2.2.2.2 gX12_fieldHere_X12_pack rfl rfl rfl (by decide +kernel) ⟨Nat.le_of_ble_eq_true rfl, Nat.le_of_ble_eq_true rfl⟩) rfl rfl (Nat.le_of_ble_eq_true rfl) dX12_fieldHere_198 ⟨Nat.le_of_ble_eq_true rfl, Nat.le_of_ble_eq_true rfl⟩ (fun r_9 Φ9 sz9 st9 hp9 hs9 => ?_)
              obtain ⟨rfl, hq9, hI9, hF9⟩ := hp9
              subst sz9
              replace hs9 : st9 = [.long 2937011, .long va] := hs9
              subst st9
              replace hI9 : Im G x (rd, nw, cr, tp, tt, fl, pe, le, nx, il, qu, kn, ec, nu, va, st, ep, ti, ad, ob, ra, rt, ex, sa, us, tk, th) Φ9 := hI9
              refine z_lcmp B dX12_fieldHere_201 ?_
              refine z_if_ne (tgt := 207) B dX12_fieldHere_202 rfl (fun c_7 => ?_) (fun c_7 => ?_)
              · refine z_aload_n B dX12_fieldHere_207 rfl 0 rfl ?_
                have h_8 : Φ9 x = some (o_ 14 [.int th, .ref (x + 1), .ref (x + 2), .int ti, .int ra, .int (nI rt), .int ex, .int ad, .ref (x + 3), .ref (x + 4), .int v_1, .long v_2, .ref (x + 5), .int (nI fl), .int v_3, .long ob, .long sa, .long v_4, .long us, .ref (x + 6), .ref (x + 7), .int (nI pe), .ref (x + 8), .int (nI le), .ref (x + 9), .ref (x + 10), .int (nI qu), .ref (x + 11), .ref (x + 12), .ref (x + 13), .ref (x + 14), .ref (x + 15), .ref (x + 16), .int (nI n_1), .long v_5, .ref (x + 17), .ref (x + 18), .ref (x + 19), .ref (x + 20), .ref (x + 21), .ref (x + 22), .int (nI n_2), .ref (x + 23), .ref (x + 24), .int (nI tk), .ref (x + 25), .int (nI il), .int (nI nx), .int ec, .int ep, .int kn, .int (nI st), .int nu, .long va]) := ((hF9 x (fun j9 h8 h7 => (show False from h7).elim)).trans h_7)
                refine z_get (ref := "FlowExporterModel") (C := RX12) (T := TX12) (N := 54) (ci := 14) (v := .long va) B hu_X12_fieldHere_X12 rfl 53 (Nat.le_of_ble_eq_true rfl) hv_X12_fieldHere_467 rfl h_8 rfl dX12_fieldHere_208 ?_
                refine z_bipush (v := 102) B dX12_fieldHere_211 rfl ?_
                refine z_bipush (v := 105) B dX12_fieldHere_213 rfl ?_
                refine z_bipush (v := 114) B dX12_fieldHere_215 rfl ?_
                refine z_bipush (v := 115) B dX12_fieldHere_217 rfl ?_
                refine z_bipush (v := 116) B dX12_fieldHere_219 rfl ?_
                refine z_iconst (v := 0) B dX12_fieldHere_221 rfl ?_
                refine z_callS (As := [.int 102, .int 105, .int 114, .int 115, .int 116, .int 0]) (rest := [.long va]) B (r_pack_102_105_114_115_116_0 G l Φ9 sz x rd nw cr tp tt fl pe le nx il qu kn ec nu va st ep ti ad ob ra rt ex sa us tk th  hx hI9 hnw) (va_cwS 6 B.1.2.2.2.2 gX12_fieldHere_X12_pack rfl rfl rfl (by decide +kernel) ⟨Nat.le_of_ble_eq_true rfl, Nat.le_of_ble_eq_true rfl⟩) rfl rfl (Nat.le_of_ble_eq_true rfl) dX12_fieldHere_222 ⟨Nat.le_of_ble_eq_true rfl, Nat.le_of_ble_eq_true rfl⟩ (fun r_10 Φ10 sz10 st10 hp10 hs10 => ?_)
                obtain ⟨rfl, hq10, hI10, hF10⟩ := hp10
                subst sz10
                replace hs10 : st10 = [.long 6605428, .long va] := hs10
                subst st10
                replace hI10 : Im G x (rd, nw, cr, tp, tt, fl, pe, le, nx, il, qu, kn, ec, nu, va, st, ep, ti, ad, ob, ra, rt, ex, sa, us, tk, th) Φ10 := hI10
                refine z_lcmp B dX12_fieldHere_225 ?_
                refine z_if_ne (tgt := 232) B dX12_fieldHere_226 rfl (fun c_8 => ?_) (fun c_8 => ?_)
                · refine z_aload_n B dX12_fieldHere_232 rfl 0 rfl ?_
                  have h_9 : Φ10 x = some (o_ 14 [.int th, .ref (x + 1), .ref (x + 2), .int ti, .int ra, .int (nI rt), .int ex, .int ad, .ref (x + 3), .ref (x + 4), .int v_1, .long v_2, .ref (x + 5), .int (nI fl), .int v_3, .long ob, .long sa, .long v_4, .long us, .ref (x + 6), .ref (x + 7), .int (nI pe), .ref (x + 8), .int (nI le), .ref (x + 9), .ref (x + 10), .int (nI qu), .ref (x + 11), .ref (x + 12), .ref (x + 13), .ref (x + 14), .ref (x + 15), .ref (x + 16), .int (nI n_1), .long v_5, .ref (x + 17), .ref (x + 18), .ref (x + 19), .ref (x + 20), .ref (x + 21), .ref (x + 22), .int (nI n_2), .ref (x + 23), .ref (x + 24), .int (nI tk), .ref (x + 25), .int (nI il), .int (nI nx), .int ec, .int ep, .int kn, .int (nI st), .int nu, .long va]) := ((hF10 x (fun j9 h8 h7 => (show False from h7).elim)).trans h_8)
                  refine z_get (ref := "FlowExporterModel") (C := RX12) (T := TX12) (N := 54) (ci := 14) (v := .long va) B hu_X12_fieldHere_X12 rfl 53 (Nat.le_of_ble_eq_true rfl) hv_X12_fieldHere_467 rfl h_9 rfl dX12_fieldHere_233 ?_
                  refine z_bipush (v := 108) B dX12_fieldHere_236 rfl ?_
                  refine z_bipush (v := 97) B dX12_fieldHere_238 rfl ?_
                  refine z_bipush (v := 115) B dX12_fieldHere_240 rfl ?_
                  refine z_bipush (v := 116) B dX12_fieldHere_242 rfl ?_
                  refine z_iconst (v := 0) B dX12_fieldHere_244 rfl ?_
                  refine z_iconst (v := 0) B dX12_fieldHere_245 rfl ?_
                  refine z_callS (As := [.int 108, .int 97, .int 115, .int 116, .int 0, .int 0]) (rest := [.long va]) B (r_pack_108_97_115_116_0_0 G l Φ10 sz x rd nw cr tp tt fl pe le nx il qu kn ec nu va st ep ti ad ob ra rt ex sa us tk th  hx hI10 hnw) (va_cwS 6 B.1.2.2.2.2 gX12_fieldHere_X12_pack rfl rfl rfl (by decide +kernel) ⟨Nat.le_of_ble_eq_true rfl, Nat.le_of_ble_eq_true rfl⟩) rfl rfl (Nat.le_of_ble_eq_true rfl) dX12_fieldHere_246 ⟨Nat.le_of_ble_eq_true rfl, Nat.le_of_ble_eq_true rfl⟩ (fun r_11 Φ11 sz11 st11 hp11 hs11 => ?_)
                  obtain ⟨rfl, hq11, hI11, hF11⟩ := hp11
                  subst sz11
                  replace hs11 : st11 = [.long 394868, .long va] := hs11
                  subst st11
                  replace hI11 : Im G x (rd, nw, cr, tp, tt, fl, pe, le, nx, il, qu, kn, ec, nu, va, st, ep, ti, ad, ob, ra, rt, ex, sa, us, tk, th) Φ11 := hI11
                  refine z_lcmp B dX12_fieldHere_249 ?_
                  refine z_if_ne (tgt := 256) B dX12_fieldHere_250 rfl (fun c_9 => ?_) (fun c_9 => ?_)
                  · refine z_aload_n B dX12_fieldHere_256 rfl 0 rfl ?_
                    have h_10 : Φ11 x = some (o_ 14 [.int th, .ref (x + 1), .ref (x + 2), .int ti, .int ra, .int (nI rt), .int ex, .int ad, .ref (x + 3), .ref (x + 4), .int v_1, .long v_2, .ref (x + 5), .int (nI fl), .int v_3, .long ob, .long sa, .long v_4, .long us, .ref (x + 6), .ref (x + 7), .int (nI pe), .ref (x + 8), .int (nI le), .ref (x + 9), .ref (x + 10), .int (nI qu), .ref (x + 11), .ref (x + 12), .ref (x + 13), .ref (x + 14), .ref (x + 15), .ref (x + 16), .int (nI n_1), .long v_5, .ref (x + 17), .ref (x + 18), .ref (x + 19), .ref (x + 20), .ref (x + 21), .ref (x + 22), .int (nI n_2), .ref (x + 23), .ref (x + 24), .int (nI tk), .ref (x + 25), .int (nI il), .int (nI nx), .int ec, .int ep, .int kn, .int (nI st), .int nu, .long va]) := ((hF11 x (fun j9 h8 h7 => (show False from h7).elim)).trans h_9)
                    refine z_get (ref := "FlowExporterModel") (C := RX12) (T := TX12) (N := 54) (ci := 14) (v := .long va) B hu_X12_fieldHere_X12 rfl 53 (Nat.le_of_ble_eq_true rfl) hv_X12_fieldHere_467 rfl h_10 rfl dX12_fieldHere_257 ?_
                    refine z_bipush (v := 114) B dX12_fieldHere_260 rfl ?_
                    refine z_bipush (v := 97) B dX12_fieldHere_262 rfl ?_
                    refine z_bipush (v := 116) B dX12_fieldHere_264 rfl ?_
                    refine z_bipush (v := 101) B dX12_fieldHere_266 rfl ?_
                    refine z_iconst (v := 0) B dX12_fieldHere_268 rfl ?_
                    refine z_iconst (v := 0) B dX12_fieldHere_269 rfl ?_
                    refine z_callS (As := [.int 114, .int 97, .int 116, .int 101, .int 0, .int 0]) (rest := [.long va]) B (r_pack_114_97_116_101_0_0 G l Φ11 sz x rd nw cr tp tt fl pe le nx il qu kn ec nu va st ep ti ad ob ra rt ex sa us tk th  hx hI11 hnw) (va_cwS 6 B.1.2.2.2.2 gX12_fieldHere_X12_pack rfl rfl rfl (by decide +kernel) ⟨Nat.le_of_ble_eq_true rfl, Nat.le_of_ble_eq_true rfl⟩) rfl rfl (Nat.le_of_ble_eq_true rfl) dX12_fieldHere_270 ⟨Nat.le_of_ble_eq_true rfl, Nat.le_of_ble_eq_true rfl⟩ (fun r_12 Φ12 sz12 st12 hp12 hs12 => ?_)
                    obtain ⟨rfl, hq12, hI12, hF12⟩ := hp12
                    subst sz12
                    replace hs12 : st12 = [.long 591493, .long va] := hs12
                    subst st12
                    replace hI12 : Im G x (rd, nw, cr, tp, tt, fl, pe, le, nx, il, qu, kn, ec, nu, va, st, ep, ti, ad, ob, ra, rt, ex, sa, us, tk, th) Φ12 := hI12
                    refine z_lcmp B dX12_fieldHere_273 ?_
                    refine z_if_ne (tgt := 282) B dX12_fieldHere_274 rfl (fun c_10 => ?_) (fun c_10 => ?_)
                    · refine z_iconst (v := (-1)) B dX12_fieldHere_282 rfl ?_
                      exact z_ret_i B dX12_fieldHere_283 ⟨(show some (Value.int (-1)) = some (.int (fHf kn va)) by unfold fHf; rw [if_pos c_1, if_neg (fun h9 => c_2 ((lg_cmp_eq _ _).mpr h9)), if_neg (fun h9 => c_3 ((lg_cmp_eq _ _).mpr h9)), if_neg (fun h9 => c_4 ((lg_cmp_eq _ _).mpr h9)), if_neg (fun h9 => c_5 ((lg_cmp_eq _ _).mpr h9)), if_neg (fun h9 => c_6 ((lg_cmp_eq _ _).mpr h9)), if_neg (fun h9 => c_7 ((lg_cmp_eq _ _).mpr h9)), if_neg (fun h9 => c_8 ((lg_cmp_eq _ _).mpr h9)), if_neg (fun h9 => c_9 ((lg_cmp_eq _ _).mpr h9)), if_neg (fun h9 => c_10 ((lg_cmp_eq _ _).mpr h9))]), rfl, hI12, (fun b9 h9 => ((hF12 b9 (fun j9 h8 h7 => (show False from h7).elim)).trans ((hF11 b9 (fun j9 h8 h7 => (show False from h7).elim)).trans ((hF10 b9 (fun j9 h8 h7 => (show False from h7).elim)).trans ((hF9 b9 (fun j9 h8 h7 => (show False from h7).elim)).trans ((hF8 b9 (fun j9 h8 h7 => (show False from h7).elim)).trans ((hF7 b9 (fun j9 h8 h7 => (show False from h7).elim)).trans ((hF6 b9 (fun j9 h8 h7 => (show False from h7).elim)).trans ((hF5 b9 (fun j9 h8 h7 => (show False from h7).elim)).trans ((hF4 b9 (fun j9 h8 h7 => (show False from h7).elim)).trans ((hF3 b9 (fun j9 h8 h7 => (show False from h7).elim)).trans ((hF2 b9 (fun j9 h8 h7 => (show False from h7).elim)).trans ((hF1 b9 (fun j9 h8 h7 => (show False from h7).elim)).trans rfl)))))))))))))⟩
                    · refine z_bipush (v := 8) B dX12_fieldHere_277 rfl ?_
                      refine z_goto (tgt := 283) B dX12_fieldHere_279 rfl ?_
                      exact z_ret_i B dX12_fieldHere_283 ⟨(show some (Value.int 8) = some (.int (fHf kn va)) by unfold fHf; rw [if_pos c_1, if_neg (fun h9 => c_2 ((lg_cmp_eq _ _).mpr h9)), if_neg (fun h9 => c_3 ((lg_cmp_eq _ _).mpr h9)), if_neg (fun h9 => c_4 ((lg_cmp_eq _ _).mpr h9)), if_neg (fun h9 => c_5 ((lg_cmp_eq _ _).mpr h9)), if_neg (fun h9 => c_6 ((lg_cmp_eq _ _).mpr h9)), if_neg (fun h9 => c_7 ((lg_cmp_eq _ _).mpr h9)), if_neg (fun h9 => c_8 ((lg_cmp_eq _ _).mpr h9)), if_neg (fun h9 => c_9 ((lg_cmp_eq _ _).mpr h9)), if_pos (lcmp_eq c_10)]), rfl, hI12, (fun b9 h9 => ((hF12 b9 (fun j9 h8 h7 => (show False from h7).elim)).trans ((hF11 b9 (fun j9 h8 h7 => (show False from h7).elim)).trans ((hF10 b9 (fun j9 h8 h7 => (show False from h7).elim)).trans ((hF9 b9 (fun j9 h8 h7 => (show False from h7).elim)).trans ((hF8 b9 (fun j9 h8 h7 => (show False from h7).elim)).trans ((hF7 b9 (fun j9 h8 h7 => (show False from h7).elim)).trans ((hF6 b9 (fun j9 h8 h7 => (show False from h7).elim)).trans ((hF5 b9 (fun j9 h8 h7 => (show False from h7).elim)).trans ((hF4 b9 (fun j9 h8 h7 => (show False from h7).elim)).trans ((hF3 b9 (fun j9 h8 h7 => (show False from h7).elim)).trans ((hF2 b9 (fun j9 h8 h7 => (show False from h7).elim)).trans ((hF1 b9 (fun j9 h8 h7 => (show False from h7).elim)).trans rfl)))))))))))))⟩
                  · refine z_bipush (v := 7) B dX12_fieldHere_253 rfl ?_
                    exact z_ret_i B dX12_fieldHere_255 ⟨(show some (Value.int 7) = some (.int (fHf kn va)) by unfold fHf; rw [if_pos c_1, if_neg (fun h9 => c_2 ((lg_cmp_eq _ _).mpr h9)), if_neg (fun h9 => c_3 ((lg_cmp_eq _ _).mpr h9)), if_neg (fun h9 => c_4 ((lg_cmp_eq _ _).mpr h9)), if_neg (fun h9 => c_5 ((lg_cmp_eq _ _).mpr h9)), if_neg (fun h9 => c_6 ((lg_cmp_eq _ _).mpr h9)), if_neg (fun h9 => c_7 ((lg_cmp_eq _ _).mpr h9)), if_neg (fun h9 => c_8 ((lg_cmp_eq _ _).mpr h9)), if_pos (lcmp_eq c_9)]), rfl, hI11, (fun b9 h9 => ((hF11 b9 (fun j9 h8 h7 => (show False from h7).elim)).trans ((hF10 b9 (fun j9 h8 h7 => (show False from h7).elim)).trans ((hF9 b9 (fun j9 h8 h7 => (show False from h7).elim)).trans ((hF8 b9 (fun j9 h8 h7 => (show False from h7).elim)).trans ((hF7 b9 (fun j9 h8 h7 => (show False from h7).elim)).trans ((hF6 b9 (fun j9 h8 h7 => (show False from h7).elim)).trans ((hF5 b9 (fun j9 h8 h7 => (show False from h7).elim)).trans ((hF4 b9 (fun j9 h8 h7 => (show False from h7).elim)).trans ((hF3 b9 (fun j9 h8 h7 => (show False from h7).elim)).trans ((hF2 b9 (fun j9 h8 h7 => (show False from h7).elim)).trans ((hF1 b9 (fun j9 h8 h7 => (show False from h7).elim)).trans rfl))))))))))))⟩
                · refine z_bipush (v := 6) B dX12_fieldHere_229 rfl ?_
                  exact z_ret_i B dX12_fieldHere_231 ⟨(show some (Value.int 6) = some (.int (fHf kn va)) by unfold fHf; rw [if_pos c_1, if_neg (fun h9 => c_2 ((lg_cmp_eq _ _).mpr h9)), if_neg (fun h9 => c_3 ((lg_cmp_eq _ _).mpr h9)), if_neg (fun h9 => c_4 ((lg_cmp_eq _ _).mpr h9)), if_neg (fun h9 => c_5 ((lg_cmp_eq _ _).mpr h9)), if_neg (fun h9 => c_6 ((lg_cmp_eq _ _).mpr h9)), if_neg (fun h9 => c_7 ((lg_cmp_eq _ _).mpr h9)), if_pos (lcmp_eq c_8)]), rfl, hI10, (fun b9 h9 => ((hF10 b9 (fun j9 h8 h7 => (show False from h7).elim)).trans ((hF9 b9 (fun j9 h8 h7 => (show False from h7).elim)).trans ((hF8 b9 (fun j9 h8 h7 => (show False from h7).elim)).trans ((hF7 b9 (fun j9 h8 h7 => (show False from h7).elim)).trans ((hF6 b9 (fun j9 h8 h7 => (show False from h7).elim)).trans ((hF5 b9 (fun j9 h8 h7 => (show False from h7).elim)).trans ((hF4 b9 (fun j9 h8 h7 => (show False from h7).elim)).trans ((hF3 b9 (fun j9 h8 h7 => (show False from h7).elim)).trans ((hF2 b9 (fun j9 h8 h7 => (show False from h7).elim)).trans ((hF1 b9 (fun j9 h8 h7 => (show False from h7).elim)).trans rfl)))))))))))⟩
              · refine z_iconst (v := 5) B dX12_fieldHere_205 rfl ?_
                exact z_ret_i B dX12_fieldHere_206 ⟨(show some (Value.int 5) = some (.int (fHf kn va)) by unfold fHf; rw [if_pos c_1, if_neg (fun h9 => c_2 ((lg_cmp_eq _ _).mpr h9)), if_neg (fun h9 => c_3 ((lg_cmp_eq _ _).mpr h9)), if_neg (fun h9 => c_4 ((lg_cmp_eq _ _).mpr h9)), if_neg (fun h9 => c_5 ((lg_cmp_eq _ _).mpr h9)), if_neg (fun h9 => c_6 ((lg_cmp_eq _ _).mpr h9)), if_pos (lcmp_eq c_7)]), rfl, hI9, (fun b9 h9 => ((hF9 b9 (fun j9 h8 h7 => (show False from h7).elim)).trans ((hF8 b9 (fun j9 h8 h7 => (show False from h7).elim)).trans ((hF7 b9 (fun j9 h8 h7 => (show False from h7).elim)).trans ((hF6 b9 (fun j9 h8 h7 => (show False from h7).elim)).trans ((hF5 b9 (fun j9 h8 h7 => (show False from h7).elim)).trans ((hF4 b9 (fun j9 h8 h7 => (show False from h7).elim)).trans ((hF3 b9 (fun j9 h8 h7 => (show False from h7).elim)).trans ((hF2 b9 (fun j9 h8 h7 => (show False from h7).elim)).trans ((hF1 b9 (fun j9 h8 h7 => (show False from h7).elim)).trans rfl))))))))))⟩
            · refine z_iconst (v := 4) B dX12_fieldHere_181 rfl ?_
              exact z_ret_i B dX12_fieldHere_182 ⟨(show some (Value.int 4) = some (.int (fHf kn va)) by unfold fHf; rw [if_pos c_1, if_neg (fun h9 => c_2 ((lg_cmp_eq _ _).mpr h9)), if_neg (fun h9 => c_3 ((lg_cmp_eq _ _).mpr h9)), if_neg (fun h9 => c_4 ((lg_cmp_eq _ _).mpr h9)), if_neg (fun h9 => c_5 ((lg_cmp_eq _ _).mpr h9)), if_pos (lcmp_eq c_6)]), rfl, hI8, (fun b9 h9 => ((hF8 b9 (fun j9 h8 h7 => (show False from h7).elim)).trans ((hF7 b9 (fun j9 h8 h7 => (show False from h7).elim)).trans ((hF6 b9 (fun j9 h8 h7 => (show False from h7).elim)).trans ((hF5 b9 (fun j9 h8 h7 => (show False from h7).elim)).trans ((hF4 b9 (fun j9 h8 h7 => (show False from h7).elim)).trans ((hF3 b9 (fun j9 h8 h7 => (show False from h7).elim)).trans ((hF2 b9 (fun j9 h8 h7 => (show False from h7).elim)).trans ((hF1 b9 (fun j9 h8 h7 => (show False from h7).elim)).trans rfl)))))))))⟩
          · refine z_iconst (v := 3) B dX12_fieldHere_141 rfl ?_
            exact z_ret_i B dX12_fieldHere_142 ⟨(show some (Value.int 3) = some (.int (fHf kn va)) by unfold fHf; rw [if_pos c_1, if_neg (fun h9 => c_2 ((lg_cmp_eq _ _).mpr h9)), if_neg (fun h9 => c_3 ((lg_cmp_eq _ _).mpr h9)), if_neg (fun h9 => c_4 ((lg_cmp_eq _ _).mpr h9)), if_pos (lcmp_eq c_5)]), rfl, hI6, (fun b9 h9 => ((hF6 b9 (fun j9 h8 h7 => (show False from h7).elim)).trans ((hF5 b9 (fun j9 h8 h7 => (show False from h7).elim)).trans ((hF4 b9 (fun j9 h8 h7 => (show False from h7).elim)).trans ((hF3 b9 (fun j9 h8 h7 => (show False from h7).elim)).trans ((hF2 b9 (fun j9 h8 h7 => (show False from h7).elim)).trans ((hF1 b9 (fun j9 h8 h7 => (show False from h7).elim)).trans rfl)))))))⟩
        · refine z_iconst (v := 2) B dX12_fieldHere_100 rfl ?_
          exact z_ret_i B dX12_fieldHere_101 ⟨(show some (Value.int 2) = some (.int (fHf kn va)) by unfold fHf; rw [if_pos c_1, if_neg (fun h9 => c_2 ((lg_cmp_eq _ _).mpr h9)), if_neg (fun h9 => c_3 ((lg_cmp_eq _ _).mpr h9)), if_pos (lcmp_eq c_4)]), rfl, hI4, (fun b9 h9 => ((hF4 b9 (fun j9 h8 h7 => (show False from h7).elim)).trans ((hF3 b9 (fun j9 h8 h7 => (show False from h7).elim)).trans ((hF2 b9 (fun j9 h8 h7 => (show False from h7).elim)).trans ((hF1 b9 (fun j9 h8 h7 => (show False from h7).elim)).trans rfl)))))⟩
      · refine z_iconst (v := 1) B dX12_fieldHere_77 rfl ?_
        exact z_ret_i B dX12_fieldHere_78 ⟨(show some (Value.int 1) = some (.int (fHf kn va)) by unfold fHf; rw [if_pos c_1, if_neg (fun h9 => c_2 ((lg_cmp_eq _ _).mpr h9)), if_pos (lcmp_eq c_3)]), rfl, hI3, (fun b9 h9 => ((hF3 b9 (fun j9 h8 h7 => (show False from h7).elim)).trans ((hF2 b9 (fun j9 h8 h7 => (show False from h7).elim)).trans ((hF1 b9 (fun j9 h8 h7 => (show False from h7).elim)).trans rfl))))⟩
    · refine z_iconst (v := 0) B dX12_fieldHere_33 rfl ?_
      exact z_ret_i B dX12_fieldHere_34 ⟨(show some (Value.int 0) = some (.int (fHf kn va)) by unfold fHf; rw [if_pos c_1, if_pos (lcmp_eq c_2)]), rfl, hI1, (fun b9 h9 => ((hF1 b9 (fun j9 h8 h7 => (show False from h7).elim)).trans rfl))⟩
  · refine z_iconst (v := (-1)) B dX12_fieldHere_8 rfl ?_
    exact z_ret_i B dX12_fieldHere_9 ⟨(show some (Value.int (-1)) = some (.int (fHf kn va)) by unfold fHf; rw [if_neg c_1]), rfl, hI, (fun b9 h9 => rfl)⟩

theorem hu_X12_readNumber_X12 : ∀ w ∈ u_ws RX12 TX12 54, w ∈ wsX12_readNumber := fun _ h => List.mem_cons_of_mem _ (List.mem_append_left _ (List.mem_append_right _ (h)))

theorem hv_X12_readNumber_476 : Cond.fieldLink RX12 476 "FlowExporterModel" (TX12 50).2.1 (TX12 50).2.2.1 ∈ wsX12_readNumber := List.mem_cons_of_mem _ (List.mem_append_left _ (List.mem_append_left _ (List.mem_append_left _ (List.mem_of_getElem? (i := 0) rfl))))

theorem hv_X12_readNumber_467 : Cond.fieldLink RX12 467 "FlowExporterModel" (TX12 53).2.1 (TX12 53).2.2.1 ∈ wsX12_readNumber := List.mem_cons_of_mem _ (List.mem_append_left _ (List.mem_append_left _ (List.mem_append_left _ (List.mem_of_getElem? (i := 1) rfl))))

theorem hv_X12_readNumber_486 : Cond.fieldLink RX12 486 "FlowExporterModel" (TX12 52).2.1 (TX12 52).2.2.1 ∈ wsX12_readNumber := List.mem_cons_of_mem _ (List.mem_append_left _ (List.mem_append_left _ (List.mem_append_left _ (List.mem_of_getElem? (i := 2) rfl))))

set_option maxRecDepth 20000 in
theorem ggX12_readStatement_X12_fail : GoodIn wsX12_readStatement wsX12_fail := goodIn_r _ [9, 10, 11, 12, 78, 79, 80, 81, 82, 83, 84, 85, 86, 87, 88, 89, 90, 91, 92, 93, 94, 95, 96, 97, 98, 99, 100, 101, 102, 103, 104, 105, 106, 107, 108, 109, 110, 111, 112, 113, 114, 115, 116, 117, 118, 119, 120, 121, 122, 123, 124, 125, 126, 127, 128, 129, 130, 131] (by decide +kernel) (by decide +kernel)
set_option maxRecDepth 20000 in
theorem gX12_readStatement_X12_fail : GoodIn wsX12_readStatement (wsV RX12 483 RX12 yX12_fail wsX12_fail) := goodIn_app (goodIn_of _ (by decide +kernel)) ggX12_readStatement_X12_fail
set_option maxRecDepth 20000 in
theorem ggX12_readStatement_X12_pack : GoodIn wsX12_readStatement wsX12_pack := goodIn_r _ [15, 16, 17] (by decide +kernel) (by decide +kernel)
set_option maxRecDepth 20000 in
theorem gX12_readStatement_X12_pack : GoodIn wsX12_readStatement (va_wsS RX12 495 yX12_pack wsX12_pack) := goodIn_app (goodIn_of _ (by decide +kernel)) ggX12_readStatement_X12_pack
set_option maxRecDepth 20000 in
theorem ggX12_readStatement_X12_readSetting : GoodIn wsX12_readStatement wsX12_readSetting := goodIn_ca (goodIn_r _ [21, 22, 23, 24, 8, 25, 26, 11, 2, 1, 17, 16, 27, 28, 29, 30, 31, 32, 33, 34, 35, 36, 37, 38, 39, 40, 41, 42, 43, 44, 45, 46, 47, 48, 49, 50, 51, 52, 53, 54, 55, 56, 5, 6, 7, 9, 10, 12, 57, 58, 59, 60, 78, 79, 80, 81, 82, 83, 84, 85, 86, 87, 88, 89, 90, 91, 92, 93, 94, 95, 96, 97, 98, 99, 100, 101, 102, 103, 104, 105, 106, 107, 108, 109, 110, 111, 112, 113, 114, 115, 116, 117, 118, 119, 120, 121, 122, 123, 124, 125, 126, 127, 128, 129, 130, 131] (by decide +kernel) (by decide +kernel)) (goodIn_sub (fun _ h => List.mem_cons_of_mem _ (List.mem_append_right _ h)) (by decide +kernel))
set_option maxRecDepth 20000 in
theorem gX12_readStatement_X12_readSetting : GoodIn wsX12_readStatement (wsV RX12 514 RX12 yX12_readSetting wsX12_readSetting) := goodIn_app (goodIn_of _ (by decide +kernel)) ggX12_readStatement_X12_readSetting
set_option maxRecDepth 20000 in
theorem ggX12_readStatement_X12_readTemplate : GoodIn wsX12_readStatement wsX12_readTemplate := goodIn_ca (goodIn_r _ [64, 51, 5, 6, 7, 8, 9, 10, 11, 12, 22, 23, 24, 25, 26, 2, 1, 17, 16, 27, 28, 29, 30, 31, 32, 33, 34, 35, 36, 37, 38, 39, 40, 41, 42, 43, 44, 45, 46, 65, 66, 67, 68, 69, 3, 13, 14, 15, 57, 58, 59, 60, 78, 79, 80, 81, 82, 83, 84, 85, 86, 87, 88, 89, 90, 91, 92, 93, 94, 95, 96, 97, 98, 99, 100, 101, 102, 103, 104, 105, 106, 107, 108, 109, 110, 111, 112, 113, 114, 115, 116, 117, 118, 119, 120, 121, 122, 123, 124, 125, 126, 127, 128, 129, 130, 131] (by decide +kernel) (by decide +kernel)) (goodIn_sub (fun _ h => List.mem_cons_of_mem _ (List.mem_append_right _ h)) (by decide +kernel))
set_option maxRecDepth 20000 in
theorem gX12_readStatement_X12_readTemplate : GoodIn wsX12_readStatement (wsV RX12 518 RX12 yX12_readTemplate wsX12_readTemplate) := goodIn_app (goodIn_of _ (by decide +kernel)) ggX12_readStatement_X12_readTemplate
set_option maxRecDepth 20000 in
theorem ggX12_readStatement_X12_readUse : GoodIn wsX12_readStatement wsX12_readUse := goodIn_ca (goodIn_r _ [73, 52, 51, 22, 23, 24, 8, 25, 26, 11, 2, 1, 17, 16, 27, 28, 29, 30, 31, 32, 33, 34, 35, 36, 37, 38, 39, 40, 41, 42, 43, 44, 45, 46, 53, 54, 55, 56, 5, 6, 7, 9, 10, 12, 47, 48, 49, 50, 57, 58, 59, 60, 78, 79, 80, 81, 82, 83, 84, 85, 86, 87, 88, 89, 90, 91, 92, 93, 94, 95, 96, 97, 98, 99, 100, 101, 102, 103, 104, 105, 106, 107, 108, 109, 110, 111, 112, 113, 114, 115, 116, 117, 118, 119, 120, 121, 122, 123, 124, 125, 126, 127, 128, 129, 130, 131] (by decide +kernel) (by decide +kernel)) (goodIn_sub (fun _ h => List.mem_cons_of_mem _ (List.mem_append_right _ h)) (by decide +kernel))
set_option maxRecDepth 20000 in
theorem gX12_readStatement_X12_readUse : GoodIn wsX12_readStatement (wsV RX12 521 RX12 yX12_readUse wsX12_readUse) := goodIn_app (goodIn_of _ (by decide +kernel)) ggX12_readStatement_X12_readUse
set_option maxRecDepth 20000 in
theorem ggX12_readStatement_X12_readDrop : GoodIn wsX12_readStatement wsX12_readDrop := goodIn_ca (goodIn_r _ [77, 51, 22, 23, 24, 8, 25, 26, 11, 2, 1, 17, 16, 27, 28, 29, 30, 31, 32, 33, 34, 35, 36, 37, 38, 39, 40, 41, 42, 43, 44, 45, 46, 65, 66, 67, 68, 69, 3, 13, 14, 15, 5, 6, 7, 9, 10, 12, 57, 58, 59, 60, 78, 79, 80, 81, 82, 83, 84, 85, 86, 87, 88, 89, 90, 91, 92, 93, 94, 95, 96, 97, 98, 99, 100, 101, 102, 103, 104, 105, 106, 107, 108, 109, 110, 111, 112, 113, 114, 115, 116, 117, 118, 119, 120, 121, 122, 123, 124, 125, 126, 127, 128, 129, 130, 131] (by decide +kernel) (by decide +kernel)) (goodIn_sub (fun _ h => List.mem_cons_of_mem _ (List.mem_append_right _ h)) (by decide +kernel))
set_option maxRecDepth 20000 in
theorem gX12_readStatement_X12_readDrop : GoodIn wsX12_readStatement (wsV RX12 524 RX12 yX12_readDrop wsX12_readDrop) := goodIn_app (goodIn_of _ (by decide +kernel)) ggX12_readStatement_X12_readDrop
set_option maxRecDepth 20000 in
theorem ggX12_readStatement_X12_advanceToken : GoodIn wsX12_readStatement wsX12_advanceToken := goodIn_ca (goodIn_r _ [25, 26, 11, 2, 1, 17, 16, 27, 28, 29, 30, 31, 8, 32, 33, 34, 35, 36, 37, 38, 39, 40, 41, 42, 43, 44, 45, 46, 78, 79, 80, 81, 82, 83, 84, 85, 86, 87, 88, 89, 90, 91, 92, 93, 94, 95, 96, 97, 98, 99, 100, 101, 102, 103, 104, 105, 106, 107, 108, 109, 110, 111, 112, 113, 114, 115, 116, 117, 118, 119, 120, 121, 122, 123, 124, 125, 126, 127, 128, 129, 130, 131] (by decide +kernel) (by decide +kernel)) (goodIn_sub (fun _ h => List.mem_cons_of_mem _ (List.mem_append_right _ h)) (by decide +kernel))
set_option maxRecDepth 20000 in
theorem gX12_readStatement_X12_advanceToken : GoodIn wsX12_readStatement (wsV RX12 489 RX12 yX12_advanceToken wsX12_advanceToken) := goodIn_app (goodIn_of _ (by decide +kernel)) ggX12_readStatement_X12_advanceToken
set_option maxRecDepth 20000 in
theorem ggX12_readStatement_X12_readInto : GoodIn wsX12_readStatement wsX12_readInto := goodIn_ca (goodIn_r _ [50, 51, 52, 53, 54, 55, 8, 56, 1, 2, 5, 6, 7, 9, 10, 11, 12, 40, 41, 42, 22, 23, 24, 25, 26, 17, 16, 27, 28, 29, 30, 31, 32, 33, 34, 35, 36, 37, 38, 39, 43, 44, 45, 46, 78, 79, 80, 81, 82, 83, 84, 85, 86, 87, 88, 89, 90, 91, 92, 93, 94, 95, 96, 97, 98, 99, 100, 101, 102, 103, 104, 105, 106, 107, 108, 109, 110, 111, 112, 113, 114, 115, 116, 117, 118, 119, 120, 121, 122, 123, 124, 125, 126, 127, 128, 129, 130, 131] (by decide +kernel) (by decide +kernel)) (goodIn_sub (fun _ h => List.mem_cons_of_mem _ (List.mem_append_right _ h)) (by decide +kernel))
set_option maxRecDepth 20000 in
theorem gX12_readStatement_X12_readInto : GoodIn wsX12_readStatement (wsV RX12 510 RX12 yX12_readInto wsX12_readInto) := goodIn_app (goodIn_of _ (by decide +kernel)) ggX12_readStatement_X12_readInto
set_option maxRecDepth 20000 in
theorem ggX12_readStatement_X12_readEnd : GoodIn wsX12_readStatement wsX12_readEnd := goodIn_ca (goodIn_r _ [60, 1, 5, 6, 7, 8, 9, 10, 11, 12, 22, 23, 24, 25, 26, 2, 17, 16, 27, 28, 29, 30, 31, 32, 33, 34, 35, 36, 37, 38, 39, 40, 41, 42, 43, 44, 45, 46, 78, 79, 80, 81, 82, 83, 84, 85, 86, 87, 88, 89, 90, 91, 92, 93, 94, 95, 96, 97, 98, 99, 100, 101, 102, 103, 104, 105, 106, 107, 108, 109, 110, 111, 112, 113, 114, 115, 116, 117, 118, 119, 120, 121, 122, 123, 124, 125, 126, 127, 128, 129, 130, 131] (by decide +kernel) (by decide +kernel)) (goodIn_sub (fun _ h => List.mem_cons_of_mem _ (List.mem_append_right _ h)) (by decide +kernel))
set_option maxRecDepth 20000 in
theorem gX12_readStatement_X12_readEnd : GoodIn wsX12_readStatement (wsV RX12 506 RX12 yX12_readEnd wsX12_readEnd) := goodIn_app (goodIn_of _ (by decide +kernel)) ggX12_readStatement_X12_readEnd
theorem dX12_readStatement_0 : decode cX12_readStatement 0 = .ok (.aload_n 0, 1) := by decide +kernel
theorem dX12_readStatement_1 : decode cX12_readStatement 1 = .ok (.getfield 476, 3) := by decide +kernel
theorem dX12_readStatement_4 : decode cX12_readStatement 4 = .ok (.iconst 1, 1) := by decide +kernel
theorem dX12_readStatement_5 : decode cX12_readStatement 5 = .ok (.if_icmp .eq 9, 3) := by decide +kernel
theorem dX12_readStatement_8 : decode cX12_readStatement 8 = .ok (.aload_n 0, 1) := by decide +kernel
theorem dX12_readStatement_9 : decode cX12_readStatement 9 = .ok (.iconst 1, 1) := by decide +kernel
theorem dX12_readStatement_10 : decode cX12_readStatement 10 = .ok (.invokevirtual 483, 3) := by decide +kernel
theorem dX12_readStatement_13 : decode cX12_readStatement 13 = .ok (.ireturn, 1) := by decide +kernel
theorem dX12_readStatement_14 : decode cX12_readStatement 14 = .ok (.aload_n 0, 1) := by decide +kernel
theorem dX12_readStatement_15 : decode cX12_readStatement 15 = .ok (.getfield 467, 3) := by decide +kernel
theorem dX12_readStatement_18 : decode cX12_readStatement 18 = .ok (.bipush 115, 2) := by decide +kernel
theorem dX12_readStatement_20 : decode cX12_readStatement 20 = .ok (.bipush 97, 2) := by decide +kernel
theorem dX12_readStatement_22 : decode cX12_readStatement 22 = .ok (.bipush 109, 2) := by decide +kernel
theorem dX12_readStatement_24 : decode cX12_readStatement 24 = .ok (.bipush 112, 2) := by decide +kernel
theorem dX12_readStatement_26 : decode cX12_readStatement 26 = .ok (.bipush 108, 2) := by decide +kernel
theorem dX12_readStatement_28 : decode cX12_readStatement 28 = .ok (.iconst 0, 1) := by decide +kernel
theorem dX12_readStatement_29 : decode cX12_readStatement 29 = .ok (.invokestatic 495, 3) := by decide +kernel
theorem dX12_readStatement_32 : decode cX12_readStatement 32 = .ok (.ldc2_w 501, 3) := by decide +kernel
theorem dX12_readStatement_35 : decode cX12_readStatement 35 = .ok (.lmul, 1) := by decide +kernel
theorem dX12_readStatement_36 : decode cX12_readStatement 36 = .ok (.bipush 105, 2) := by decide +kernel
theorem dX12_readStatement_38 : decode cX12_readStatement 38 = .ok (.bipush 110, 2) := by decide +kernel
theorem dX12_readStatement_40 : decode cX12_readStatement 40 = .ok (.bipush 103, 2) := by decide +kernel
theorem dX12_readStatement_42 : decode cX12_readStatement 42 = .ok (.iconst 0, 1) := by decide +kernel
theorem dX12_readStatement_43 : decode cX12_readStatement 43 = .ok (.iconst 0, 1) := by decide +kernel
theorem dX12_readStatement_44 : decode cX12_readStatement 44 = .ok (.iconst 0, 1) := by decide +kernel
theorem dX12_readStatement_45 : decode cX12_readStatement 45 = .ok (.invokestatic 495, 3) := by decide +kernel
theorem dX12_readStatement_48 : decode cX12_readStatement 48 = .ok (.ladd, 1) := by decide +kernel
theorem dX12_readStatement_49 : decode cX12_readStatement 49 = .ok (.lcmp, 1) := by decide +kernel
theorem dX12_readStatement_50 : decode cX12_readStatement 50 = .ok (.ifCond .ne 13, 3) := by decide +kernel
theorem dX12_readStatement_53 : decode cX12_readStatement 53 = .ok (.aload_n 0, 1) := by decide +kernel
theorem dX12_readStatement_54 : decode cX12_readStatement 54 = .ok (.iconst 0, 1) := by decide +kernel
theorem dX12_readStatement_55 : decode cX12_readStatement 55 = .ok (.iconst 1, 1) := by decide +kernel
theorem dX12_readStatement_56 : decode cX12_readStatement 56 = .ok (.sipush 1024, 3) := by decide +kernel
theorem dX12_readStatement_59 : decode cX12_readStatement 59 = .ok (.invokevirtual 514, 3) := by decide +kernel
theorem dX12_readStatement_62 : decode cX12_readStatement 62 = .ok (.ireturn, 1) := by decide +kernel
theorem dX12_readStatement_63 : decode cX12_readStatement 63 = .ok (.aload_n 0, 1) := by decide +kernel
theorem dX12_readStatement_64 : decode cX12_readStatement 64 = .ok (.getfield 467, 3) := by decide +kernel
theorem dX12_readStatement_67 : decode cX12_readStatement 67 = .ok (.bipush 98, 2) := by decide +kernel
theorem dX12_readStatement_69 : decode cX12_readStatement 69 = .ok (.bipush 117, 2) := by decide +kernel
theorem dX12_readStatement_71 : decode cX12_readStatement 71 = .ok (.bipush 100, 2) := by decide +kernel
theorem dX12_readStatement_73 : decode cX12_readStatement 73 = .ok (.bipush 103, 2) := by decide +kernel
theorem dX12_readStatement_75 : decode cX12_readStatement 75 = .ok (.bipush 101, 2) := by decide +kernel
theorem dX12_readStatement_77 : decode cX12_readStatement 77 = .ok (.bipush 116, 2) := by decide +kernel
theorem dX12_readStatement_79 : decode cX12_readStatement 79 = .ok (.invokestatic 495, 3) := by decide +kernel
theorem dX12_readStatement_82 : decode cX12_readStatement 82 = .ok (.lcmp, 1) := by decide +kernel
theorem dX12_readStatement_83 : decode cX12_readStatement 83 = .ok (.ifCond .ne 13, 3) := by decide +kernel
theorem dX12_readStatement_86 : decode cX12_readStatement 86 = .ok (.aload_n 0, 1) := by decide +kernel
theorem dX12_readStatement_87 : decode cX12_readStatement 87 = .ok (.iconst 1, 1) := by decide +kernel
theorem dX12_readStatement_88 : decode cX12_readStatement 88 = .ok (.iconst 1, 1) := by decide +kernel
theorem dX12_readStatement_89 : decode cX12_readStatement 89 = .ok (.sipush 1000, 3) := by decide +kernel
theorem dX12_readStatement_92 : decode cX12_readStatement 92 = .ok (.invokevirtual 514, 3) := by decide +kernel
theorem dX12_readStatement_95 : decode cX12_readStatement 95 = .ok (.ireturn, 1) := by decide +kernel
theorem dX12_readStatement_96 : decode cX12_readStatement 96 = .ok (.aload_n 0, 1) := by decide +kernel
theorem dX12_readStatement_97 : decode cX12_readStatement 97 = .ok (.getfield 467, 3) := by decide +kernel
theorem dX12_readStatement_100 : decode cX12_readStatement 100 = .ok (.bipush 97, 2) := by decide +kernel
theorem dX12_readStatement_102 : decode cX12_readStatement 102 = .ok (.bipush 99, 2) := by decide +kernel
theorem dX12_readStatement_104 : decode cX12_readStatement 104 = .ok (.bipush 116, 2) := by decide +kernel
theorem dX12_readStatement_106 : decode cX12_readStatement 106 = .ok (.bipush 105, 2) := by decide +kernel
theorem dX12_readStatement_108 : decode cX12_readStatement 108 = .ok (.bipush 118, 2) := by decide +kernel
theorem dX12_readStatement_110 : decode cX12_readStatement 110 = .ok (.bipush 101, 2) := by decide +kernel
theorem dX12_readStatement_112 : decode cX12_readStatement 112 = .ok (.invokestatic 495, 3) := by decide +kernel
theorem dX12_readStatement_115 : decode cX12_readStatement 115 = .ok (.lcmp, 1) := by decide +kernel
theorem dX12_readStatement_116 : decode cX12_readStatement 116 = .ok (.ifCond .ne 13, 3) := by decide +kernel
theorem dX12_readStatement_119 : decode cX12_readStatement 119 = .ok (.aload_n 0, 1) := by decide +kernel
theorem dX12_readStatement_120 : decode cX12_readStatement 120 = .ok (.iconst 2, 1) := by decide +kernel
theorem dX12_readStatement_121 : decode cX12_readStatement 121 = .ok (.iconst 1, 1) := by decide +kernel
theorem dX12_readStatement_122 : decode cX12_readStatement 122 = .ok (.sipush 10000, 3) := by decide +kernel
theorem dX12_readStatement_125 : decode cX12_readStatement 125 = .ok (.invokevirtual 514, 3) := by decide +kernel
theorem dX12_readStatement_128 : decode cX12_readStatement 128 = .ok (.ireturn, 1) := by decide +kernel
theorem dX12_readStatement_129 : decode cX12_readStatement 129 = .ok (.aload_n 0, 1) := by decide +kernel
theorem dX12_readStatement_130 : decode cX12_readStatement 130 = .ok (.getfield 467, 3) := by decide +kernel
theorem dX12_readStatement_133 : decode cX12_readStatement 133 = .ok (.bipush 105, 2) := by decide +kernel
theorem dX12_readStatement_135 : decode cX12_readStatement 135 = .ok (.bipush 110, 2) := by decide +kernel
theorem dX12_readStatement_137 : decode cX12_readStatement 137 = .ok (.bipush 97, 2) := by decide +kernel
theorem dX12_readStatement_139 : decode cX12_readStatement 139 = .ok (.bipush 99, 2) := by decide +kernel
theorem dX12_readStatement_141 : decode cX12_readStatement 141 = .ok (.bipush 116, 2) := by decide +kernel
theorem dX12_readStatement_143 : decode cX12_readStatement 143 = .ok (.iconst 0, 1) := by decide +kernel
theorem dX12_readStatement_144 : decode cX12_readStatement 144 = .ok (.invokestatic 495, 3) := by decide +kernel
theorem dX12_readStatement_147 : decode cX12_readStatement 147 = .ok (.ldc2_w 501, 3) := by decide +kernel
theorem dX12_readStatement_150 : decode cX12_readStatement 150 = .ok (.lmul, 1) := by decide +kernel
theorem dX12_readStatement_151 : decode cX12_readStatement 151 = .ok (.bipush 105, 2) := by decide +kernel
theorem dX12_readStatement_153 : decode cX12_readStatement 153 = .ok (.bipush 118, 2) := by decide +kernel
theorem dX12_readStatement_155 : decode cX12_readStatement 155 = .ok (.bipush 101, 2) := by decide +kernel
theorem dX12_readStatement_157 : decode cX12_readStatement 157 = .ok (.iconst 0, 1) := by decide +kernel
theorem dX12_readStatement_158 : decode cX12_readStatement 158 = .ok (.iconst 0, 1) := by decide +kernel
theorem dX12_readStatement_159 : decode cX12_readStatement 159 = .ok (.iconst 0, 1) := by decide +kernel
theorem dX12_readStatement_160 : decode cX12_readStatement 160 = .ok (.invokestatic 495, 3) := by decide +kernel
theorem dX12_readStatement_163 : decode cX12_readStatement 163 = .ok (.ladd, 1) := by decide +kernel
theorem dX12_readStatement_164 : decode cX12_readStatement 164 = .ok (.lcmp, 1) := by decide +kernel
theorem dX12_readStatement_165 : decode cX12_readStatement 165 = .ok (.ifCond .ne 13, 3) := by decide +kernel
theorem dX12_readStatement_168 : decode cX12_readStatement 168 = .ok (.aload_n 0, 1) := by decide +kernel
theorem dX12_readStatement_169 : decode cX12_readStatement 169 = .ok (.iconst 3, 1) := by decide +kernel
theorem dX12_readStatement_170 : decode cX12_readStatement 170 = .ok (.iconst 1, 1) := by decide +kernel
theorem dX12_readStatement_171 : decode cX12_readStatement 171 = .ok (.sipush 10000, 3) := by decide +kernel
theorem dX12_readStatement_174 : decode cX12_readStatement 174 = .ok (.invokevirtual 514, 3) := by decide +kernel
theorem dX12_readStatement_177 : decode cX12_readStatement 177 = .ok (.ireturn, 1) := by decide +kernel
theorem dX12_readStatement_178 : decode cX12_readStatement 178 = .ok (.aload_n 0, 1) := by decide +kernel
theorem dX12_readStatement_179 : decode cX12_readStatement 179 = .ok (.getfield 467, 3) := by decide +kernel
theorem dX12_readStatement_182 : decode cX12_readStatement 182 = .ok (.bipush 108, 2) := by decide +kernel
theorem dX12_readStatement_184 : decode cX12_readStatement 184 = .ok (.bipush 105, 2) := by decide +kernel
theorem dX12_readStatement_186 : decode cX12_readStatement 186 = .ok (.bipush 102, 2) := by decide +kernel
theorem dX12_readStatement_188 : decode cX12_readStatement 188 = .ok (.bipush 101, 2) := by decide +kernel
theorem dX12_readStatement_190 : decode cX12_readStatement 190 = .ok (.bipush 116, 2) := by decide +kernel
theorem dX12_readStatement_192 : decode cX12_readStatement 192 = .ok (.iconst 0, 1) := by decide +kernel
theorem dX12_readStatement_193 : decode cX12_readStatement 193 = .ok (.invokestatic 495, 3) := by decide +kernel
theorem dX12_readStatement_196 : decode cX12_readStatement 196 = .ok (.ldc2_w 501, 3) := by decide +kernel
theorem dX12_readStatement_199 : decode cX12_readStatement 199 = .ok (.lmul, 1) := by decide +kernel
theorem dX12_readStatement_200 : decode cX12_readStatement 200 = .ok (.bipush 105, 2) := by decide +kernel
theorem dX12_readStatement_202 : decode cX12_readStatement 202 = .ok (.bipush 109, 2) := by decide +kernel
theorem dX12_readStatement_204 : decode cX12_readStatement 204 = .ok (.bipush 101, 2) := by decide +kernel
theorem dX12_readStatement_206 : decode cX12_readStatement 206 = .ok (.iconst 0, 1) := by decide +kernel
theorem dX12_readStatement_207 : decode cX12_readStatement 207 = .ok (.iconst 0, 1) := by decide +kernel
theorem dX12_readStatement_208 : decode cX12_readStatement 208 = .ok (.iconst 0, 1) := by decide +kernel
theorem dX12_readStatement_209 : decode cX12_readStatement 209 = .ok (.invokestatic 495, 3) := by decide +kernel
theorem dX12_readStatement_212 : decode cX12_readStatement 212 = .ok (.ladd, 1) := by decide +kernel
theorem dX12_readStatement_213 : decode cX12_readStatement 213 = .ok (.lcmp, 1) := by decide +kernel
theorem dX12_readStatement_214 : decode cX12_readStatement 214 = .ok (.ifCond .ne 14, 3) := by decide +kernel
theorem dX12_readStatement_217 : decode cX12_readStatement 217 = .ok (.aload_n 0, 1) := by decide +kernel
theorem dX12_readStatement_218 : decode cX12_readStatement 218 = .ok (.bipush 6, 2) := by decide +kernel
theorem dX12_readStatement_220 : decode cX12_readStatement 220 = .ok (.iconst 1, 1) := by decide +kernel
theorem dX12_readStatement_221 : decode cX12_readStatement 221 = .ok (.ldc_w 517, 3) := by decide +kernel
theorem dX12_readStatement_224 : decode cX12_readStatement 224 = .ok (.invokevirtual 514, 3) := by decide +kernel
theorem dX12_readStatement_227 : decode cX12_readStatement 227 = .ok (.ireturn, 1) := by decide +kernel
theorem dX12_readStatement_228 : decode cX12_readStatement 228 = .ok (.aload_n 0, 1) := by decide +kernel
theorem dX12_readStatement_229 : decode cX12_readStatement 229 = .ok (.getfield 467, 3) := by decide +kernel
theorem dX12_readStatement_232 : decode cX12_readStatement 232 = .ok (.bipush 108, 2) := by decide +kernel
theorem dX12_readStatement_234 : decode cX12_readStatement 234 = .ok (.bipush 101, 2) := by decide +kernel
theorem dX12_readStatement_236 : decode cX12_readStatement 236 = .ok (.bipush 110, 2) := by decide +kernel
theorem dX12_readStatement_238 : decode cX12_readStatement 238 = .ok (.bipush 103, 2) := by decide +kernel
theorem dX12_readStatement_240 : decode cX12_readStatement 240 = .ok (.bipush 116, 2) := by decide +kernel
theorem dX12_readStatement_242 : decode cX12_readStatement 242 = .ok (.bipush 104, 2) := by decide +kernel
theorem dX12_readStatement_244 : decode cX12_readStatement 244 = .ok (.invokestatic 495, 3) := by decide +kernel
theorem dX12_readStatement_247 : decode cX12_readStatement 247 = .ok (.lcmp, 1) := by decide +kernel
theorem dX12_readStatement_248 : decode cX12_readStatement 248 = .ok (.ifCond .ne 16, 3) := by decide +kernel
theorem dX12_readStatement_251 : decode cX12_readStatement 251 = .ok (.aload_n 0, 1) := by decide +kernel
theorem dX12_readStatement_252 : decode cX12_readStatement 252 = .ok (.bipush 7, 2) := by decide +kernel
theorem dX12_readStatement_254 : decode cX12_readStatement 254 = .ok (.sipush 256, 3) := by decide +kernel
theorem dX12_readStatement_257 : decode cX12_readStatement 257 = .ok (.sipush 600, 3) := by decide +kernel
theorem dX12_readStatement_260 : decode cX12_readStatement 260 = .ok (.invokevirtual 514, 3) := by decide +kernel
theorem dX12_readStatement_263 : decode cX12_readStatement 263 = .ok (.ireturn, 1) := by decide +kernel
theorem dX12_readStatement_264 : decode cX12_readStatement 264 = .ok (.aload_n 0, 1) := by decide +kernel
theorem dX12_readStatement_265 : decode cX12_readStatement 265 = .ok (.getfield 467, 3) := by decide +kernel
theorem dX12_readStatement_268 : decode cX12_readStatement 268 = .ok (.bipush 97, 2) := by decide +kernel
theorem dX12_readStatement_270 : decode cX12_readStatement 270 = .ok (.bipush 115, 2) := by decide +kernel
theorem dX12_readStatement_272 : decode cX12_readStatement 272 = .ok (.bipush 115, 2) := by decide +kernel
theorem dX12_readStatement_274 : decode cX12_readStatement 274 = .ok (.bipush 117, 2) := by decide +kernel
theorem dX12_readStatement_276 : decode cX12_readStatement 276 = .ok (.bipush 109, 2) := by decide +kernel
theorem dX12_readStatement_278 : decode cX12_readStatement 278 = .ok (.bipush 101, 2) := by decide +kernel
theorem dX12_readStatement_280 : decode cX12_readStatement 280 = .ok (.invokestatic 495, 3) := by decide +kernel
theorem dX12_readStatement_283 : decode cX12_readStatement 283 = .ok (.lcmp, 1) := by decide +kernel
theorem dX12_readStatement_284 : decode cX12_readStatement 284 = .ok (.ifCond .ne 14, 3) := by decide +kernel
theorem dX12_readStatement_287 : decode cX12_readStatement 287 = .ok (.aload_n 0, 1) := by decide +kernel
theorem dX12_readStatement_288 : decode cX12_readStatement 288 = .ok (.bipush 8, 2) := by decide +kernel
theorem dX12_readStatement_290 : decode cX12_readStatement 290 = .ok (.iconst 1, 1) := by decide +kernel
theorem dX12_readStatement_291 : decode cX12_readStatement 291 = .ok (.sipush 1024, 3) := by decide +kernel
theorem dX12_readStatement_294 : decode cX12_readStatement 294 = .ok (.invokevirtual 514, 3) := by decide +kernel
theorem dX12_readStatement_297 : decode cX12_readStatement 297 = .ok (.ireturn, 1) := by decide +kernel
theorem dX12_readStatement_298 : decode cX12_readStatement 298 = .ok (.aload_n 0, 1) := by decide +kernel
theorem dX12_readStatement_299 : decode cX12_readStatement 299 = .ok (.getfield 467, 3) := by decide +kernel
theorem dX12_readStatement_302 : decode cX12_readStatement 302 = .ok (.bipush 116, 2) := by decide +kernel
theorem dX12_readStatement_304 : decode cX12_readStatement 304 = .ok (.bipush 101, 2) := by decide +kernel
theorem dX12_readStatement_306 : decode cX12_readStatement 306 = .ok (.bipush 109, 2) := by decide +kernel
theorem dX12_readStatement_308 : decode cX12_readStatement 308 = .ok (.bipush 112, 2) := by decide +kernel
theorem dX12_readStatement_310 : decode cX12_readStatement 310 = .ok (.bipush 108, 2) := by decide +kernel
theorem dX12_readStatement_312 : decode cX12_readStatement 312 = .ok (.iconst 0, 1) := by decide +kernel
theorem dX12_readStatement_313 : decode cX12_readStatement 313 = .ok (.invokestatic 495, 3) := by decide +kernel
theorem dX12_readStatement_316 : decode cX12_readStatement 316 = .ok (.ldc2_w 501, 3) := by decide +kernel
theorem dX12_readStatement_319 : decode cX12_readStatement 319 = .ok (.lmul, 1) := by decide +kernel
theorem dX12_readStatement_320 : decode cX12_readStatement 320 = .ok (.bipush 97, 2) := by decide +kernel
theorem dX12_readStatement_322 : decode cX12_readStatement 322 = .ok (.bipush 116, 2) := by decide +kernel
theorem dX12_readStatement_324 : decode cX12_readStatement 324 = .ok (.bipush 101, 2) := by decide +kernel
theorem dX12_readStatement_326 : decode cX12_readStatement 326 = .ok (.iconst 0, 1) := by decide +kernel
theorem dX12_readStatement_327 : decode cX12_readStatement 327 = .ok (.iconst 0, 1) := by decide +kernel
theorem dX12_readStatement_328 : decode cX12_readStatement 328 = .ok (.iconst 0, 1) := by decide +kernel
theorem dX12_readStatement_329 : decode cX12_readStatement 329 = .ok (.invokestatic 495, 3) := by decide +kernel
theorem dX12_readStatement_332 : decode cX12_readStatement 332 = .ok (.ladd, 1) := by decide +kernel
theorem dX12_readStatement_333 : decode cX12_readStatement 333 = .ok (.lcmp, 1) := by decide +kernel
theorem dX12_readStatement_334 : decode cX12_readStatement 334 = .ok (.ifCond .ne 8, 3) := by decide +kernel
theorem dX12_readStatement_337 : decode cX12_readStatement 337 = .ok (.aload_n 0, 1) := by decide +kernel
theorem dX12_readStatement_338 : decode cX12_readStatement 338 = .ok (.invokevirtual 518, 3) := by decide +kernel
theorem dX12_readStatement_341 : decode cX12_readStatement 341 = .ok (.ireturn, 1) := by decide +kernel
theorem dX12_readStatement_342 : decode cX12_readStatement 342 = .ok (.aload_n 0, 1) := by decide +kernel
theorem dX12_readStatement_343 : decode cX12_readStatement 343 = .ok (.getfield 467, 3) := by decide +kernel
theorem dX12_readStatement_346 : decode cX12_readStatement 346 = .ok (.bipush 117, 2) := by decide +kernel
theorem dX12_readStatement_348 : decode cX12_readStatement 348 = .ok (.bipush 115, 2) := by decide +kernel
theorem dX12_readStatement_350 : decode cX12_readStatement 350 = .ok (.bipush 101, 2) := by decide +kernel
theorem dX12_readStatement_352 : decode cX12_readStatement 352 = .ok (.iconst 0, 1) := by decide +kernel
theorem dX12_readStatement_353 : decode cX12_readStatement 353 = .ok (.iconst 0, 1) := by decide +kernel
theorem dX12_readStatement_354 : decode cX12_readStatement 354 = .ok (.iconst 0, 1) := by decide +kernel
theorem dX12_readStatement_355 : decode cX12_readStatement 355 = .ok (.invokestatic 495, 3) := by decide +kernel
theorem dX12_readStatement_358 : decode cX12_readStatement 358 = .ok (.lcmp, 1) := by decide +kernel
theorem dX12_readStatement_359 : decode cX12_readStatement 359 = .ok (.ifCond .ne 8, 3) := by decide +kernel
theorem dX12_readStatement_362 : decode cX12_readStatement 362 = .ok (.aload_n 0, 1) := by decide +kernel
theorem dX12_readStatement_363 : decode cX12_readStatement 363 = .ok (.invokevirtual 521, 3) := by decide +kernel
theorem dX12_readStatement_366 : decode cX12_readStatement 366 = .ok (.ireturn, 1) := by decide +kernel
theorem dX12_readStatement_367 : decode cX12_readStatement 367 = .ok (.aload_n 0, 1) := by decide +kernel
theorem dX12_readStatement_368 : decode cX12_readStatement 368 = .ok (.getfield 467, 3) := by decide +kernel
theorem dX12_readStatement_371 : decode cX12_readStatement 371 = .ok (.bipush 100, 2) := by decide +kernel
theorem dX12_readStatement_373 : decode cX12_readStatement 373 = .ok (.bipush 114, 2) := by decide +kernel
theorem dX12_readStatement_375 : decode cX12_readStatement 375 = .ok (.bipush 111, 2) := by decide +kernel
theorem dX12_readStatement_377 : decode cX12_readStatement 377 = .ok (.bipush 112, 2) := by decide +kernel
theorem dX12_readStatement_379 : decode cX12_readStatement 379 = .ok (.iconst 0, 1) := by decide +kernel
theorem dX12_readStatement_380 : decode cX12_readStatement 380 = .ok (.iconst 0, 1) := by decide +kernel
theorem dX12_readStatement_381 : decode cX12_readStatement 381 = .ok (.invokestatic 495, 3) := by decide +kernel
theorem dX12_readStatement_384 : decode cX12_readStatement 384 = .ok (.lcmp, 1) := by decide +kernel
theorem dX12_readStatement_385 : decode cX12_readStatement 385 = .ok (.ifCond .ne 8, 3) := by decide +kernel
theorem dX12_readStatement_388 : decode cX12_readStatement 388 = .ok (.aload_n 0, 1) := by decide +kernel
theorem dX12_readStatement_389 : decode cX12_readStatement 389 = .ok (.invokevirtual 524, 3) := by decide +kernel
theorem dX12_readStatement_392 : decode cX12_readStatement 392 = .ok (.ireturn, 1) := by decide +kernel
theorem dX12_readStatement_393 : decode cX12_readStatement 393 = .ok (.aload_n 0, 1) := by decide +kernel
theorem dX12_readStatement_394 : decode cX12_readStatement 394 = .ok (.getfield 467, 3) := by decide +kernel
theorem dX12_readStatement_397 : decode cX12_readStatement 397 = .ok (.bipush 114, 2) := by decide +kernel
theorem dX12_readStatement_399 : decode cX12_readStatement 399 = .ok (.bipush 101, 2) := by decide +kernel
theorem dX12_readStatement_401 : decode cX12_readStatement 401 = .ok (.bipush 102, 2) := by decide +kernel
theorem dX12_readStatement_403 : decode cX12_readStatement 403 = .ok (.bipush 114, 2) := by decide +kernel
theorem dX12_readStatement_405 : decode cX12_readStatement 405 = .ok (.iconst 0, 1) := by decide +kernel
theorem dX12_readStatement_406 : decode cX12_readStatement 406 = .ok (.iconst 0, 1) := by decide +kernel
theorem dX12_readStatement_407 : decode cX12_readStatement 407 = .ok (.invokestatic 495, 3) := by decide +kernel
theorem dX12_readStatement_410 : decode cX12_readStatement 410 = .ok (.ldc2_w 501, 3) := by decide +kernel
theorem dX12_readStatement_413 : decode cX12_readStatement 413 = .ok (.lmul, 1) := by decide +kernel
theorem dX12_readStatement_414 : decode cX12_readStatement 414 = .ok (.bipush 101, 2) := by decide +kernel
theorem dX12_readStatement_416 : decode cX12_readStatement 416 = .ok (.bipush 115, 2) := by decide +kernel
theorem dX12_readStatement_418 : decode cX12_readStatement 418 = .ok (.bipush 104, 2) := by decide +kernel
theorem dX12_readStatement_420 : decode cX12_readStatement 420 = .ok (.iconst 0, 1) := by decide +kernel
theorem dX12_readStatement_421 : decode cX12_readStatement 421 = .ok (.iconst 0, 1) := by decide +kernel
theorem dX12_readStatement_422 : decode cX12_readStatement 422 = .ok (.iconst 0, 1) := by decide +kernel
theorem dX12_readStatement_423 : decode cX12_readStatement 423 = .ok (.invokestatic 495, 3) := by decide +kernel
theorem dX12_readStatement_426 : decode cX12_readStatement 426 = .ok (.ladd, 1) := by decide +kernel
theorem dX12_readStatement_427 : decode cX12_readStatement 427 = .ok (.lcmp, 1) := by decide +kernel
theorem dX12_readStatement_428 : decode cX12_readStatement 428 = .ok (.ifCond .eq 9, 3) := by decide +kernel
theorem dX12_readStatement_431 : decode cX12_readStatement 431 = .ok (.aload_n 0, 1) := by decide +kernel
theorem dX12_readStatement_432 : decode cX12_readStatement 432 = .ok (.iconst 1, 1) := by decide +kernel
theorem dX12_readStatement_433 : decode cX12_readStatement 433 = .ok (.invokevirtual 483, 3) := by decide +kernel
theorem dX12_readStatement_436 : decode cX12_readStatement 436 = .ok (.ireturn, 1) := by decide +kernel
theorem dX12_readStatement_437 : decode cX12_readStatement 437 = .ok (.aload_n 0, 1) := by decide +kernel
theorem dX12_readStatement_438 : decode cX12_readStatement 438 = .ok (.invokevirtual 489, 3) := by decide +kernel
theorem dX12_readStatement_441 : decode cX12_readStatement 441 = .ok (.aload_n 0, 1) := by decide +kernel
theorem dX12_readStatement_442 : decode cX12_readStatement 442 = .ok (.iconst 4, 1) := by decide +kernel
theorem dX12_readStatement_443 : decode cX12_readStatement 443 = .ok (.iconst 1, 1) := by decide +kernel
theorem dX12_readStatement_444 : decode cX12_readStatement 444 = .ok (.sipush 1000, 3) := by decide +kernel
theorem dX12_readStatement_447 : decode cX12_readStatement 447 = .ok (.invokevirtual 510, 3) := by decide +kernel
theorem dX12_readStatement_450 : decode cX12_readStatement 450 = .ok (.ifCond .eq 26, 3) := by decide +kernel
theorem dX12_readStatement_453 : decode cX12_readStatement 453 = .ok (.aload_n 0, 1) := by decide +kernel
theorem dX12_readStatement_454 : decode cX12_readStatement 454 = .ok (.iconst 5, 1) := by decide +kernel
theorem dX12_readStatement_455 : decode cX12_readStatement 455 = .ok (.iconst 1, 1) := by decide +kernel
theorem dX12_readStatement_456 : decode cX12_readStatement 456 = .ok (.ldc_w 517, 3) := by decide +kernel
theorem dX12_readStatement_459 : decode cX12_readStatement 459 = .ok (.invokevirtual 510, 3) := by decide +kernel
theorem dX12_readStatement_462 : decode cX12_readStatement 462 = .ok (.ifCond .eq 14, 3) := by decide +kernel
theorem dX12_readStatement_465 : decode cX12_readStatement 465 = .ok (.aload_n 0, 1) := by decide +kernel
theorem dX12_readStatement_466 : decode cX12_readStatement 466 = .ok (.invokevirtual 506, 3) := by decide +kernel
theorem dX12_readStatement_469 : decode cX12_readStatement 469 = .ok (.ifCond .eq 7, 3) := by decide +kernel
theorem dX12_readStatement_472 : decode cX12_readStatement 472 = .ok (.iconst 1, 1) := by decide +kernel
theorem dX12_readStatement_473 : decode cX12_readStatement 473 = .ok (.goto 4, 3) := by decide +kernel
theorem dX12_readStatement_476 : decode cX12_readStatement 476 = .ok (.iconst 0, 1) := by decide +kernel
theorem dX12_readStatement_477 : decode cX12_readStatement 477 = .ok (.ireturn, 1) := by decide +kernel

set_option maxRecDepth 20000 in
theorem ggX12_init_X12_beginConfiguration : GoodIn wsX12_init wsX12_beginConfiguration := goodIn_ca (goodIn_r _ [38, 5, 71, 72, 73, 74, 75, 76, 77, 78, 79, 80, 81, 82, 83, 84, 85, 86, 87, 88, 89, 90, 91, 92, 93, 94, 95, 96, 97, 98, 99, 100, 101, 102, 103, 104, 105, 106, 107, 108, 109, 110, 111, 112, 113, 114, 115, 116, 117, 118, 119, 120, 121, 122, 123, 124] (by decide +kernel) (by decide +kernel)) (goodIn_sub (fun _ h => List.mem_cons_of_mem _ (List.mem_append_right _ h)) (by decide +kernel))
set_option maxRecDepth 20000 in
theorem gX12_init_X12_beginConfiguration : GoodIn wsX12_init (wsV RX12 95 RX12 yX12_beginConfiguration wsX12_beginConfiguration) := goodIn_app (goodIn_of _ (by decide +kernel)) ggX12_init_X12_beginConfiguration
set_option maxRecDepth 20000 in
theorem ggX12_init_X12_take : GoodIn wsX12_init wsX12_take := goodIn_ca (goodIn_r _ [42, 5, 6, 43, 44, 45, 46, 47, 48, 49, 50, 51, 52, 53, 54, 55, 56, 57, 58, 16, 59, 60, 61, 37, 62, 63, 7, 64, 65, 66, 67, 17, 68, 69, 70, 71, 72, 73, 74, 75, 76, 77, 78, 79, 80, 81, 82, 83, 84, 85, 86, 87, 88, 89, 90, 91, 92, 93, 94, 95, 96, 97, 98, 99, 100, 101, 102, 103, 104, 105, 106, 107, 108, 109, 110, 111, 112, 113, 114, 115, 116, 117, 118, 119, 120, 121, 122, 123, 124] (by decide +kernel) (by decide +kernel)) (goodIn_sub (fun _ h => List.mem_cons_of_mem _ (List.mem_append_right _ h)) (by decide +kernel))
set_option maxRecDepth 20000 in
theorem gX12_init_X12_take : GoodIn wsX12_init (wsV RX12 98 RX12 yX12_take wsX12_take) := goodIn_app (goodIn_of _ (by decide +kernel)) ggX12_init_X12_take
theorem dX12_init_0 : decode cX12_init 0 = .ok (.aload_n 0, 1) := by decide +kernel
theorem dX12_init_1 : decode cX12_init 1 = .ok (.invokespecial 7, 3) := by decide +kernel
theorem dX12_init_4 : decode cX12_init 4 = .ok (.aload_n 0, 1) := by decide +kernel
theorem dX12_init_5 : decode cX12_init 5 = .ok (.sipush 307, 3) := by decide +kernel
theorem dX12_init_8 : decode cX12_init 8 = .ok (.newarray .int, 2) := by decide +kernel
theorem dX12_init_10 : decode cX12_init 10 = .ok (.putfield 13, 3) := by decide +kernel
theorem dX12_init_13 : decode cX12_init 13 = .ok (.aload_n 0, 1) := by decide +kernel
theorem dX12_init_14 : decode cX12_init 14 = .ok (.sipush 307, 3) := by decide +kernel
theorem dX12_init_17 : decode cX12_init 17 = .ok (.newarray .int, 2) := by decide +kernel
theorem dX12_init_19 : decode cX12_init 19 = .ok (.putfield 17, 3) := by decide +kernel
theorem dX12_init_22 : decode cX12_init 22 = .ok (.aload_n 0, 1) := by decide +kernel
theorem dX12_init_23 : decode cX12_init 23 = .ok (.iconst 4, 1) := by decide +kernel
theorem dX12_init_24 : decode cX12_init 24 = .ok (.newarray .int, 2) := by decide +kernel
theorem dX12_init_26 : decode cX12_init 26 = .ok (.putfield 20, 3) := by decide +kernel
theorem dX12_init_29 : decode cX12_init 29 = .ok (.aload_n 0, 1) := by decide +kernel
theorem dX12_init_30 : decode cX12_init 30 = .ok (.iconst 4, 1) := by decide +kernel
theorem dX12_init_31 : decode cX12_init 31 = .ok (.newarray .int, 2) := by decide +kernel
theorem dX12_init_33 : decode cX12_init 33 = .ok (.putfield 23, 3) := by decide +kernel
theorem dX12_init_36 : decode cX12_init 36 = .ok (.aload_n 0, 1) := by decide +kernel
theorem dX12_init_37 : decode cX12_init 37 = .ok (.bipush 96, 2) := by decide +kernel
theorem dX12_init_39 : decode cX12_init 39 = .ok (.newarray .long, 2) := by decide +kernel
theorem dX12_init_41 : decode cX12_init 41 = .ok (.putfield 26, 3) := by decide +kernel
theorem dX12_init_44 : decode cX12_init 44 = .ok (.aload_n 0, 1) := by decide +kernel
theorem dX12_init_45 : decode cX12_init 45 = .ok (.bipush 24, 2) := by decide +kernel
theorem dX12_init_47 : decode cX12_init 47 = .ok (.newarray .int, 2) := by decide +kernel
theorem dX12_init_49 : decode cX12_init 49 = .ok (.putfield 30, 3) := by decide +kernel
theorem dX12_init_52 : decode cX12_init 52 = .ok (.aload_n 0, 1) := by decide +kernel
theorem dX12_init_53 : decode cX12_init 53 = .ok (.sipush 720, 3) := by decide +kernel
theorem dX12_init_56 : decode cX12_init 56 = .ok (.newarray .int, 2) := by decide +kernel
theorem dX12_init_58 : decode cX12_init 58 = .ok (.putfield 33, 3) := by decide +kernel
theorem dX12_init_61 : decode cX12_init 61 = .ok (.aload_n 0, 1) := by decide +kernel
theorem dX12_init_62 : decode cX12_init 62 = .ok (.sipush 700, 3) := by decide +kernel
theorem dX12_init_65 : decode cX12_init 65 = .ok (.newarray .int, 2) := by decide +kernel
theorem dX12_init_67 : decode cX12_init 67 = .ok (.putfield 36, 3) := by decide +kernel
theorem dX12_init_70 : decode cX12_init 70 = .ok (.aload_n 0, 1) := by decide +kernel
theorem dX12_init_71 : decode cX12_init 71 = .ok (.sipush 7200, 3) := by decide +kernel
theorem dX12_init_74 : decode cX12_init 74 = .ok (.newarray .int, 2) := by decide +kernel
theorem dX12_init_76 : decode cX12_init 76 = .ok (.putfield 39, 3) := by decide +kernel
theorem dX12_init_79 : decode cX12_init 79 = .ok (.aload_n 0, 1) := by decide +kernel
theorem dX12_init_80 : decode cX12_init 80 = .ok (.bipush 12, 2) := by decide +kernel
theorem dX12_init_82 : decode cX12_init 82 = .ok (.newarray .int, 2) := by decide +kernel
theorem dX12_init_84 : decode cX12_init 84 = .ok (.putfield 42, 3) := by decide +kernel
theorem dX12_init_87 : decode cX12_init 87 = .ok (.aload_n 0, 1) := by decide +kernel
theorem dX12_init_88 : decode cX12_init 88 = .ok (.bipush 9, 2) := by decide +kernel
theorem dX12_init_90 : decode cX12_init 90 = .ok (.newarray .long, 2) := by decide +kernel
theorem dX12_init_92 : decode cX12_init 92 = .ok (.putfield 45, 3) := by decide +kernel
theorem dX12_init_95 : decode cX12_init 95 = .ok (.aload_n 0, 1) := by decide +kernel
theorem dX12_init_96 : decode cX12_init 96 = .ok (.iconst 4, 1) := by decide +kernel
theorem dX12_init_97 : decode cX12_init 97 = .ok (.newarray .int, 2) := by decide +kernel
theorem dX12_init_99 : decode cX12_init 99 = .ok (.putfield 48, 3) := by decide +kernel
theorem dX12_init_102 : decode cX12_init 102 = .ok (.aload_n 0, 1) := by decide +kernel
theorem dX12_init_103 : decode cX12_init 103 = .ok (.bipush 36, 2) := by decide +kernel
theorem dX12_init_105 : decode cX12_init 105 = .ok (.newarray .int, 2) := by decide +kernel
theorem dX12_init_107 : decode cX12_init 107 = .ok (.putfield 51, 3) := by decide +kernel
theorem dX12_init_110 : decode cX12_init 110 = .ok (.aload_n 0, 1) := by decide +kernel
theorem dX12_init_111 : decode cX12_init 111 = .ok (.iconst 4, 1) := by decide +kernel
theorem dX12_init_112 : decode cX12_init 112 = .ok (.newarray .int, 2) := by decide +kernel
theorem dX12_init_114 : decode cX12_init 114 = .ok (.putfield 54, 3) := by decide +kernel
theorem dX12_init_117 : decode cX12_init 117 = .ok (.aload_n 0, 1) := by decide +kernel
theorem dX12_init_118 : decode cX12_init 118 = .ok (.bipush 8, 2) := by decide +kernel
theorem dX12_init_120 : decode cX12_init 120 = .ok (.newarray .long, 2) := by decide +kernel
theorem dX12_init_122 : decode cX12_init 122 = .ok (.putfield 57, 3) := by decide +kernel
theorem dX12_init_125 : decode cX12_init 125 = .ok (.aload_n 0, 1) := by decide +kernel
theorem dX12_init_126 : decode cX12_init 126 = .ok (.bipush 8, 2) := by decide +kernel
theorem dX12_init_128 : decode cX12_init 128 = .ok (.newarray .long, 2) := by decide +kernel
theorem dX12_init_130 : decode cX12_init 130 = .ok (.putfield 60, 3) := by decide +kernel
theorem dX12_init_133 : decode cX12_init 133 = .ok (.aload_n 0, 1) := by decide +kernel
theorem dX12_init_134 : decode cX12_init 134 = .ok (.bipush 9, 2) := by decide +kernel
theorem dX12_init_136 : decode cX12_init 136 = .ok (.newarray .int, 2) := by decide +kernel
theorem dX12_init_138 : decode cX12_init 138 = .ok (.putfield 63, 3) := by decide +kernel
theorem dX12_init_141 : decode cX12_init 141 = .ok (.aload_n 0, 1) := by decide +kernel
theorem dX12_init_142 : decode cX12_init 142 = .ok (.bipush 9, 2) := by decide +kernel
theorem dX12_init_144 : decode cX12_init 144 = .ok (.newarray .long, 2) := by decide +kernel
theorem dX12_init_146 : decode cX12_init 146 = .ok (.putfield 66, 3) := by decide +kernel
theorem dX12_init_149 : decode cX12_init 149 = .ok (.aload_n 0, 1) := by decide +kernel
theorem dX12_init_150 : decode cX12_init 150 = .ok (.bipush 96, 2) := by decide +kernel
theorem dX12_init_152 : decode cX12_init 152 = .ok (.newarray .int, 2) := by decide +kernel
theorem dX12_init_154 : decode cX12_init 154 = .ok (.putfield 69, 3) := by decide +kernel
theorem dX12_init_157 : decode cX12_init 157 = .ok (.aload_n 0, 1) := by decide +kernel
theorem dX12_init_158 : decode cX12_init 158 = .ok (.bipush 48, 2) := by decide +kernel
theorem dX12_init_160 : decode cX12_init 160 = .ok (.newarray .long, 2) := by decide +kernel
theorem dX12_init_162 : decode cX12_init 162 = .ok (.putfield 72, 3) := by decide +kernel
theorem dX12_init_165 : decode cX12_init 165 = .ok (.aload_n 0, 1) := by decide +kernel
theorem dX12_init_166 : decode cX12_init 166 = .ok (.bipush 48, 2) := by decide +kernel
theorem dX12_init_168 : decode cX12_init 168 = .ok (.newarray .long, 2) := by decide +kernel
theorem dX12_init_170 : decode cX12_init 170 = .ok (.putfield 75, 3) := by decide +kernel
theorem dX12_init_173 : decode cX12_init 173 = .ok (.aload_n 0, 1) := by decide +kernel
theorem dX12_init_174 : decode cX12_init 174 = .ok (.bipush 48, 2) := by decide +kernel
theorem dX12_init_176 : decode cX12_init 176 = .ok (.newarray .double, 2) := by decide +kernel
theorem dX12_init_178 : decode cX12_init 178 = .ok (.putfield 78, 3) := by decide +kernel
theorem dX12_init_181 : decode cX12_init 181 = .ok (.aload_n 0, 1) := by decide +kernel
theorem dX12_init_182 : decode cX12_init 182 = .ok (.bipush 96, 2) := by decide +kernel
theorem dX12_init_184 : decode cX12_init 184 = .ok (.newarray .int, 2) := by decide +kernel
theorem dX12_init_186 : decode cX12_init 186 = .ok (.putfield 82, 3) := by decide +kernel
theorem dX12_init_189 : decode cX12_init 189 = .ok (.aload_n 0, 1) := by decide +kernel
theorem dX12_init_190 : decode cX12_init 190 = .ok (.bipush 48, 2) := by decide +kernel
theorem dX12_init_192 : decode cX12_init 192 = .ok (.newarray .long, 2) := by decide +kernel
theorem dX12_init_194 : decode cX12_init 194 = .ok (.putfield 85, 3) := by decide +kernel
theorem dX12_init_197 : decode cX12_init 197 = .ok (.aload_n 0, 1) := by decide +kernel
theorem dX12_init_198 : decode cX12_init 198 = .ok (.sipush 700, 3) := by decide +kernel
theorem dX12_init_201 : decode cX12_init 201 = .ok (.newarray .byte, 2) := by decide +kernel
theorem dX12_init_203 : decode cX12_init 203 = .ok (.putfield 88, 3) := by decide +kernel
theorem dX12_init_206 : decode cX12_init 206 = .ok (.aload_n 0, 1) := by decide +kernel
theorem dX12_init_207 : decode cX12_init 207 = .ok (.iconst (-1), 1) := by decide +kernel
theorem dX12_init_208 : decode cX12_init 208 = .ok (.putfield 92, 3) := by decide +kernel
theorem dX12_init_211 : decode cX12_init 211 = .ok (.aload_n 0, 1) := by decide +kernel
theorem dX12_init_212 : decode cX12_init 212 = .ok (.invokevirtual 95, 3) := by decide +kernel
theorem dX12_init_215 : decode cX12_init 215 = .ok (.aload_n 0, 1) := by decide +kernel
theorem dX12_init_216 : decode cX12_init 216 = .ok (.invokevirtual 98, 3) := by decide +kernel
theorem dX12_init_219 : decode cX12_init 219 = .ok (.return_, 1) := by decide +kernel
set_option maxRecDepth 20000 in
theorem ggX12_take_X12_startExporter : GoodIn wsX12_take wsX12_startExporter := goodIn_ca (goodIn_r _ [24, 13, 14, 25, 26, 35, 36, 37, 38, 39, 40, 41, 42, 43, 44, 45, 46, 47, 48, 49, 50, 51, 52, 53, 54, 55, 56, 57, 58, 59, 60, 61, 62, 63, 64, 65, 66, 67, 68, 69, 70, 71, 72, 73, 74, 75, 76, 77, 78, 79, 80, 81, 82, 83, 84, 85, 86, 87, 88] (by decide +kernel) (by decide +kernel)) (goodIn_sub (fun _ h => List.mem_cons_of_mem _ (List.mem_append_right _ h)) (by decide +kernel))
set_option maxRecDepth 20000 in
theorem gX12_take_X12_startExporter : GoodIn wsX12_take (wsV RX12 151 RX12 yX12_startExporter wsX12_startExporter) := goodIn_app (goodIn_of _ (by decide +kernel)) ggX12_take_X12_startExporter
set_option maxRecDepth 20000 in
theorem ggX12_take_X12_startCollector : GoodIn wsX12_take wsX12_startCollector := goodIn_ca (goodIn_r _ [30, 31, 32, 33, 34, 35, 36, 37, 38, 39, 40, 41, 42, 43, 44, 45, 46, 47, 48, 49, 50, 51, 52, 53, 54, 55, 56, 57, 58, 59, 60, 61, 62, 63, 64, 65, 66, 67, 68, 69, 70, 71, 72, 73, 74, 75, 76, 77, 78, 79, 80, 81, 82, 83, 84, 85, 86, 87, 88] (by decide +kernel) (by decide +kernel)) (goodIn_sub (fun _ h => List.mem_cons_of_mem _ (List.mem_append_right _ h)) (by decide +kernel))
set_option maxRecDepth 20000 in
theorem gX12_take_X12_startCollector : GoodIn wsX12_take (wsV RX12 154 RX12 yX12_startCollector wsX12_startCollector) := goodIn_app (goodIn_of _ (by decide +kernel)) ggX12_take_X12_startCollector
theorem dX12_take_0 : decode cX12_take 0 = .ok (.aload_n 0, 1) := by decide +kernel
theorem dX12_take_1 : decode cX12_take 1 = .ok (.getfield 13, 3) := by decide +kernel
theorem dX12_take_4 : decode cX12_take 4 = .ok (.bipush 10, 2) := by decide +kernel
theorem dX12_take_6 : decode cX12_take 6 = .ok (.iaload, 1) := by decide +kernel
theorem dX12_take_7 : decode cX12_take 7 = .ok (.ifCond .ne 44, 3) := by decide +kernel
theorem dX12_take_10 : decode cX12_take 10 = .ok (.aload_n 0, 1) := by decide +kernel
theorem dX12_take_11 : decode cX12_take 11 = .ok (.getfield 13, 3) := by decide +kernel
theorem dX12_take_14 : decode cX12_take 14 = .ok (.bipush 10, 2) := by decide +kernel
theorem dX12_take_16 : decode cX12_take 16 = .ok (.iconst 1, 1) := by decide +kernel
theorem dX12_take_17 : decode cX12_take 17 = .ok (.iastore, 1) := by decide +kernel
theorem dX12_take_18 : decode cX12_take 18 = .ok (.aload_n 0, 1) := by decide +kernel
theorem dX12_take_19 : decode cX12_take 19 = .ok (.getfield 13, 3) := by decide +kernel
theorem dX12_take_22 : decode cX12_take 22 = .ok (.bipush 11, 2) := by decide +kernel
theorem dX12_take_24 : decode cX12_take 24 = .ok (.bipush 9, 2) := by decide +kernel
theorem dX12_take_26 : decode cX12_take 26 = .ok (.iastore, 1) := by decide +kernel
theorem dX12_take_27 : decode cX12_take 27 = .ok (.iconst 0, 1) := by decide +kernel
theorem dX12_take_28 : decode cX12_take 28 = .ok (.istore_n 1, 1) := by decide +kernel
theorem dX12_take_29 : decode cX12_take 29 = .ok (.iload_n 1, 1) := by decide +kernel
theorem dX12_take_30 : decode cX12_take 30 = .ok (.bipush 9, 2) := by decide +kernel
theorem dX12_take_32 : decode cX12_take 32 = .ok (.if_icmp .ge 19, 3) := by decide +kernel
theorem dX12_take_35 : decode cX12_take 35 = .ok (.aload_n 0, 1) := by decide +kernel
theorem dX12_take_36 : decode cX12_take 36 = .ok (.getfield 13, 3) := by decide +kernel
theorem dX12_take_39 : decode cX12_take 39 = .ok (.bipush 15, 2) := by decide +kernel
theorem dX12_take_41 : decode cX12_take 41 = .ok (.iload_n 1, 1) := by decide +kernel
theorem dX12_take_42 : decode cX12_take 42 = .ok (.iadd, 1) := by decide +kernel
theorem dX12_take_43 : decode cX12_take 43 = .ok (.iload_n 1, 1) := by decide +kernel
theorem dX12_take_44 : decode cX12_take 44 = .ok (.iastore, 1) := by decide +kernel
theorem dX12_take_45 : decode cX12_take 45 = .ok (.iinc 1 1, 3) := by decide +kernel
theorem dX12_take_48 : decode cX12_take 48 = .ok (.goto (-19), 3) := by decide +kernel
theorem dX12_take_51 : decode cX12_take 51 = .ok (.iconst 0, 1) := by decide +kernel
theorem dX12_take_52 : decode cX12_take 52 = .ok (.istore_n 1, 1) := by decide +kernel
theorem dX12_take_78 : decode cX12_take 78 = .ok (.aload_n 0, 1) := by decide +kernel
theorem dX12_take_79 : decode cX12_take 79 = .ok (.iconst 0, 1) := by decide +kernel
theorem dX12_take_80 : decode cX12_take 80 = .ok (.putfield 101, 3) := by decide +kernel
theorem dX12_take_83 : decode cX12_take 83 = .ok (.aload_n 0, 1) := by decide +kernel
theorem dX12_take_84 : decode cX12_take 84 = .ok (.iconst 1, 1) := by decide +kernel
theorem dX12_take_85 : decode cX12_take 85 = .ok (.putfield 104, 3) := by decide +kernel
theorem dX12_take_88 : decode cX12_take 88 = .ok (.aload_n 0, 1) := by decide +kernel
theorem dX12_take_89 : decode cX12_take 89 = .ok (.aload_n 0, 1) := by decide +kernel
theorem dX12_take_90 : decode cX12_take 90 = .ok (.getfield 17, 3) := by decide +kernel
theorem dX12_take_93 : decode cX12_take 93 = .ok (.iconst 0, 1) := by decide +kernel
theorem dX12_take_94 : decode cX12_take 94 = .ok (.iaload, 1) := by decide +kernel
theorem dX12_take_95 : decode cX12_take 95 = .ok (.putfield 107, 3) := by decide +kernel
theorem dX12_take_98 : decode cX12_take 98 = .ok (.aload_n 0, 1) := by decide +kernel
theorem dX12_take_99 : decode cX12_take 99 = .ok (.iconst 0, 1) := by decide +kernel
theorem dX12_take_100 : decode cX12_take 100 = .ok (.putfield 110, 3) := by decide +kernel
theorem dX12_take_103 : decode cX12_take 103 = .ok (.aload_n 0, 1) := by decide +kernel
theorem dX12_take_104 : decode cX12_take 104 = .ok (.iconst 0, 1) := by decide +kernel
theorem dX12_take_105 : decode cX12_take 105 = .ok (.putfield 114, 3) := by decide +kernel
theorem dX12_take_108 : decode cX12_take 108 = .ok (.aload_n 0, 1) := by decide +kernel
theorem dX12_take_109 : decode cX12_take 109 = .ok (.lconst 0, 1) := by decide +kernel
theorem dX12_take_110 : decode cX12_take 110 = .ok (.putfield 117, 3) := by decide +kernel
theorem dX12_take_113 : decode cX12_take 113 = .ok (.aload_n 0, 1) := by decide +kernel
theorem dX12_take_114 : decode cX12_take 114 = .ok (.lconst 0, 1) := by decide +kernel
theorem dX12_take_115 : decode cX12_take 115 = .ok (.putfield 121, 3) := by decide +kernel
theorem dX12_take_118 : decode cX12_take 118 = .ok (.aload_n 0, 1) := by decide +kernel
theorem dX12_take_119 : decode cX12_take 119 = .ok (.lconst 0, 1) := by decide +kernel
theorem dX12_take_120 : decode cX12_take 120 = .ok (.putfield 124, 3) := by decide +kernel
theorem dX12_take_123 : decode cX12_take 123 = .ok (.aload_n 0, 1) := by decide +kernel
theorem dX12_take_124 : decode cX12_take 124 = .ok (.lconst 0, 1) := by decide +kernel
theorem dX12_take_125 : decode cX12_take 125 = .ok (.putfield 127, 3) := by decide +kernel
theorem dX12_take_128 : decode cX12_take 128 = .ok (.aload_n 0, 1) := by decide +kernel
theorem dX12_take_129 : decode cX12_take 129 = .ok (.iconst 0, 1) := by decide +kernel
theorem dX12_take_130 : decode cX12_take 130 = .ok (.putfield 130, 3) := by decide +kernel
theorem dX12_take_133 : decode cX12_take 133 = .ok (.aload_n 0, 1) := by decide +kernel
theorem dX12_take_134 : decode cX12_take 134 = .ok (.iconst 0, 1) := by decide +kernel
theorem dX12_take_135 : decode cX12_take 135 = .ok (.putfield 133, 3) := by decide +kernel
theorem dX12_take_138 : decode cX12_take 138 = .ok (.aload_n 0, 1) := by decide +kernel
theorem dX12_take_139 : decode cX12_take 139 = .ok (.iconst 0, 1) := by decide +kernel
theorem dX12_take_140 : decode cX12_take 140 = .ok (.putfield 136, 3) := by decide +kernel
theorem dX12_take_143 : decode cX12_take 143 = .ok (.aload_n 0, 1) := by decide +kernel
theorem dX12_take_144 : decode cX12_take 144 = .ok (.iconst 0, 1) := by decide +kernel
theorem dX12_take_145 : decode cX12_take 145 = .ok (.putfield 139, 3) := by decide +kernel
theorem dX12_take_148 : decode cX12_take 148 = .ok (.aload_n 0, 1) := by decide +kernel
theorem dX12_take_149 : decode cX12_take 149 = .ok (.iconst 0, 1) := by decide +kernel
theorem dX12_take_150 : decode cX12_take 150 = .ok (.putfield 142, 3) := by decide +kernel
theorem dX12_take_153 : decode cX12_take 153 = .ok (.aload_n 0, 1) := by decide +kernel
theorem dX12_take_154 : decode cX12_take 154 = .ok (.iconst 0, 1) := by decide +kernel
theorem dX12_take_155 : decode cX12_take 155 = .ok (.putfield 145, 3) := by decide +kernel
theorem dX12_take_158 : decode cX12_take 158 = .ok (.aload_n 0, 1) := by decide +kernel
theorem dX12_take_159 : decode cX12_take 159 = .ok (.iconst 0, 1) := by decide +kernel
theorem dX12_take_160 : decode cX12_take 160 = .ok (.putfield 148, 3) := by decide +kernel
theorem dX12_take_163 : decode cX12_take 163 = .ok (.iconst 0, 1) := by decide +kernel
theorem dX12_take_164 : decode cX12_take 164 = .ok (.istore_n 1, 1) := by decide +kernel
theorem dX12_take_165 : decode cX12_take 165 = .ok (.iload_n 1, 1) := by decide +kernel
theorem dX12_take_166 : decode cX12_take 166 = .ok (.bipush 9, 2) := by decide +kernel
theorem dX12_take_168 : decode cX12_take 168 = .ok (.if_icmp .ge 16, 3) := by decide +kernel
theorem dX12_take_171 : decode cX12_take 171 = .ok (.aload_n 0, 1) := by decide +kernel
theorem dX12_take_172 : decode cX12_take 172 = .ok (.getfield 45, 3) := by decide +kernel
theorem dX12_take_175 : decode cX12_take 175 = .ok (.iload_n 1, 1) := by decide +kernel
theorem dX12_take_176 : decode cX12_take 176 = .ok (.lconst 0, 1) := by decide +kernel
theorem dX12_take_177 : decode cX12_take 177 = .ok (.lastore, 1) := by decide +kernel
theorem dX12_take_178 : decode cX12_take 178 = .ok (.iinc 1 1, 3) := by decide +kernel
theorem dX12_take_181 : decode cX12_take 181 = .ok (.goto (-16), 3) := by decide +kernel
theorem dX12_take_184 : decode cX12_take 184 = .ok (.aload_n 0, 1) := by decide +kernel
theorem dX12_take_185 : decode cX12_take 185 = .ok (.invokevirtual 151, 3) := by decide +kernel
theorem dX12_take_188 : decode cX12_take 188 = .ok (.aload_n 0, 1) := by decide +kernel
theorem dX12_take_189 : decode cX12_take 189 = .ok (.invokevirtual 154, 3) := by decide +kernel
theorem dX12_take_192 : decode cX12_take 192 = .ok (.return_, 1) := by decide +kernel

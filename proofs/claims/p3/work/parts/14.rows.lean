set_option maxRecDepth 20000 in
theorem ggX8_sendPending_X8_beginMessage : GoodIn wsX8_sendPending wsX8_beginMessage := goodIn_ca (goodIn_r _ [11, 12, 13, 14, 15, 16, 17, 18, 19, 20, 21, 22, 23, 24, 25, 26, 27, 28, 29, 30, 31, 32, 33, 34, 35, 36, 10, 37, 5, 38, 39, 40, 41, 42, 43, 44, 45, 3, 46, 47, 48, 49, 50, 51, 52, 53, 54, 55, 56, 57, 58, 59, 60, 61, 62, 63, 64, 65, 66, 67, 68, 69, 70, 71, 72, 73, 74, 75, 76, 103, 104, 105, 106, 107, 108, 109, 110, 111, 112, 119, 120, 121, 117, 118, 113, 114, 115, 116, 122, 123, 124, 125, 126, 127] rfl (by decide +kernel)) (goodIn_sub (fun _ h => List.mem_cons_of_mem _ (List.mem_append_right _ h)) (by decide +kernel))
set_option maxRecDepth 20000 in
theorem gX8_sendPending_X8_beginMessage : GoodIn wsX8_sendPending (wsV RX8 110 RX8 yX8_beginMessage wsX8_beginMessage) := goodIn_app (goodIn_of _ (by decide +kernel)) ggX8_sendPending_X8_beginMessage
set_option maxRecDepth 20000 in
theorem ggX8_sendPending_X1_effective : GoodIn wsX8_sendPending wsX1_effective := goodIn_r _ [51, 52, 122, 123, 124, 125, 126, 127] rfl (by decide +kernel)
set_option maxRecDepth 20000 in
theorem gX8_sendPending_X1_effective : GoodIn wsX8_sendPending (wsV RX8 82 RX1 yX1_effective wsX1_effective) := goodIn_app (goodIn_of _ (by decide +kernel)) ggX8_sendPending_X1_effective
set_option maxRecDepth 20000 in
theorem ggX8_sendPending_X1_get : GoodIn wsX8_sendPending wsX1_get := goodIn_ca (goodIn_r _ [56, 57, 122, 123, 124, 125, 126, 127] rfl (by decide +kernel)) (goodIn_sub (fun _ h => List.mem_cons_of_mem _ (List.mem_append_right _ h)) (by decide +kernel))
set_option maxRecDepth 20000 in
theorem gX8_sendPending_X1_get : GoodIn wsX8_sendPending (wsV RX8 88 RX1 yX1_get wsX1_get) := goodIn_app (goodIn_of _ (by decide +kernel)) ggX8_sendPending_X1_get
set_option maxRecDepth 20000 in
theorem ggX8_sendPending_X8_endMessage : GoodIn wsX8_sendPending wsX8_endMessage := goodIn_ca (goodIn_r _ [80, 5, 12, 40, 81, 14, 73, 74, 75, 30, 76, 32, 33, 82, 83, 84, 18, 85, 20, 86, 117, 118, 103, 104, 105, 106, 107, 108, 109, 110, 111, 112, 119, 120, 121] rfl (by decide +kernel)) (goodIn_sub (fun _ h => List.mem_cons_of_mem _ (List.mem_append_right _ h)) (by decide +kernel))
set_option maxRecDepth 20000 in
theorem gX8_sendPending_X8_endMessage : GoodIn wsX8_sendPending (wsV RX8 117 RX8 yX8_endMessage wsX8_endMessage) := goodIn_app (goodIn_of _ (by decide +kernel)) ggX8_sendPending_X8_endMessage
set_option maxRecDepth 20000 in
theorem ggX8_sendPending_X5_put : GoodIn wsX8_sendPending wsX5_put := goodIn_ca (goodIn_r _ [31, 32, 33, 117, 118] rfl (by decide +kernel)) (goodIn_sub (fun _ h => List.mem_cons_of_mem _ (List.mem_append_right _ h)) (by decide +kernel))
set_option maxRecDepth 20000 in
theorem gX8_sendPending_X5_put : GoodIn wsX8_sendPending (wsV RX8 106 RX5 yX5_put wsX5_put) := goodIn_app (goodIn_of _ (by decide +kernel)) ggX8_sendPending_X5_put
set_option maxRecDepth 20000 in
theorem ggX8_sendPending_X5_putFrom : GoodIn wsX8_sendPending wsX5_putFrom := goodIn_r _ [90, 33, 32, 91, 92, 93, 94, 95, 96, 97, 98, 117, 118] rfl (by decide +kernel)
set_option maxRecDepth 20000 in
theorem gX8_sendPending_X5_putFrom : GoodIn wsX8_sendPending (wsV RX8 121 RX5 yX5_putFrom wsX5_putFrom) := goodIn_app (goodIn_of _ (by decide +kernel)) ggX8_sendPending_X5_putFrom
set_option maxRecDepth 20000 in
theorem ggX8_sendPending_X5_putAt : GoodIn wsX8_sendPending wsX5_putAt := goodIn_ca (goodIn_r _ [76, 32, 33, 117, 118] rfl (by decide +kernel)) (goodIn_sub (fun _ h => List.mem_cons_of_mem _ (List.mem_append_right _ h)) (by decide +kernel))
set_option maxRecDepth 20000 in
theorem gX8_sendPending_X5_putAt : GoodIn wsX8_sendPending (wsV RX8 125 RX5 yX5_putAt wsX5_putAt) := goodIn_app (goodIn_of _ (by decide +kernel)) ggX8_sendPending_X5_putAt
set_option maxRecDepth 20000 in
theorem ggX8_sendPending_X8_emptyPending : GoodIn wsX8_sendPending wsX8_emptyPending := goodIn_r _ [102, 6, 5, 1, 103, 104, 105, 106, 107, 108, 109, 110, 111, 112, 117, 118] rfl (by decide +kernel)
set_option maxRecDepth 20000 in
theorem gX8_sendPending_X8_emptyPending : GoodIn wsX8_sendPending (wsV RX8 55 RX8 yX8_emptyPending wsX8_emptyPending) := goodIn_app (goodIn_of _ (by decide +kernel)) ggX8_sendPending_X8_emptyPending
theorem dX8_sendPending_0 : decode cX8_sendPending 0 = .ok (.aload_n 0, 1) := by decide +kernel
theorem dX8_sendPending_1 : decode cX8_sendPending 1 = .ok (.getfield 24, 3) := by decide +kernel
theorem dX8_sendPending_4 : decode cX8_sendPending 4 = .ok (.ifCond .ne 4, 3) := by decide +kernel
theorem dX8_sendPending_7 : decode cX8_sendPending 7 = .ok (.return_, 1) := by decide +kernel
theorem dX8_sendPending_8 : decode cX8_sendPending 8 = .ok (.aload_n 0, 1) := by decide +kernel
theorem dX8_sendPending_9 : decode cX8_sendPending 9 = .ok (.iload_n 1, 1) := by decide +kernel
theorem dX8_sendPending_10 : decode cX8_sendPending 10 = .ok (.invokevirtual 110, 3) := by decide +kernel
theorem dX8_sendPending_13 : decode cX8_sendPending 13 = .ok (.astore_n 2, 1) := by decide +kernel
theorem dX8_sendPending_14 : decode cX8_sendPending 14 = .ok (.iconst 0, 1) := by decide +kernel
theorem dX8_sendPending_15 : decode cX8_sendPending 15 = .ok (.istore_n 3, 1) := by decide +kernel
theorem dX8_sendPending_16 : decode cX8_sendPending 16 = .ok (.iconst (-1), 1) := by decide +kernel
theorem dX8_sendPending_17 : decode cX8_sendPending 17 = .ok (.istore 4, 2) := by decide +kernel
theorem dX8_sendPending_19 : decode cX8_sendPending 19 = .ok (.iconst 0, 1) := by decide +kernel
theorem dX8_sendPending_20 : decode cX8_sendPending 20 = .ok (.istore 5, 2) := by decide +kernel
theorem dX8_sendPending_22 : decode cX8_sendPending 22 = .ok (.iconst 0, 1) := by decide +kernel
theorem dX8_sendPending_23 : decode cX8_sendPending 23 = .ok (.istore 6, 2) := by decide +kernel
theorem dX8_sendPending_25 : decode cX8_sendPending 25 = .ok (.iconst 0, 1) := by decide +kernel
theorem dX8_sendPending_26 : decode cX8_sendPending 26 = .ok (.istore 7, 2) := by decide +kernel
theorem dX8_sendPending_28 : decode cX8_sendPending 28 = .ok (.iload 7, 2) := by decide +kernel
theorem dX8_sendPending_30 : decode cX8_sendPending 30 = .ok (.aload_n 0, 1) := by decide +kernel
theorem dX8_sendPending_31 : decode cX8_sendPending 31 = .ok (.getfield 24, 3) := by decide +kernel
theorem dX8_sendPending_34 : decode cX8_sendPending 34 = .ok (.if_icmp .ge 170, 3) := by decide +kernel
theorem dX8_sendPending_37 : decode cX8_sendPending 37 = .ok (.iload 7, 2) := by decide +kernel
theorem dX8_sendPending_39 : decode cX8_sendPending 39 = .ok (.aload_n 0, 1) := by decide +kernel
theorem dX8_sendPending_40 : decode cX8_sendPending 40 = .ok (.getfield 20, 3) := by decide +kernel
theorem dX8_sendPending_43 : decode cX8_sendPending 43 = .ok (.arraylength, 1) := by decide +kernel
theorem dX8_sendPending_44 : decode cX8_sendPending 44 = .ok (.if_icmp .ge 160, 3) := by decide +kernel
theorem dX8_sendPending_47 : decode cX8_sendPending 47 = .ok (.aload_n 0, 1) := by decide +kernel
theorem dX8_sendPending_48 : decode cX8_sendPending 48 = .ok (.getfield 20, 3) := by decide +kernel
theorem dX8_sendPending_51 : decode cX8_sendPending 51 = .ok (.iload 7, 2) := by decide +kernel
theorem dX8_sendPending_53 : decode cX8_sendPending 53 = .ok (.iaload, 1) := by decide +kernel
theorem dX8_sendPending_54 : decode cX8_sendPending 54 = .ok (.istore 8, 2) := by decide +kernel
theorem dX8_sendPending_56 : decode cX8_sendPending 56 = .ok (.aload_n 0, 1) := by decide +kernel
theorem dX8_sendPending_57 : decode cX8_sendPending 57 = .ok (.getfield 44, 3) := by decide +kernel
theorem dX8_sendPending_60 : decode cX8_sendPending 60 = .ok (.iload 8, 2) := by decide +kernel
theorem dX8_sendPending_62 : decode cX8_sendPending 62 = .ok (.invokevirtual 82, 3) := by decide +kernel
theorem dX8_sendPending_65 : decode cX8_sendPending 65 = .ok (.getfield 114, 3) := by decide +kernel
theorem dX8_sendPending_68 : decode cX8_sendPending 68 = .ok (.istore 9, 2) := by decide +kernel
theorem dX8_sendPending_70 : decode cX8_sendPending 70 = .ok (.iload 8, 2) := by decide +kernel
theorem dX8_sendPending_72 : decode cX8_sendPending 72 = .ok (.iload 4, 2) := by decide +kernel
theorem dX8_sendPending_74 : decode cX8_sendPending 74 = .ok (.if_icmp .ne 8, 3) := by decide +kernel
theorem dX8_sendPending_77 : decode cX8_sendPending 77 = .ok (.iload 9, 2) := by decide +kernel
theorem dX8_sendPending_79 : decode cX8_sendPending 79 = .ok (.goto 7, 3) := by decide +kernel
theorem dX8_sendPending_82 : decode cX8_sendPending 82 = .ok (.iload 9, 2) := by decide +kernel
theorem dX8_sendPending_84 : decode cX8_sendPending 84 = .ok (.iconst 4, 1) := by decide +kernel
theorem dX8_sendPending_85 : decode cX8_sendPending 85 = .ok (.iadd, 1) := by decide +kernel
theorem dX8_sendPending_86 : decode cX8_sendPending 86 = .ok (.istore 10, 2) := by decide +kernel
theorem dX8_sendPending_88 : decode cX8_sendPending 88 = .ok (.aload_n 2, 1) := by decide +kernel
theorem dX8_sendPending_89 : decode cX8_sendPending 89 = .ok (.getfield 61, 3) := by decide +kernel
theorem dX8_sendPending_92 : decode cX8_sendPending 92 = .ok (.iload 10, 2) := by decide +kernel
theorem dX8_sendPending_94 : decode cX8_sendPending 94 = .ok (.iadd, 1) := by decide +kernel
theorem dX8_sendPending_95 : decode cX8_sendPending 95 = .ok (.aload_n 0, 1) := by decide +kernel
theorem dX8_sendPending_96 : decode cX8_sendPending 96 = .ok (.getfield 44, 3) := by decide +kernel
theorem dX8_sendPending_99 : decode cX8_sendPending 99 = .ok (.bipush 7, 2) := by decide +kernel
theorem dX8_sendPending_101 : decode cX8_sendPending 101 = .ok (.invokevirtual 88, 3) := by decide +kernel
theorem dX8_sendPending_104 : decode cX8_sendPending 104 = .ok (.if_icmp .le 20, 3) := by decide +kernel
theorem dX8_sendPending_107 : decode cX8_sendPending 107 = .ok (.aload_n 0, 1) := by decide +kernel
theorem dX8_sendPending_108 : decode cX8_sendPending 108 = .ok (.aload_n 2, 1) := by decide +kernel
theorem dX8_sendPending_109 : decode cX8_sendPending 109 = .ok (.iload_n 3, 1) := by decide +kernel
theorem dX8_sendPending_110 : decode cX8_sendPending 110 = .ok (.invokevirtual 117, 3) := by decide +kernel
theorem dX8_sendPending_113 : decode cX8_sendPending 113 = .ok (.aload_n 0, 1) := by decide +kernel
theorem dX8_sendPending_114 : decode cX8_sendPending 114 = .ok (.iload_n 1, 1) := by decide +kernel
theorem dX8_sendPending_115 : decode cX8_sendPending 115 = .ok (.invokevirtual 110, 3) := by decide +kernel
theorem dX8_sendPending_118 : decode cX8_sendPending 118 = .ok (.astore_n 2, 1) := by decide +kernel
theorem dX8_sendPending_119 : decode cX8_sendPending 119 = .ok (.iconst 0, 1) := by decide +kernel
theorem dX8_sendPending_120 : decode cX8_sendPending 120 = .ok (.istore_n 3, 1) := by decide +kernel
theorem dX8_sendPending_121 : decode cX8_sendPending 121 = .ok (.iconst (-1), 1) := by decide +kernel
theorem dX8_sendPending_122 : decode cX8_sendPending 122 = .ok (.istore 4, 2) := by decide +kernel
theorem dX8_sendPending_124 : decode cX8_sendPending 124 = .ok (.iload 8, 2) := by decide +kernel
theorem dX8_sendPending_126 : decode cX8_sendPending 126 = .ok (.iload 4, 2) := by decide +kernel
theorem dX8_sendPending_128 : decode cX8_sendPending 128 = .ok (.if_icmp .eq 31, 3) := by decide +kernel
theorem dX8_sendPending_131 : decode cX8_sendPending 131 = .ok (.iload 8, 2) := by decide +kernel
theorem dX8_sendPending_133 : decode cX8_sendPending 133 = .ok (.istore 4, 2) := by decide +kernel
theorem dX8_sendPending_135 : decode cX8_sendPending 135 = .ok (.aload_n 2, 1) := by decide +kernel
theorem dX8_sendPending_136 : decode cX8_sendPending 136 = .ok (.getfield 61, 3) := by decide +kernel
theorem dX8_sendPending_139 : decode cX8_sendPending 139 = .ok (.istore 5, 2) := by decide +kernel
theorem dX8_sendPending_141 : decode cX8_sendPending 141 = .ok (.aload_n 2, 1) := by decide +kernel
theorem dX8_sendPending_142 : decode cX8_sendPending 142 = .ok (.sipush 256, 3) := by decide +kernel
theorem dX8_sendPending_145 : decode cX8_sendPending 145 = .ok (.iload 8, 2) := by decide +kernel
theorem dX8_sendPending_147 : decode cX8_sendPending 147 = .ok (.iadd, 1) := by decide +kernel
theorem dX8_sendPending_148 : decode cX8_sendPending 148 = .ok (.i2l, 1) := by decide +kernel
theorem dX8_sendPending_149 : decode cX8_sendPending 149 = .ok (.iconst 2, 1) := by decide +kernel
theorem dX8_sendPending_150 : decode cX8_sendPending 150 = .ok (.invokevirtual 106, 3) := by decide +kernel
theorem dX8_sendPending_153 : decode cX8_sendPending 153 = .ok (.aload_n 2, 1) := by decide +kernel
theorem dX8_sendPending_154 : decode cX8_sendPending 154 = .ok (.lconst 0, 1) := by decide +kernel
theorem dX8_sendPending_155 : decode cX8_sendPending 155 = .ok (.iconst 2, 1) := by decide +kernel
theorem dX8_sendPending_156 : decode cX8_sendPending 156 = .ok (.invokevirtual 106, 3) := by decide +kernel
theorem dX8_sendPending_159 : decode cX8_sendPending 159 = .ok (.aload_n 2, 1) := by decide +kernel
theorem dX8_sendPending_160 : decode cX8_sendPending 160 = .ok (.aload_n 0, 1) := by decide +kernel
theorem dX8_sendPending_161 : decode cX8_sendPending 161 = .ok (.getfield 14, 3) := by decide +kernel
theorem dX8_sendPending_164 : decode cX8_sendPending 164 = .ok (.iload 6, 2) := by decide +kernel
theorem dX8_sendPending_166 : decode cX8_sendPending 166 = .ok (.iload 9, 2) := by decide +kernel
theorem dX8_sendPending_168 : decode cX8_sendPending 168 = .ok (.invokevirtual 121, 3) := by decide +kernel
theorem dX8_sendPending_171 : decode cX8_sendPending 171 = .ok (.aload_n 2, 1) := by decide +kernel
theorem dX8_sendPending_172 : decode cX8_sendPending 172 = .ok (.iload 5, 2) := by decide +kernel
theorem dX8_sendPending_174 : decode cX8_sendPending 174 = .ok (.iconst 2, 1) := by decide +kernel
theorem dX8_sendPending_175 : decode cX8_sendPending 175 = .ok (.iadd, 1) := by decide +kernel
theorem dX8_sendPending_176 : decode cX8_sendPending 176 = .ok (.aload_n 2, 1) := by decide +kernel
theorem dX8_sendPending_177 : decode cX8_sendPending 177 = .ok (.getfield 61, 3) := by decide +kernel
theorem dX8_sendPending_180 : decode cX8_sendPending 180 = .ok (.iload 5, 2) := by decide +kernel
theorem dX8_sendPending_182 : decode cX8_sendPending 182 = .ok (.isub, 1) := by decide +kernel
theorem dX8_sendPending_183 : decode cX8_sendPending 183 = .ok (.i2l, 1) := by decide +kernel
theorem dX8_sendPending_184 : decode cX8_sendPending 184 = .ok (.iconst 2, 1) := by decide +kernel
theorem dX8_sendPending_185 : decode cX8_sendPending 185 = .ok (.invokevirtual 125, 3) := by decide +kernel
theorem dX8_sendPending_188 : decode cX8_sendPending 188 = .ok (.iload 6, 2) := by decide +kernel
theorem dX8_sendPending_190 : decode cX8_sendPending 190 = .ok (.iload 9, 2) := by decide +kernel
theorem dX8_sendPending_192 : decode cX8_sendPending 192 = .ok (.iadd, 1) := by decide +kernel
theorem dX8_sendPending_193 : decode cX8_sendPending 193 = .ok (.istore 6, 2) := by decide +kernel
theorem dX8_sendPending_195 : decode cX8_sendPending 195 = .ok (.iinc 3 1, 3) := by decide +kernel
theorem dX8_sendPending_198 : decode cX8_sendPending 198 = .ok (.iinc 7 1, 3) := by decide +kernel
theorem dX8_sendPending_201 : decode cX8_sendPending 201 = .ok (.goto (-173), 3) := by decide +kernel
theorem dX8_sendPending_204 : decode cX8_sendPending 204 = .ok (.aload_n 0, 1) := by decide +kernel
theorem dX8_sendPending_205 : decode cX8_sendPending 205 = .ok (.aload_n 2, 1) := by decide +kernel
theorem dX8_sendPending_206 : decode cX8_sendPending 206 = .ok (.iload_n 3, 1) := by decide +kernel
theorem dX8_sendPending_207 : decode cX8_sendPending 207 = .ok (.invokevirtual 117, 3) := by decide +kernel
theorem dX8_sendPending_210 : decode cX8_sendPending 210 = .ok (.aload_n 0, 1) := by decide +kernel
theorem dX8_sendPending_211 : decode cX8_sendPending 211 = .ok (.invokevirtual 55, 3) := by decide +kernel
theorem dX8_sendPending_214 : decode cX8_sendPending 214 = .ok (.return_, 1) := by decide +kernel
set_option maxRecDepth 20000 in
theorem ggX8_endMessage_X5_putAt : GoodIn wsX8_endMessage wsX5_putAt := goodIn_ca (goodIn_r _ [10, 11, 12, 20, 21] rfl (by decide +kernel)) (goodIn_sub (fun _ h => List.mem_cons_of_mem _ (List.mem_append_right _ h)) (by decide +kernel))
set_option maxRecDepth 20000 in
theorem gX8_endMessage_X5_putAt : GoodIn wsX8_endMessage (wsV RX8 125 RX5 yX5_putAt wsX5_putAt) := goodIn_app (goodIn_of _ (by decide +kernel)) ggX8_endMessage_X5_putAt
set_option maxRecDepth 20000 in
theorem ggX8_endMessage_X7_addFreeMessage : GoodIn wsX8_endMessage wsX7_addFreeMessage := goodIn_r _ [17, 18, 19, 32, 33, 34] rfl (by decide +kernel)
set_option maxRecDepth 20000 in
theorem gX8_endMessage_X7_addFreeMessage : GoodIn wsX8_endMessage (wsV RX8 140 RX7 yX7_addFreeMessage wsX7_addFreeMessage) := goodIn_app (goodIn_of _ (by decide +kernel)) ggX8_endMessage_X7_addFreeMessage
theorem dX8_endMessage_0 : decode cX8_endMessage 0 = .ok (.aload_n 1, 1) := by decide +kernel
theorem dX8_endMessage_1 : decode cX8_endMessage 1 = .ok (.iconst 2, 1) := by decide +kernel
theorem dX8_endMessage_2 : decode cX8_endMessage 2 = .ok (.aload_n 1, 1) := by decide +kernel
theorem dX8_endMessage_3 : decode cX8_endMessage 3 = .ok (.getfield 61, 3) := by decide +kernel
theorem dX8_endMessage_6 : decode cX8_endMessage 6 = .ok (.i2l, 1) := by decide +kernel
theorem dX8_endMessage_7 : decode cX8_endMessage 7 = .ok (.iconst 2, 1) := by decide +kernel
theorem dX8_endMessage_8 : decode cX8_endMessage 8 = .ok (.invokevirtual 125, 3) := by decide +kernel
theorem dX8_endMessage_11 : decode cX8_endMessage 11 = .ok (.aload_n 1, 1) := by decide +kernel
theorem dX8_endMessage_12 : decode cX8_endMessage 12 = .ok (.bipush 12, 2) := by decide +kernel
theorem dX8_endMessage_14 : decode cX8_endMessage 14 = .ok (.iload_n 2, 1) := by decide +kernel
theorem dX8_endMessage_15 : decode cX8_endMessage 15 = .ok (.i2l, 1) := by decide +kernel
theorem dX8_endMessage_16 : decode cX8_endMessage 16 = .ok (.iconst 4, 1) := by decide +kernel
theorem dX8_endMessage_17 : decode cX8_endMessage 17 = .ok (.invokevirtual 125, 3) := by decide +kernel
theorem dX8_endMessage_20 : decode cX8_endMessage 20 = .ok (.aload_n 0, 1) := by decide +kernel
theorem dX8_endMessage_21 : decode cX8_endMessage 21 = .ok (.getfield 48, 3) := by decide +kernel
theorem dX8_endMessage_24 : decode cX8_endMessage 24 = .ok (.invokevirtual 140, 3) := by decide +kernel
theorem dX8_endMessage_27 : decode cX8_endMessage 27 = .ok (.aload_n 0, 1) := by decide +kernel
theorem dX8_endMessage_28 : decode cX8_endMessage 28 = .ok (.dup, 1) := by decide +kernel
theorem dX8_endMessage_29 : decode cX8_endMessage 29 = .ok (.getfield 34, 3) := by decide +kernel
theorem dX8_endMessage_32 : decode cX8_endMessage 32 = .ok (.iconst 1, 1) := by decide +kernel
theorem dX8_endMessage_33 : decode cX8_endMessage 33 = .ok (.iadd, 1) := by decide +kernel
theorem dX8_endMessage_34 : decode cX8_endMessage 34 = .ok (.putfield 34, 3) := by decide +kernel
theorem dX8_endMessage_37 : decode cX8_endMessage 37 = .ok (.aload_n 0, 1) := by decide +kernel
theorem dX8_endMessage_38 : decode cX8_endMessage 38 = .ok (.dup, 1) := by decide +kernel
theorem dX8_endMessage_39 : decode cX8_endMessage 39 = .ok (.getfield 37, 3) := by decide +kernel
theorem dX8_endMessage_42 : decode cX8_endMessage 42 = .ok (.iload_n 2, 1) := by decide +kernel
theorem dX8_endMessage_43 : decode cX8_endMessage 43 = .ok (.i2l, 1) := by decide +kernel
theorem dX8_endMessage_44 : decode cX8_endMessage 44 = .ok (.ladd, 1) := by decide +kernel
theorem dX8_endMessage_45 : decode cX8_endMessage 45 = .ok (.putfield 37, 3) := by decide +kernel
theorem dX8_endMessage_48 : decode cX8_endMessage 48 = .ok (.aload_n 0, 1) := by decide +kernel
theorem dX8_endMessage_49 : decode cX8_endMessage 49 = .ok (.dup, 1) := by decide +kernel
theorem dX8_endMessage_50 : decode cX8_endMessage 50 = .ok (.getfield 41, 3) := by decide +kernel
theorem dX8_endMessage_53 : decode cX8_endMessage 53 = .ok (.iload_n 2, 1) := by decide +kernel
theorem dX8_endMessage_54 : decode cX8_endMessage 54 = .ok (.iadd, 1) := by decide +kernel
theorem dX8_endMessage_55 : decode cX8_endMessage 55 = .ok (.putfield 41, 3) := by decide +kernel
theorem dX8_endMessage_58 : decode cX8_endMessage 58 = .ok (.return_, 1) := by decide +kernel

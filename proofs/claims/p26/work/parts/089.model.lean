set_option maxRecDepth 20000 in
theorem ggX12_root_Jxe99ae_doubleToLongBits_ccdee : GoodIn wsX12_root wsJxe99ae_doubleToLongBits_ccdee := (goodIn_r _ [13, 14, 15, 16, 9, 17, 18, 19, 12, 20] rfl (by decide +kernel))
set_option maxRecDepth 20000 in
theorem gX12_root_Jxe99ae_doubleToLongBits_ccdee : GoodIn wsX12_root (va_wsS RX12 400 yJxe99ae_doubleToLongBits_ccdee wsJxe99ae_doubleToLongBits_ccdee) := goodIn_app (goodIn_m (mem_cA (List.mem_cons_of_mem _ (List.mem_of_getElem? (i := 9) rfl)) (mem_cA (List.mem_cons_of_mem _ (List.mem_of_getElem? (i := 10) rfl)) (mem_cA (List.mem_cons_of_mem _ (List.mem_of_getElem? (i := 11) rfl)) mem_cZ))) (by decide +kernel)) ggX12_root_Jxe99ae_doubleToLongBits_ccdee
theorem dX12_root_0 : decode cX12_root 0 = .ok (.dload_n 0, 1) := by decide +kernel
theorem dX12_root_1 : decode cX12_root 1 = .ok (.dconst 0, 1) := by decide +kernel
theorem dX12_root_2 : decode cX12_root 2 = .ok (.dcmp .l, 1) := by decide +kernel
theorem dX12_root_3 : decode cX12_root 3 = .ok (.ifCond .ne 5, 3) := by decide +kernel
theorem dX12_root_6 : decode cX12_root 6 = .ok (.dconst 0, 1) := by decide +kernel
theorem dX12_root_7 : decode cX12_root 7 = .ok (.dreturn, 1) := by decide +kernel
theorem dX12_root_8 : decode cX12_root 8 = .ok (.dload_n 0, 1) := by decide +kernel
theorem dX12_root_9 : decode cX12_root 9 = .ok (.invokestatic 400, 3) := by decide +kernel
theorem dX12_root_12 : decode cX12_root 12 = .ok (.lstore_n 2, 1) := by decide +kernel
theorem dX12_root_13 : decode cX12_root 13 = .ok (.lload_n 2, 1) := by decide +kernel
theorem dX12_root_14 : decode cX12_root 14 = .ok (.bipush 52, 2) := by decide +kernel
theorem dX12_root_16 : decode cX12_root 16 = .ok (.lshr, 1) := by decide +kernel
theorem dX12_root_17 : decode cX12_root 17 = .ok (.l2i, 1) := by decide +kernel
theorem dX12_root_18 : decode cX12_root 18 = .ok (.sipush 1075, 3) := by decide +kernel
theorem dX12_root_21 : decode cX12_root 21 = .ok (.isub, 1) := by decide +kernel
theorem dX12_root_22 : decode cX12_root 22 = .ok (.istore 4, 2) := by decide +kernel
theorem dX12_root_24 : decode cX12_root 24 = .ok (.lload_n 2, 1) := by decide +kernel
theorem dX12_root_25 : decode cX12_root 25 = .ok (.ldc2_w 406, 3) := by decide +kernel
theorem dX12_root_28 : decode cX12_root 28 = .ok (.land, 1) := by decide +kernel
theorem dX12_root_29 : decode cX12_root 29 = .ok (.ldc2_w 408, 3) := by decide +kernel
theorem dX12_root_32 : decode cX12_root 32 = .ok (.lor, 1) := by decide +kernel
theorem dX12_root_33 : decode cX12_root 33 = .ok (.lstore 5, 2) := by decide +kernel
theorem dX12_root_35 : decode cX12_root 35 = .ok (.iload 4, 2) := by decide +kernel
theorem dX12_root_37 : decode cX12_root 37 = .ok (.iconst 1, 1) := by decide +kernel
theorem dX12_root_38 : decode cX12_root 38 = .ok (.iand, 1) := by decide +kernel
theorem dX12_root_39 : decode cX12_root 39 = .ok (.iconst 1, 1) := by decide +kernel
theorem dX12_root_40 : decode cX12_root 40 = .ok (.if_icmp .ne 14, 3) := by decide +kernel
theorem dX12_root_43 : decode cX12_root 43 = .ok (.lload 5, 2) := by decide +kernel
theorem dX12_root_45 : decode cX12_root 45 = .ok (.ldc2_w 410, 3) := by decide +kernel
theorem dX12_root_48 : decode cX12_root 48 = .ok (.lmul, 1) := by decide +kernel
theorem dX12_root_49 : decode cX12_root 49 = .ok (.lstore 5, 2) := by decide +kernel
theorem dX12_root_51 : decode cX12_root 51 = .ok (.iinc 4 (-1), 3) := by decide +kernel
theorem dX12_root_54 : decode cX12_root 54 = .ok (.lconst 0, 1) := by decide +kernel
theorem dX12_root_55 : decode cX12_root 55 = .ok (.lstore 7, 2) := by decide +kernel
theorem dX12_root_57 : decode cX12_root 57 = .ok (.lconst 0, 1) := by decide +kernel
theorem dX12_root_58 : decode cX12_root 58 = .ok (.lstore 9, 2) := by decide +kernel
theorem dX12_root_60 : decode cX12_root 60 = .ok (.bipush 26, 2) := by decide +kernel
theorem dX12_root_62 : decode cX12_root 62 = .ok (.istore 11, 2) := by decide +kernel
theorem dX12_root_64 : decode cX12_root 64 = .ok (.iload 11, 2) := by decide +kernel
theorem dX12_root_66 : decode cX12_root 66 = .ok (.bipush (-27), 2) := by decide +kernel
theorem dX12_root_68 : decode cX12_root 68 = .ok (.if_icmp .lt 82, 3) := by decide +kernel
theorem dX12_root_71 : decode cX12_root 71 = .ok (.ldc2_w 412, 3) := by decide +kernel
theorem dX12_root_74 : decode cX12_root 74 = .ok (.lload 9, 2) := by decide +kernel
theorem dX12_root_76 : decode cX12_root 76 = .ok (.lmul, 1) := by decide +kernel
theorem dX12_root_77 : decode cX12_root 77 = .ok (.iload 11, 2) := by decide +kernel
theorem dX12_root_79 : decode cX12_root 79 = .ok (.ifCond .ge 7, 3) := by decide +kernel
theorem dX12_root_82 : decode cX12_root 82 = .ok (.lconst 0, 1) := by decide +kernel
theorem dX12_root_83 : decode cX12_root 83 = .ok (.goto 14, 3) := by decide +kernel
theorem dX12_root_86 : decode cX12_root 86 = .ok (.lload 5, 2) := by decide +kernel
theorem dX12_root_88 : decode cX12_root 88 = .ok (.iconst 2, 1) := by decide +kernel
theorem dX12_root_89 : decode cX12_root 89 = .ok (.iload 11, 2) := by decide +kernel
theorem dX12_root_91 : decode cX12_root 91 = .ok (.imul, 1) := by decide +kernel
theorem dX12_root_92 : decode cX12_root 92 = .ok (.lshr, 1) := by decide +kernel
theorem dX12_root_93 : decode cX12_root 93 = .ok (.ldc2_w 337, 3) := by decide +kernel
theorem dX12_root_96 : decode cX12_root 96 = .ok (.land, 1) := by decide +kernel
theorem dX12_root_97 : decode cX12_root 97 = .ok (.ladd, 1) := by decide +kernel
theorem dX12_root_98 : decode cX12_root 98 = .ok (.lstore 9, 2) := by decide +kernel
theorem dX12_root_100 : decode cX12_root 100 = .ok (.lload 7, 2) := by decide +kernel
theorem dX12_root_102 : decode cX12_root 102 = .ok (.ldc2_w 410, 3) := by decide +kernel
theorem dX12_root_105 : decode cX12_root 105 = .ok (.lmul, 1) := by decide +kernel
theorem dX12_root_106 : decode cX12_root 106 = .ok (.lstore 7, 2) := by decide +kernel
theorem dX12_root_108 : decode cX12_root 108 = .ok (.lload 9, 2) := by decide +kernel
theorem dX12_root_110 : decode cX12_root 110 = .ok (.ldc2_w 410, 3) := by decide +kernel
theorem dX12_root_113 : decode cX12_root 113 = .ok (.lload 7, 2) := by decide +kernel
theorem dX12_root_115 : decode cX12_root 115 = .ok (.lmul, 1) := by decide +kernel
theorem dX12_root_116 : decode cX12_root 116 = .ok (.lconst 1, 1) := by decide +kernel
theorem dX12_root_117 : decode cX12_root 117 = .ok (.ladd, 1) := by decide +kernel
theorem dX12_root_118 : decode cX12_root 118 = .ok (.lcmp, 1) := by decide +kernel
theorem dX12_root_119 : decode cX12_root 119 = .ok (.ifCond .ge 6, 3) := by decide +kernel
theorem dX12_root_122 : decode cX12_root 122 = .ok (.goto 22, 3) := by decide +kernel
theorem dX12_root_125 : decode cX12_root 125 = .ok (.lload 9, 2) := by decide +kernel
theorem dX12_root_127 : decode cX12_root 127 = .ok (.ldc2_w 410, 3) := by decide +kernel
theorem dX12_root_130 : decode cX12_root 130 = .ok (.lload 7, 2) := by decide +kernel
theorem dX12_root_132 : decode cX12_root 132 = .ok (.lmul, 1) := by decide +kernel
theorem dX12_root_133 : decode cX12_root 133 = .ok (.lconst 1, 1) := by decide +kernel
theorem dX12_root_134 : decode cX12_root 134 = .ok (.ladd, 1) := by decide +kernel
theorem dX12_root_135 : decode cX12_root 135 = .ok (.lsub, 1) := by decide +kernel
theorem dX12_root_136 : decode cX12_root 136 = .ok (.lstore 9, 2) := by decide +kernel
theorem dX12_root_138 : decode cX12_root 138 = .ok (.lload 7, 2) := by decide +kernel
theorem dX12_root_140 : decode cX12_root 140 = .ok (.lconst 1, 1) := by decide +kernel
theorem dX12_root_141 : decode cX12_root 141 = .ok (.ladd, 1) := by decide +kernel
theorem dX12_root_142 : decode cX12_root 142 = .ok (.lstore 7, 2) := by decide +kernel
theorem dX12_root_144 : decode cX12_root 144 = .ok (.iinc 11 (-1), 3) := by decide +kernel
theorem dX12_root_147 : decode cX12_root 147 = .ok (.goto (-83), 3) := by decide +kernel
theorem dX12_root_150 : decode cX12_root 150 = .ok (.lload 7, 2) := by decide +kernel
theorem dX12_root_152 : decode cX12_root 152 = .ok (.lconst 1, 1) := by decide +kernel
theorem dX12_root_153 : decode cX12_root 153 = .ok (.ladd, 1) := by decide +kernel
theorem dX12_root_154 : decode cX12_root 154 = .ok (.iconst 1, 1) := by decide +kernel
theorem dX12_root_155 : decode cX12_root 155 = .ok (.lshr, 1) := by decide +kernel
theorem dX12_root_156 : decode cX12_root 156 = .ok (.l2d, 1) := by decide +kernel
theorem dX12_root_157 : decode cX12_root 157 = .ok (.iload 4, 2) := by decide +kernel
theorem dX12_root_159 : decode cX12_root 159 = .ok (.iconst 2, 1) := by decide +kernel
theorem dX12_root_160 : decode cX12_root 160 = .ok (.idiv, 1) := by decide +kernel
theorem dX12_root_161 : decode cX12_root 161 = .ok (.bipush 26, 2) := by decide +kernel
theorem dX12_root_163 : decode cX12_root 163 = .ok (.isub, 1) := by decide +kernel
theorem dX12_root_164 : decode cX12_root 164 = .ok (.sipush 1023, 3) := by decide +kernel
theorem dX12_root_167 : decode cX12_root 167 = .ok (.iadd, 1) := by decide +kernel
theorem dX12_root_168 : decode cX12_root 168 = .ok (.i2l, 1) := by decide +kernel
theorem dX12_root_169 : decode cX12_root 169 = .ok (.bipush 52, 2) := by decide +kernel
theorem dX12_root_171 : decode cX12_root 171 = .ok (.lshl, 1) := by decide +kernel
theorem dX12_root_172 : decode cX12_root 172 = .ok (.invokestatic 414, 3) := by decide +kernel
theorem dX12_root_175 : decode cX12_root 175 = .ok (.dmul, 1) := by decide +kernel
theorem dX12_root_176 : decode cX12_root 176 = .ok (.dreturn, 1) := by decide +kernel
set_option maxRecDepth 20000 in
theorem ggX12_marginOf_X12_root : GoodIn wsX12_marginOf wsX12_root := (goodIn_r _ [5, 6, 7, 8, 9, 10, 11, 12, 13, 14, 15, 16, 17, 18, 19, 20, 21, 22, 23, 24, 25] rfl (by decide +kernel))
set_option maxRecDepth 20000 in
theorem gX12_marginOf_X12_root : GoodIn wsX12_marginOf (va_wsS RX12 420 yX12_root wsX12_root) := goodIn_app (goodIn_m (mem_cA (List.mem_cons_of_mem _ (List.mem_append_left _ (List.mem_of_getElem? (i := 1) rfl))) (mem_cA (List.mem_cons_of_mem _ (List.mem_append_left _ (List.mem_of_getElem? (i := 2) rfl))) (mem_cA (List.mem_cons_of_mem _ (List.mem_append_left _ (List.mem_of_getElem? (i := 3) rfl))) mem_cZ))) (by decide +kernel)) ggX12_marginOf_X12_root
theorem dX12_marginOf_0 : decode cX12_marginOf 0 = .ok (.ldc2_w 418, 3) := by decide +kernel
theorem dX12_marginOf_3 : decode cX12_marginOf 3 = .ok (.dload_n 0, 1) := by decide +kernel
theorem dX12_marginOf_4 : decode cX12_marginOf 4 = .ok (.invokestatic 420, 3) := by decide +kernel
theorem dX12_marginOf_7 : decode cX12_marginOf 7 = .ok (.dmul, 1) := by decide +kernel
theorem dX12_marginOf_8 : decode cX12_marginOf 8 = .ok (.dreturn, 1) := by decide +kernel
set_option maxRecDepth 20000 in
theorem ggX12_lowerOf_X12_marginOf : GoodIn wsX12_lowerOf wsX12_marginOf := (goodIn_r _ [7, 8, 9, 10, 6, 11, 12, 13, 14, 15, 16, 17, 18, 19, 20, 21, 22, 23, 24, 25, 26, 27, 28, 29, 30, 31] rfl (by decide +kernel))
set_option maxRecDepth 20000 in
theorem gX12_lowerOf_X12_marginOf : GoodIn wsX12_lowerOf (va_wsS RX12 424 yX12_marginOf wsX12_marginOf) := goodIn_app (goodIn_m (mem_cA (List.mem_cons_of_mem _ (List.mem_append_left _ (List.mem_append_left _ (List.mem_append_left _ (List.mem_of_getElem? (i := 3) rfl))))) (mem_cA (List.mem_cons_of_mem _ (List.mem_append_left _ (List.mem_append_left _ (List.mem_append_left _ (List.mem_of_getElem? (i := 4) rfl))))) (mem_cA (List.mem_cons_of_mem _ (List.mem_append_left _ (List.mem_append_left _ (List.mem_append_left _ (List.mem_of_getElem? (i := 5) rfl))))) mem_cZ))) (by decide +kernel)) ggX12_lowerOf_X12_marginOf
theorem dX12_lowerOf_0 : decode cX12_lowerOf 0 = .ok (.aload_n 0, 1) := by decide +kernel
theorem dX12_lowerOf_1 : decode cX12_lowerOf 1 = .ok (.getfield 75, 3) := by decide +kernel
theorem dX12_lowerOf_4 : decode cX12_lowerOf 4 = .ok (.iconst 2, 1) := by decide +kernel
theorem dX12_lowerOf_5 : decode cX12_lowerOf 5 = .ok (.iload_n 1, 1) := by decide +kernel
theorem dX12_lowerOf_6 : decode cX12_lowerOf 6 = .ok (.imul, 1) := by decide +kernel
theorem dX12_lowerOf_7 : decode cX12_lowerOf 7 = .ok (.iload_n 2, 1) := by decide +kernel
theorem dX12_lowerOf_8 : decode cX12_lowerOf 8 = .ok (.iadd, 1) := by decide +kernel
theorem dX12_lowerOf_9 : decode cX12_lowerOf 9 = .ok (.laload, 1) := by decide +kernel
theorem dX12_lowerOf_10 : decode cX12_lowerOf 10 = .ok (.l2d, 1) := by decide +kernel
theorem dX12_lowerOf_11 : decode cX12_lowerOf 11 = .ok (.aload_n 0, 1) := by decide +kernel
theorem dX12_lowerOf_12 : decode cX12_lowerOf 12 = .ok (.getfield 78, 3) := by decide +kernel
theorem dX12_lowerOf_15 : decode cX12_lowerOf 15 = .ok (.iconst 2, 1) := by decide +kernel
theorem dX12_lowerOf_16 : decode cX12_lowerOf 16 = .ok (.iload_n 1, 1) := by decide +kernel
theorem dX12_lowerOf_17 : decode cX12_lowerOf 17 = .ok (.imul, 1) := by decide +kernel
theorem dX12_lowerOf_18 : decode cX12_lowerOf 18 = .ok (.iload_n 2, 1) := by decide +kernel
theorem dX12_lowerOf_19 : decode cX12_lowerOf 19 = .ok (.iadd, 1) := by decide +kernel
theorem dX12_lowerOf_20 : decode cX12_lowerOf 20 = .ok (.daload, 1) := by decide +kernel
theorem dX12_lowerOf_21 : decode cX12_lowerOf 21 = .ok (.invokestatic 424, 3) := by decide +kernel
theorem dX12_lowerOf_24 : decode cX12_lowerOf 24 = .ok (.dsub, 1) := by decide +kernel
theorem dX12_lowerOf_25 : decode cX12_lowerOf 25 = .ok (.dstore_n 3, 1) := by decide +kernel
theorem dX12_lowerOf_26 : decode cX12_lowerOf 26 = .ok (.aload_n 0, 1) := by decide +kernel
theorem dX12_lowerOf_27 : decode cX12_lowerOf 27 = .ok (.getfield 72, 3) := by decide +kernel
theorem dX12_lowerOf_30 : decode cX12_lowerOf 30 = .ok (.iconst 2, 1) := by decide +kernel
theorem dX12_lowerOf_31 : decode cX12_lowerOf 31 = .ok (.iload_n 1, 1) := by decide +kernel
theorem dX12_lowerOf_32 : decode cX12_lowerOf 32 = .ok (.imul, 1) := by decide +kernel
theorem dX12_lowerOf_33 : decode cX12_lowerOf 33 = .ok (.iload_n 2, 1) := by decide +kernel
theorem dX12_lowerOf_34 : decode cX12_lowerOf 34 = .ok (.iadd, 1) := by decide +kernel
theorem dX12_lowerOf_35 : decode cX12_lowerOf 35 = .ok (.laload, 1) := by decide +kernel
theorem dX12_lowerOf_36 : decode cX12_lowerOf 36 = .ok (.l2d, 1) := by decide +kernel
theorem dX12_lowerOf_37 : decode cX12_lowerOf 37 = .ok (.dstore 5, 2) := by decide +kernel
theorem dX12_lowerOf_39 : decode cX12_lowerOf 39 = .ok (.dload_n 3, 1) := by decide +kernel
theorem dX12_lowerOf_40 : decode cX12_lowerOf 40 = .ok (.dload 5, 2) := by decide +kernel
theorem dX12_lowerOf_42 : decode cX12_lowerOf 42 = .ok (.dcmp .l, 1) := by decide +kernel
theorem dX12_lowerOf_43 : decode cX12_lowerOf 43 = .ok (.ifCond .le 7, 3) := by decide +kernel
theorem dX12_lowerOf_46 : decode cX12_lowerOf 46 = .ok (.dload_n 3, 1) := by decide +kernel
theorem dX12_lowerOf_47 : decode cX12_lowerOf 47 = .ok (.goto 5, 3) := by decide +kernel
theorem dX12_lowerOf_50 : decode cX12_lowerOf 50 = .ok (.dload 5, 2) := by decide +kernel
theorem dX12_lowerOf_52 : decode cX12_lowerOf 52 = .ok (.dreturn, 1) := by decide +kernel
set_option maxRecDepth 20000 in
theorem ggX12_upperOf_X12_marginOf : GoodIn wsX12_upperOf wsX12_marginOf := (goodIn_r _ [6, 7, 8, 9, 5, 10, 11, 12, 13, 14, 15, 16, 17, 18, 19, 20, 21, 22, 23, 24, 25, 26, 27, 28, 29, 30] rfl (by decide +kernel))
set_option maxRecDepth 20000 in
theorem gX12_upperOf_X12_marginOf : GoodIn wsX12_upperOf (va_wsS RX12 424 yX12_marginOf wsX12_marginOf) := goodIn_app (goodIn_m (mem_cA (List.mem_cons_of_mem _ (List.mem_append_left _ (List.mem_append_left _ (List.mem_append_left _ (List.mem_of_getElem? (i := 2) rfl))))) (mem_cA (List.mem_cons_of_mem _ (List.mem_append_left _ (List.mem_append_left _ (List.mem_append_left _ (List.mem_of_getElem? (i := 3) rfl))))) (mem_cA (List.mem_cons_of_mem _ (List.mem_append_left _ (List.mem_append_left _ (List.mem_append_left _ (List.mem_of_getElem? (i := 4) rfl))))) mem_cZ))) (by decide +kernel)) ggX12_upperOf_X12_marginOf
theorem dX12_upperOf_0 : decode cX12_upperOf 0 = .ok (.aload_n 0, 1) := by decide +kernel
theorem dX12_upperOf_1 : decode cX12_upperOf 1 = .ok (.getfield 75, 3) := by decide +kernel
theorem dX12_upperOf_4 : decode cX12_upperOf 4 = .ok (.iconst 2, 1) := by decide +kernel
theorem dX12_upperOf_5 : decode cX12_upperOf 5 = .ok (.iload_n 1, 1) := by decide +kernel
theorem dX12_upperOf_6 : decode cX12_upperOf 6 = .ok (.imul, 1) := by decide +kernel
theorem dX12_upperOf_7 : decode cX12_upperOf 7 = .ok (.iload_n 2, 1) := by decide +kernel
theorem dX12_upperOf_8 : decode cX12_upperOf 8 = .ok (.iadd, 1) := by decide +kernel
theorem dX12_upperOf_9 : decode cX12_upperOf 9 = .ok (.laload, 1) := by decide +kernel
theorem dX12_upperOf_10 : decode cX12_upperOf 10 = .ok (.l2d, 1) := by decide +kernel
theorem dX12_upperOf_11 : decode cX12_upperOf 11 = .ok (.aload_n 0, 1) := by decide +kernel
theorem dX12_upperOf_12 : decode cX12_upperOf 12 = .ok (.getfield 78, 3) := by decide +kernel
theorem dX12_upperOf_15 : decode cX12_upperOf 15 = .ok (.iconst 2, 1) := by decide +kernel
theorem dX12_upperOf_16 : decode cX12_upperOf 16 = .ok (.iload_n 1, 1) := by decide +kernel
theorem dX12_upperOf_17 : decode cX12_upperOf 17 = .ok (.imul, 1) := by decide +kernel
theorem dX12_upperOf_18 : decode cX12_upperOf 18 = .ok (.iload_n 2, 1) := by decide +kernel
theorem dX12_upperOf_19 : decode cX12_upperOf 19 = .ok (.iadd, 1) := by decide +kernel
theorem dX12_upperOf_20 : decode cX12_upperOf 20 = .ok (.daload, 1) := by decide +kernel
theorem dX12_upperOf_21 : decode cX12_upperOf 21 = .ok (.invokestatic 424, 3) := by decide +kernel
theorem dX12_upperOf_24 : decode cX12_upperOf 24 = .ok (.dadd, 1) := by decide +kernel
theorem dX12_upperOf_25 : decode cX12_upperOf 25 = .ok (.dreturn, 1) := by decide +kernel
theorem dJxe99ae_isNaN_b9ae7_0 : decode cJxe99ae_isNaN_b9ae7 0 = .ok (.dload_n 0, 1) := by decide +kernel
theorem dJxe99ae_isNaN_b9ae7_1 : decode cJxe99ae_isNaN_b9ae7 1 = .ok (.dload_n 0, 1) := by decide +kernel
theorem dJxe99ae_isNaN_b9ae7_2 : decode cJxe99ae_isNaN_b9ae7 2 = .ok (.dcmp .l, 1) := by decide +kernel
theorem dJxe99ae_isNaN_b9ae7_3 : decode cJxe99ae_isNaN_b9ae7 3 = .ok (.ifCond .eq 7, 3) := by decide +kernel
theorem dJxe99ae_isNaN_b9ae7_10 : decode cJxe99ae_isNaN_b9ae7 10 = .ok (.iconst 0, 1) := by decide +kernel
theorem dJxe99ae_isNaN_b9ae7_11 : decode cJxe99ae_isNaN_b9ae7 11 = .ok (.ireturn, 1) := by decide +kernel
set_option maxRecDepth 20000 in
theorem ggJxe99ae_doubleToLongBits_ccdee_Jxe99ae_isNaN_b9ae7 : GoodIn wsJxe99ae_doubleToLongBits_ccdee wsJxe99ae_isNaN_b9ae7 := (goodIn_r _ [9] rfl (by decide +kernel))
set_option maxRecDepth 20000 in
theorem gJxe99ae_doubleToLongBits_ccdee_Jxe99ae_isNaN_b9ae7 : GoodIn wsJxe99ae_doubleToLongBits_ccdee (va_wsS RJxe99ae 122 yJxe99ae_isNaN_b9ae7 wsJxe99ae_isNaN_b9ae7) := goodIn_app (goodIn_m (mem_cA (List.mem_cons_of_mem _ (List.mem_of_getElem? (i := 5) rfl)) (mem_cA (List.mem_cons_of_mem _ (List.mem_of_getElem? (i := 6) rfl)) (mem_cA (List.mem_cons_of_mem _ (List.mem_of_getElem? (i := 7) rfl)) mem_cZ))) (by decide +kernel)) ggJxe99ae_doubleToLongBits_ccdee_Jxe99ae_isNaN_b9ae7
theorem dJxe99ae_doubleToLongBits_ccdee_0 : decode cJxe99ae_doubleToLongBits_ccdee 0 = .ok (.dload_n 0, 1) := by decide +kernel
theorem dJxe99ae_doubleToLongBits_ccdee_1 : decode cJxe99ae_doubleToLongBits_ccdee 1 = .ok (.invokestatic 122, 3) := by decide +kernel
theorem dJxe99ae_doubleToLongBits_ccdee_4 : decode cJxe99ae_doubleToLongBits_ccdee 4 = .ok (.ifCond .ne 8, 3) := by decide +kernel
theorem dJxe99ae_doubleToLongBits_ccdee_7 : decode cJxe99ae_doubleToLongBits_ccdee 7 = .ok (.dload_n 0, 1) := by decide +kernel
theorem dJxe99ae_doubleToLongBits_ccdee_8 : decode cJxe99ae_doubleToLongBits_ccdee 8 = .ok (.invokestatic 134, 3) := by decide +kernel
theorem dJxe99ae_doubleToLongBits_ccdee_11 : decode cJxe99ae_doubleToLongBits_ccdee 11 = .ok (.lreturn, 1) := by decide +kernel
theorem zval_nn {d : Jvm.FP.Core.Datum} (h : pD d) : 0 ≤ Jvm.FP.Core.zval Jvm.FP.Core.b64 d := by
  cases d with
  | nan => exact h.elim
  | inf s =>
    have hs : s = false := h
    subst hs
    exact Int.natCast_nonneg _
  | fin s c q =>
    rcases h with hs | hs
    · subst hs
      exact Int.natCast_nonneg _
    · subst hs
      show 0 ≤ Jvm.FP.Core.signed s (Jvm.FP.Core.inUnits 0 q _)
      unfold Jvm.FP.Core.inUnits Jvm.FP.Core.signed
      rw [Nat.zero_mul]
      cases s <;> decide
theorem root_k {a : UInt64} (h : pd64 a) (h0 : ¬ Op.cmpValue (FP.dcmp a FP.dconst0) .l = 0) : a.toNat < 2 ^ 63 := by
  have hn : Jvm.FP.Core.val64 a ≠ .nan := pd_nn h
  have hz : Jvm.FP.Core.val64 FP.dconst0 ≠ .nan := by decide +kernel
  have hk := Jvm.FP.Core.dcmp_key hn hz
  have hd0 : Jvm.FP.Core.dkey FP.dconst0 = 0 := by decide +kernel
  rw [hd0] at hk
  refine Nat.lt_of_not_le (fun hc => ?_)
  have hd : Jvm.FP.Core.dkey a = ((2 ^ 63 : Nat) : Int) - (a.toNat : Int) := by
    unfold Jvm.FP.Core.dkey
    rw [if_pos hc]
  by_cases he : Jvm.FP.Core.dkey a = 0
  · apply h0
    show Op.cmpValue (Jvm.FP.Core.dcmp a FP.dconst0) .l = 0
    rw [hk, he]
    rfl
  · have hlt : Jvm.FP.Core.dkey a < 0 := by omega
    have h1 : Jvm.FP.Core.dcmp a FP.dconst0 = some .lt := by
      rw [hk, Int.compare_eq_lt.mpr hlt]
    have h2 := (Jvm.FP.Core.dcmp_lt.mp h1).2.2
    have h3 := zval_nn h
    have h4 : Jvm.FP.Core.zval Jvm.FP.Core.b64 (Jvm.FP.Core.val64 FP.dconst0) = 0 := by decide +kernel
    omega
noncomputable def isW : Jvm.FP.Core.Datum → Bool
  | .fin _ c _ => c != 0
  | _ => false
theorem isW_w {d : Jvm.FP.Core.Datum} (h : isW d = true) : wD d := by
  cases d with
  | nan => cases h
  | inf s => cases h
  | fin s c q =>
    show c ≠ 0
    simpa [isW] using h
/-- the double by whose power of two a root is scaled, out of the exponent of its square -/
noncomputable def rtq (e : Int32) : Int64 := ((e / 2 - 26 + 1023).toInt64) <<< ((52 : Int32).toInt64 &&& 63)
noncomputable def rtok (k : Nat) : Bool := if (nI k - 1075) &&& 1 = 1 then vn_snl2d (rtq (nI k - 1075 + (-1))) == false && isW (Jvm.FP.Core.val64 (rtq (nI k - 1075 + (-1))).toUInt64) else vn_snl2d (rtq (nI k - 1075)) == false && isW (Jvm.FP.Core.val64 (rtq (nI k - 1075)).toUInt64)
theorem rtok_all : ∀ k, k < 2048 → rtok k = true := by decide +kernel
theorem rt_odd {k : Nat} (hk : k < 2048) (h : (nI k - 1075) &&& 1 = 1) : vn_snl2d (rtq (nI k - 1075 + (-1))) = false ∧ wD (Jvm.FP.Core.val64 (rtq (nI k - 1075 + (-1))).toUInt64) := by
  have h1 := rtok_all k hk
  unfold rtok at h1
  rw [if_pos h, Bool.and_eq_true] at h1
  exact ⟨by simpa using h1.1, isW_w h1.2⟩
theorem rt_even {k : Nat} (hk : k < 2048) (h : ¬ (nI k - 1075) &&& 1 = 1) : vn_snl2d (rtq (nI k - 1075)) = false ∧ wD (Jvm.FP.Core.val64 (rtq (nI k - 1075)).toUInt64) := by
  have h1 := rtok_all k hk
  unfold rtok at h1
  rw [if_neg h, Bool.and_eq_true] at h1
  exact ⟨by simpa using h1.1, isW_w h1.2⟩
theorem root_e {a : UInt64} (h : a.toNat < 2 ^ 63) : ∃ k : Nat, k < 2048 ∧ (a.toInt64 >>> ((52 : Int32).toInt64 &&& 63)).toInt32 = nI k := by
  have e52 : ((52 : Int32).toInt64 &&& 63) = 52 := by decide
  rw [e52]
  have ha : a.toInt64.toInt = (a.toNat : Int) := by
    show (a.toBitVec).toInt = _
    rw [BitVec.toInt_eq_toNat_of_lt (show 2 * a.toBitVec.toNat < 2 ^ 64 by have : a.toBitVec.toNat = a.toNat := rfl; omega)]
    rfl
  have h1 : (a.toInt64 >>> (52 : Int64)).toInt = ((a.toNat / 2 ^ 52 : Nat) : Int) := by
    show (a.toInt64 >>> (52 : Int64)).toBitVec.toInt = _
    rw [Int64.toBitVec_shiftRight]
    have h52 : ((52 : Int64).toBitVec.smod 64) = 52#64 := by decide
    rw [h52]
    show (BitVec.sshiftRight a.toInt64.toBitVec 52).toInt = _
    rw [BitVec.toInt_sshiftRight]
    show a.toInt64.toInt >>> (52 : Nat) = _
    rw [ha, Int.shiftRight_eq_div_pow]
    first | rfl | norm_cast | omega
  have hk : a.toNat / 2 ^ 52 < 2048 := by omega
  refine ⟨a.toNat / 2 ^ 52, hk, ?_⟩
  have h2 : a.toInt64 >>> (52 : Int64) = Int64.ofNat (a.toNat / 2 ^ 52) := by
    apply Int64.toInt_inj.mp
    rw [h1, Int64.toInt_ofNat_of_lt (by omega)]
  rw [h2, ofL (by omega)]
theorem cmp_self {q : UInt64} (h : nn64 q) : Op.cmpValue (FP.dcmp q q) .l = 0 := by
  show Op.cmpValue (Jvm.FP.Core.dcmp q q) .l = 0
  rw [Jvm.FP.Core.dcmp_self h]
  rfl
theorem c_J_isNaNd (G : EnvG) (l : Launch) (Φ : Hm) (sz : Nat) (q : UInt64) (h1 : nn64 q) (P : Option Value → Hm → Nat → Prop) (hP : P (some (.int 0)) Φ sz) : Ct G l yJxe99ae_isNaN_b9ae7 wsJxe99ae_isNaN_b9ae7 ({ frames := 0, cells := 0, slots := 0, locals := 0 }) 0 0 [.double q] Φ sz P := by
  refine Ct.ofF (cc := cJxe99ae_isNaN_b9ae7) (maxL := 2) (ret := (some .boolean)) (by decide +kernel) rfl (Nat.le_of_ble_eq_true rfl) ?_
  intro p9 e9 s9 m9 w9 t9 k9 B
  show Z p9 l e9 _ s9 m9 _ w9 t9 k9 _ G 2 0 [(0, .double q)] [] Φ (sz) 0 0
  refine z_dload_n B dJxe99ae_isNaN_b9ae7_0 rfl 0 rfl ?_
  refine z_dload_n B dJxe99ae_isNaN_b9ae7_1 rfl 0 rfl ?_
  refine z_dcmp B dJxe99ae_isNaN_b9ae7_2 ?_
  refine z_if_eq (tgt := 10) B dJxe99ae_isNaN_b9ae7_3 rfl (fun c_1 => ?_) (fun h9 => absurd (cmp_self h1) h9)
  refine z_iconst (v := 0) B dJxe99ae_isNaN_b9ae7_10 rfl ?_
  exact z_ret_z B dJxe99ae_isNaN_b9ae7_11 (by decide) hP
theorem c_J_d2l (G : EnvG) (l : Launch) (Φ : Hm) (sz : Nat) (q : UInt64) (h1 : nn64 q) (P : Option Value → Hm → Nat → Prop) (hP : P (some (.long q.toInt64)) Φ sz) : Ct G l yJxe99ae_doubleToLongBits_ccdee wsJxe99ae_doubleToLongBits_ccdee ({ frames := 1, cells := 0, slots := 0, locals := 21 }) 0 0 [.double q] Φ sz P := by
  refine Ct.ofF (cc := cJxe99ae_doubleToLongBits_ccdee) (maxL := 2) (ret := (some .long)) (by decide +kernel) rfl (Nat.le_of_ble_eq_true rfl) ?_
  intro p9 e9 s9 m9 w9 t9 k9 B
  show Z p9 l e9 _ s9 m9 _ w9 t9 k9 _ G 2 0 [(0, .double q)] [] Φ (sz) 0 0
  refine z_dload_n B dJxe99ae_doubleToLongBits_ccdee_0 rfl 0 rfl ?_
  refine z_callS (As := [.double q]) (rest := []) B (c_J_isNaNd G l Φ sz q h1 (fun v Φ1 sz1 => v = some (.int 0) ∧ Φ1 = Φ ∧ sz1 = sz) ⟨rfl, rfl, rfl⟩) (va_cwS 1 B.1.2.2.2.2 gJxe99ae_doubleToLongBits_ccdee_Jxe99ae_isNaN_b9ae7 rfl rfl rfl (by decide +kernel) ⟨Nat.le_of_ble_eq_true rfl, Nat.le_of_ble_eq_true rfl⟩) rfl rfl (Nat.le_of_ble_eq_true rfl) dJxe99ae_doubleToLongBits_ccdee_1 ⟨Nat.le_of_ble_eq_true rfl, Nat.le_of_ble_eq_true rfl⟩ (fun v1 Φ1 sz1 st1 hp1 hs1 => ?_)
  obtain ⟨h4, h2, h3⟩ := hp1
  subst h4
  subst h2
  subst h3
  subst hs1
  refine z_if_ne (tgt := 12) B dJxe99ae_doubleToLongBits_ccdee_4 rfl (fun h9 => absurd rfl h9) (fun c_1 => ?_)
  refine z_dload_n B dJxe99ae_doubleToLongBits_ccdee_7 rfl 0 rfl ?_
  refine z_dbits B (by decide +kernel) (by decide +kernel) (by decide +kernel) (by decide +kernel) ⟨Nat.le_of_ble_eq_true rfl, Nat.le_of_ble_eq_true rfl⟩ dJxe99ae_doubleToLongBits_ccdee_8 ?_
  exact z_ret_l B dJxe99ae_doubleToLongBits_ccdee_11 hP
theorem down28 {i : Int32} (h : ¬ i < (-27)) : ((i + (-1)).toInt + 28).toNat < (i.toInt + 28).toNat := by
  have h0 := Int32.le_toInt i
  have h1 := Int32.toInt_lt i
  rw [Int32.lt_iff_toInt_lt] at h
  have h2 : (-27 : Int32).toInt = -27 := by decide
  rw [h2] at h
  have h3 : (i + (-1)).toInt = i.toInt - 1 := by
    rw [Int32.toInt_add]
    have h4 : (-1 : Int32).toInt = -1 := by decide
    rw [h4, Int.bmod_eq_of_le (by omega) (by omega)]
    omega
  omega

set_option maxHeartbeats 4000000 in
set_option maxRecDepth 100000 in
theorem r_root (G : EnvG) (l : Launch) (Φ : Hm) (sz x : Nat) (rd : (Nat → Int32) → Prop) (nw : (Nat → Int32) → Prop) (cr : (Nat → Int64) → Prop) (tp : (Nat → Int32) → Prop) (tt : (Nat → Int64) → Prop) (sI : (Nat → Int32) → Prop) (sT : (Nat → Int32) → Prop) (pt : (Nat → Int32) → Prop) (ql : (Nat → Int32) → Prop) (fl : Nat) (pe : Nat) (le : Nat) (nx : Nat) (il : Nat) (qu : Nat) (kn : Int32) (ec : Int32) (nu : Int32) (va : Int64) (st : Nat) (ep : Int32) (ti : Int32) (ad : Int32) (ob : Int64) (ra : Int32) (rt : Nat) (ex : Int32) (sa : Int64) (us : Int64) (tk : Nat) (th : Int32) (me : Int32) (dr : Int32) (se : Int64) (sn : Int64) (a : UInt64) (hx : G.2.2.2 ≤ x) (hI : Im G x (rd, nw, cr, tp, tt, sI, sT, pt, ql, fl, pe, le, nx, il, qu, kn, ec, nu, va, st, ep, ti, ad, ob, ra, rt, ex, sa, us, tk, th, me, dr, se, sn) Φ) (ha : pd64 a) (hnw : ∀ f9 : Nat → Int32, nw f9 → NN f9) : Ct G l yX12_root wsX12_root ({ frames := 2, cells := 0, slots := 0, locals := 42 }) 0 0 [.double a] Φ sz (fun v Φ1 sz1 => (∃ r9 : UInt64, v = some (.double r9) ∧ nn64 r9) ∧ sz1 = sz ∧ (Im G x (rd, nw, cr, tp, tt, sI, sT, pt, ql, fl, pe, le, nx, il, qu, kn, ec, nu, va, st, ep, ti, ad, ob, ra, rt, ex, sa, us, tk, th, me, dr, se, sn) Φ1) ∧ Fr x (fun j9 => False) Φ Φ1) := by
  refine Ct.of (cc := cX12_root) (maxL := 12) (ret := (some .double)) (by decide) rfl (Nat.le_of_ble_eq_true rfl) ?_
  intro p9 e9 s9 m9 w9 t9 k9 B
  show Z p9 l e9 _ s9 m9 _ w9 t9 k9 _ G 12 0 [(0, .double a)] [] Φ sz 0 0
  refine z_dload_n B dX12_root_0 rfl 0 rfl ?_
  refine z_dconst0 B dX12_root_1 ?_
  refine z_dcmp B dX12_root_2 ?_
  refine z_if_ne (tgt := 8) B dX12_root_3 rfl (fun c_1 => ?_) (fun c_1 => ?_)
  · refine z_dload_n B dX12_root_8 rfl 0 rfl ?_
    refine z_callS (As := [.double a]) (rest := []) B (c_J_d2l G l Φ sz a (pd_nn ha) (fun v8 Φ8 sz8 => v8 = some (.long (a).toInt64) ∧ sz8 = sz ∧ Im G x (rd, nw, cr, tp, tt, sI, sT, pt, ql, fl, pe, le, nx, il, qu, kn, ec, nu, va, st, ep, ti, ad, ob, ra, rt, ex, sa, us, tk, th, me, dr, se, sn) Φ8 ∧ Fr x (fun j9 => False) Φ Φ8) ⟨rfl, rfl, hI, fun _ _ => rfl⟩) (va_cwS 1 B.1.2.2.2.2 gX12_root_Jxe99ae_doubleToLongBits_ccdee rfl rfl rfl (by decide +kernel) ⟨Nat.le_of_ble_eq_true rfl, Nat.le_of_ble_eq_true rfl⟩) rfl rfl (Nat.le_of_ble_eq_true rfl) dX12_root_9 ⟨Nat.le_of_ble_eq_true rfl, Nat.le_of_ble_eq_true rfl⟩ (fun r_1 Φ1 sz1 st1 hp1 hs1 => ?_)
    obtain ⟨rfl, hq1, hI1, hF1⟩ := hp1
    subst sz1
    replace hs1 : st1 = [.long a.toInt64] := hs1
    subst st1
    refine z_lstore_n (lv' := [(2, .long a.toInt64), (0, .double a)]) B dX12_root_12 rfl (Nat.le_of_ble_eq_true rfl) rfl ?_
    refine z_lload_n B dX12_root_13 rfl 0 rfl ?_
    refine z_bipush (v := 52) B dX12_root_14 rfl ?_
    refine z_lshr (v := a.toInt64 >>> ((52 : Int32).toInt64 &&& 63)) B dX12_root_16 rfl ?_
    refine z_l2i (v := (a.toInt64 >>> ((52 : Int32).toInt64 &&& 63)).toInt32) B dX12_root_17 rfl ?_
    obtain ⟨n_1, b_1, e_1⟩ := root_e (root_k ha c_1)
    refine z_top (st1 := [.int (nI n_1)]) (congrArg (fun w9 : Int32 => ([.int w9] : List Value)) (e_1)) ?_
    refine z_sipush (v := 1075) B dX12_root_18 rfl ?_
    refine z_isub B dX12_root_21 ?_
    refine z_istore (lv' := [(4, .int ((nI n_1) - 1075)), (2, .long a.toInt64), (0, .double a)]) B dX12_root_22 (Nat.le_of_ble_eq_true rfl) rfl ?_
    refine z_lload_n B dX12_root_24 rfl 1 rfl ?_
    refine z_ldc2 (v := 4503599627370495) B (by decide +kernel) dX12_root_25 ?_
    refine z_land B dX12_root_28 ?_
    refine z_fl (fun v_1 => ?_)
    refine z_ldc2 (v := 4503599627370496) B (by decide +kernel) dX12_root_29 ?_
    refine z_lor B dX12_root_32 ?_
    refine z_fl (fun v_2 => ?_)
    refine z_lstore (lv' := [(5, .long v_2), (4, .int ((nI n_1) - 1075)), (2, .long a.toInt64), (0, .double a)]) B dX12_root_33 (Nat.le_of_ble_eq_true rfl) rfl ?_
    refine z_iload B dX12_root_35 1 rfl ?_
    refine z_iconst (v := 1) B dX12_root_37 rfl ?_
    refine z_iand B dX12_root_38 ?_
    refine z_iconst (v := 1) B dX12_root_39 rfl ?_
    refine z_icmp_ne (tgt := 54) B dX12_root_40 rfl (fun c_2 => ?_) (fun c_2 => ?_)
    · have q_1 := rt_even b_1 c_2
      refine z_lconst (v := 0) B dX12_root_54 rfl ?_
      refine z_lstore (lv' := [(7, .long 0), (5, .long v_2), (4, .int ((nI n_1) - 1075)), (2, .long a.toInt64), (0, .double a)]) B dX12_root_55 (Nat.le_of_ble_eq_true rfl) rfl ?_
      refine z_lconst (v := 0) B dX12_root_57 rfl ?_
      refine z_lstore (lv' := [(9, .long 0), (7, .long 0), (5, .long v_2), (4, .int ((nI n_1) - 1075)), (2, .long a.toInt64), (0, .double a)]) B dX12_root_58 (Nat.le_of_ble_eq_true rfl) rfl ?_
      refine z_bipush (v := 26) B dX12_root_60 rfl ?_
      refine z_istore (lv' := [(11, .int 26), (9, .long 0), (7, .long 0), (5, .long v_2), (4, .int ((nI n_1) - 1075)), (2, .long a.toInt64), (0, .double a)]) B dX12_root_62 (Nat.le_of_ble_eq_true rfl) rfl ?_
      refine z_lv [0, 1, 2, 3, 4, 5, 6] rfl ?_
      refine z_loop (α := Int32 × Int64 × Int64) (fun (a9 : Int32 × Int64 × Int64) Φi => Im G x (rd, nw, cr, tp, tt, sI, sT, pt, ql, fl, pe, le, nx, il, qu, kn, ec, nu, va, st, ep, ti, ad, ob, ra, rt, ex, sa, us, tk, th, me, dr, se, sn) Φi ∧ Fr x (fun j9 => False) Φ1 Φi ∧ True) (fun a9 => [(11, .int a9.1), (9, .long a9.2.1), (7, .long a9.2.2), (5, .long v_2), (4, .int ((nI n_1) - 1075)), (2, .long a.toInt64), (0, .double a)]) (fun a9 => ((a9.1).toInt + 28).toNat) ?_ (26, 0, 0) ⟨hI1, fun _ _ => rfl, trivial⟩
      rintro ⟨i_1, i_2, i_3⟩ Φl1 ⟨hI2, hF2, -⟩ ih1
      replace hI2 : Im G x (rd, nw, cr, tp, tt, sI, sT, pt, ql, fl, pe, le, nx, il, qu, kn, ec, nu, va, st, ep, ti, ad, ob, ra, rt, ex, sa, us, tk, th, me, dr, se, sn) Φl1 := hI2
      show Z p9 l e9 _ s9 m9 _ w9 t9 k9 _ G 12 64 [(11, .int i_1), (9, .long i_2), (7, .long i_3), (5, .long v_2), (4, .int ((nI n_1) - 1075)), (2, .long a.toInt64), (0, .double a)] [] Φl1 _ _ _
      refine z_iload B dX12_root_64 0 rfl ?_
      refine z_bipush (v := (-27)) B dX12_root_66 rfl ?_
      refine z_icmp_lt (tgt := 150) B dX12_root_68 rfl (fun c_3 => ?_) (fun c_3 => ?_)
      · refine z_lload B dX12_root_150 2 rfl ?_
        refine z_lconst (v := 1) B dX12_root_152 rfl ?_
        refine z_ladd B dX12_root_153 ?_
        refine z_fl (fun v_3 => ?_)
        refine z_iconst (v := 1) B dX12_root_154 rfl ?_
        refine z_lshr (v := v_3 >>> ((1 : Int32).toInt64 &&& 63)) B dX12_root_155 rfl ?_
        refine z_fl (fun v_4 => ?_)
        refine z_l2d B dX12_root_156 ?_
        refine z_fdq (P := fun u9 : UInt64 => sm64 12 u9) (l2d_sm v_4) (fun v_5 q_3 => ?_)
        replace q_3 : sm64 12 v_5 := q_3
        refine z_iload B dX12_root_157 4 rfl ?_
        refine z_iconst (v := 2) B dX12_root_159 rfl ?_
        refine z_idiv B dX12_root_160 (by decide) ?_
        refine z_bipush (v := 26) B dX12_root_161 rfl ?_
        refine z_isub B dX12_root_163 ?_
        refine z_sipush (v := 1023) B dX12_root_164 rfl ?_
        refine z_iadd B dX12_root_167 ?_
        refine z_i2l (v := (((((nI n_1) - 1075) / 2) - 26) + 1023).toInt64) B dX12_root_168 rfl ?_
        refine z_bipush (v := 52) B dX12_root_169 rfl ?_
        refine z_lshl (v := ((((((nI n_1) - 1075) / 2) - 26) + 1023).toInt64) <<< ((52 : Int32).toInt64 &&& 63)) B dX12_root_171 rfl ?_
        refine z_bitsd B (show vn_snl2d (((((((nI n_1) - 1075) / 2) - 26) + 1023).toInt64) <<< ((52 : Int32).toInt64 &&& 63)) = false from q_1.1) (by decide +kernel) (by decide +kernel) (by decide +kernel) (by decide +kernel) ⟨Nat.le_of_ble_eq_true rfl, Nat.le_of_ble_eq_true rfl⟩ dX12_root_172 ?_
        refine z_fdq (P := fun u9 : UInt64 => wD (Jvm.FP.Core.val64 u9)) (show wD (Jvm.FP.Core.val64 ((((((((nI n_1) - 1075) / 2) - 26) + 1023).toInt64) <<< ((52 : Int32).toInt64 &&& 63)).toUInt64)) from q_1.2) (fun v_6 q_4 => ?_)
        replace q_4 : wD (Jvm.FP.Core.val64 v_6) := q_4
        have q_6 : nn64 (FP.dmul v_5 v_6) := (mul_nnw (sm_nn q_3) q_4)
        refine z_dmul B dX12_root_175 (vf_of q_6) ?_
        refine z_fdq (P := fun u9 : UInt64 => nn64 u9) q_6 (fun v_7 q_8 => ?_)
        replace q_8 : nn64 v_7 := q_8
        exact z_ret_d B dX12_root_176 ⟨⟨_, rfl, q_8⟩, rfl, hI2, (fun b9 h9 => ((hF2 b9 (fun j9 h8 h7 => (show False from h7).elim)).trans ((hF1 b9 (fun j9 h8 h7 => (show False from h7).elim)).trans rfl)))⟩
      · refine z_ldc2 (v := 4) B (by decide +kernel) dX12_root_71 ?_
        refine z_lload B dX12_root_74 1 rfl ?_
        refine z_lmul B dX12_root_76 ?_
        refine z_fl (fun v_8 => ?_)
        refine z_iload B dX12_root_77 0 rfl ?_
        refine z_if_ge (tgt := 86) B dX12_root_79 rfl (fun c_4 => ?_) (fun c_4 => ?_)
        · refine z_lload B dX12_root_86 3 rfl ?_
          refine z_iconst (v := 2) B dX12_root_88 rfl ?_
          refine z_iload B dX12_root_89 0 rfl ?_
          refine z_imul B dX12_root_91 ?_
          refine z_fi (fun v_9 => ?_)
          refine z_lshr (v := v_2 >>> ((v_9 : Int32).toInt64 &&& 63)) B dX12_root_92 rfl ?_
          refine z_fl (fun v_10 => ?_)
          refine z_ldc2 (v := 3) B (by decide +kernel) dX12_root_93 ?_
          refine z_land B dX12_root_96 ?_
          refine z_fl (fun v_11 => ?_)
          refine z_ladd B dX12_root_97 ?_
          refine z_fl (fun v_12 => ?_)
          refine z_lstore (lv' := [(9, .long v_12), (11, .int i_1), (7, .long i_3), (5, .long v_2), (4, .int ((nI n_1) - 1075)), (2, .long a.toInt64), (0, .double a)]) B dX12_root_98 (Nat.le_of_ble_eq_true rfl) rfl ?_
          refine z_lload B dX12_root_100 2 rfl ?_
          refine z_ldc2 (v := 2) B (by decide +kernel) dX12_root_102 ?_
          refine z_lmul B dX12_root_105 ?_
          refine z_fl (fun v_13 => ?_)
          refine z_lstore (lv' := [(7, .long v_13), (9, .long v_12), (11, .int i_1), (5, .long v_2), (4, .int ((nI n_1) - 1075)), (2, .long a.toInt64), (0, .double a)]) B dX12_root_106 (Nat.le_of_ble_eq_true rfl) rfl ?_
          refine z_lload B dX12_root_108 1 rfl ?_
          refine z_ldc2 (v := 2) B (by decide +kernel) dX12_root_110 ?_
          refine z_lload B dX12_root_113 0 rfl ?_
          refine z_lmul B dX12_root_115 ?_
          refine z_fl (fun v_14 => ?_)
          refine z_lconst (v := 1) B dX12_root_116 rfl ?_
          refine z_ladd B dX12_root_117 ?_
          refine z_fl (fun v_15 => ?_)
          refine z_lcmp B dX12_root_118 ?_
          refine z_fi (fun v_16 => ?_)
          refine z_if_ge (tgt := 125) B dX12_root_119 rfl (fun c_5 => ?_) (fun c_5 => ?_)
          · obtain ⟨n_2, e_2, rfl⟩ := nI_of (Int32.not_lt.mpr c_5)
            refine z_lload B dX12_root_125 1 rfl ?_
            refine z_ldc2 (v := 2) B (by decide +kernel) dX12_root_127 ?_
            refine z_lload B dX12_root_130 0 rfl ?_
            refine z_lmul B dX12_root_132 ?_
            refine z_fl (fun v_17 => ?_)
            refine z_lconst (v := 1) B dX12_root_133 rfl ?_
            refine z_ladd B dX12_root_134 ?_
            refine z_fl (fun v_18 => ?_)
            refine z_lsub B dX12_root_135 ?_
            refine z_fl (fun v_19 => ?_)
            refine z_lstore (lv' := [(9, .long v_19), (7, .long v_13), (11, .int i_1), (5, .long v_2), (4, .int ((nI n_1) - 1075)), (2, .long a.toInt64), (0, .double a)]) B dX12_root_136 (Nat.le_of_ble_eq_true rfl) rfl ?_
            refine z_lload B dX12_root_138 1 rfl ?_
            refine z_lconst (v := 1) B dX12_root_140 rfl ?_
            refine z_ladd B dX12_root_141 ?_
            refine z_fl (fun v_20 => ?_)
            refine z_lstore (lv' := [(7, .long v_20), (9, .long v_19), (11, .int i_1), (5, .long v_2), (4, .int ((nI n_1) - 1075)), (2, .long a.toInt64), (0, .double a)]) B dX12_root_142 (Nat.le_of_ble_eq_true rfl) rfl ?_
            refine z_iinc (k := 2) (v := i_1 + (-1)) (lv' := [(11, .int (i_1 + (-1))), (7, .long v_20), (9, .long v_19), (5, .long v_2), (4, .int ((nI n_1) - 1075)), (2, .long a.toInt64), (0, .double a)]) B dX12_root_144 rfl rfl (Nat.le_of_ble_eq_true rfl) rfl ?_
            refine z_goto (tgt := 64) B dX12_root_147 rfl ?_
            refine z_lv [0, 2, 1, 3, 4, 5, 6] rfl ?_
            exact ih1 (i_1 + (-1), v_19, v_20) Φl1 (down28 c_3) ⟨hI2, (fun b9 h9 => ((hF2 b9 (fun j9 h8 h7 => (show False from h7).elim)).trans rfl)), trivial⟩
          · refine z_goto (tgt := 144) B dX12_root_122 rfl ?_
            refine z_iinc (k := 2) (v := i_1 + (-1)) (lv' := [(11, .int (i_1 + (-1))), (7, .long v_13), (9, .long v_12), (5, .long v_2), (4, .int ((nI n_1) - 1075)), (2, .long a.toInt64), (0, .double a)]) B dX12_root_144 rfl rfl (Nat.le_of_ble_eq_true rfl) rfl ?_
            refine z_goto (tgt := 64) B dX12_root_147 rfl ?_
            refine z_lv [0, 2, 1, 3, 4, 5, 6] rfl ?_
            exact ih1 (i_1 + (-1), v_12, v_13) Φl1 (down28 c_3) ⟨hI2, (fun b9 h9 => ((hF2 b9 (fun j9 h8 h7 => (show False from h7).elim)).trans rfl)), trivial⟩
        · refine z_lconst (v := 0) B dX12_root_82 rfl ?_
          refine z_goto (tgt := 97) B dX12_root_83 rfl ?_
          refine z_ladd B dX12_root_97 ?_
          refine z_fl (fun v_21 => ?_)
          refine z_lstore (lv' := [(9, .long v_21), (11, .int i_1), (7, .long i_3), (5, .long v_2), (4, .int ((nI n_1) - 1075)), (2, .long a.toInt64), (0, .double a)]) B dX12_root_98 (Nat.le_of_ble_eq_true rfl) rfl ?_
          refine z_lload B dX12_root_100 2 rfl ?_
          refine z_ldc2 (v := 2) B (by decide +kernel) dX12_root_102 ?_
          refine z_lmul B dX12_root_105 ?_
          refine z_fl (fun v_22 => ?_)
          refine z_lstore (lv' := [(7, .long v_22), (9, .long v_21), (11, .int i_1), (5, .long v_2), (4, .int ((nI n_1) - 1075)), (2, .long a.toInt64), (0, .double a)]) B dX12_root_106 (Nat.le_of_ble_eq_true rfl) rfl ?_
          refine z_lload B dX12_root_108 1 rfl ?_
          refine z_ldc2 (v := 2) B (by decide +kernel) dX12_root_110 ?_
          refine z_lload B dX12_root_113 0 rfl ?_
          refine z_lmul B dX12_root_115 ?_
          refine z_fl (fun v_23 => ?_)
          refine z_lconst (v := 1) B dX12_root_116 rfl ?_
          refine z_ladd B dX12_root_117 ?_
          refine z_fl (fun v_24 => ?_)
          refine z_lcmp B dX12_root_118 ?_
          refine z_fi (fun v_25 => ?_)
          refine z_if_ge (tgt := 125) B dX12_root_119 rfl (fun c_6 => ?_) (fun c_6 => ?_)
          · obtain ⟨n_3, e_3, rfl⟩ := nI_of (Int32.not_lt.mpr c_6)
            refine z_lload B dX12_root_125 1 rfl ?_
            refine z_ldc2 (v := 2) B (by decide +kernel) dX12_root_127 ?_
            refine z_lload B dX12_root_130 0 rfl ?_
            refine z_lmul B dX12_root_132 ?_
            refine z_fl (fun v_26 => ?_)
            refine z_lconst (v := 1) B dX12_root_133 rfl ?_
            refine z_ladd B dX12_root_134 ?_
            refine z_fl (fun v_27 => ?_)
            refine z_lsub B dX12_root_135 ?_
            refine z_fl (fun v_28 => ?_)
            refine z_lstore (lv' := [(9, .long v_28), (7, .long v_22), (11, .int i_1), (5, .long v_2), (4, .int ((nI n_1) - 1075)), (2, .long a.toInt64), (0, .double a)]) B dX12_root_136 (Nat.le_of_ble_eq_true rfl) rfl ?_
            refine z_lload B dX12_root_138 1 rfl ?_
            refine z_lconst (v := 1) B dX12_root_140 rfl ?_
            refine z_ladd B dX12_root_141 ?_
            refine z_fl (fun v_29 => ?_)
            refine z_lstore (lv' := [(7, .long v_29), (9, .long v_28), (11, .int i_1), (5, .long v_2), (4, .int ((nI n_1) - 1075)), (2, .long a.toInt64), (0, .double a)]) B dX12_root_142 (Nat.le_of_ble_eq_true rfl) rfl ?_
            refine z_iinc (k := 2) (v := i_1 + (-1)) (lv' := [(11, .int (i_1 + (-1))), (7, .long v_29), (9, .long v_28), (5, .long v_2), (4, .int ((nI n_1) - 1075)), (2, .long a.toInt64), (0, .double a)]) B dX12_root_144 rfl rfl (Nat.le_of_ble_eq_true rfl) rfl ?_
            refine z_goto (tgt := 64) B dX12_root_147 rfl ?_
            refine z_lv [0, 2, 1, 3, 4, 5, 6] rfl ?_
            exact ih1 (i_1 + (-1), v_28, v_29) Φl1 (down28 c_3) ⟨hI2, (fun b9 h9 => ((hF2 b9 (fun j9 h8 h7 => (show False from h7).elim)).trans rfl)), trivial⟩
          · refine z_goto (tgt := 144) B dX12_root_122 rfl ?_
            refine z_iinc (k := 2) (v := i_1 + (-1)) (lv' := [(11, .int (i_1 + (-1))), (7, .long v_22), (9, .long v_21), (5, .long v_2), (4, .int ((nI n_1) - 1075)), (2, .long a.toInt64), (0, .double a)]) B dX12_root_144 rfl rfl (Nat.le_of_ble_eq_true rfl) rfl ?_
            refine z_goto (tgt := 64) B dX12_root_147 rfl ?_
            refine z_lv [0, 2, 1, 3, 4, 5, 6] rfl ?_
            exact ih1 (i_1 + (-1), v_21, v_22) Φl1 (down28 c_3) ⟨hI2, (fun b9 h9 => ((hF2 b9 (fun j9 h8 h7 => (show False from h7).elim)).trans rfl)), trivial⟩
    · have q_9 := rt_odd b_1 c_2
      refine z_lload B dX12_root_43 0 rfl ?_
      refine z_ldc2 (v := 2) B (by decide +kernel) dX12_root_45 ?_
      refine z_lmul B dX12_root_48 ?_
      refine z_fl (fun v_30 => ?_)
      refine z_lstore (lv' := [(5, .long v_30), (4, .int ((nI n_1) - 1075)), (2, .long a.toInt64), (0, .double a)]) B dX12_root_49 (Nat.le_of_ble_eq_true rfl) rfl ?_
      refine z_iinc (k := 1) (v := ((nI n_1) - 1075) + (-1)) (lv' := [(4, .int (((nI n_1) - 1075) + (-1))), (5, .long v_30), (2, .long a.toInt64), (0, .double a)]) B dX12_root_51 rfl rfl (Nat.le_of_ble_eq_true rfl) rfl ?_
      refine z_lconst (v := 0) B dX12_root_54 rfl ?_
      refine z_lstore (lv' := [(7, .long 0), (4, .int (((nI n_1) - 1075) + (-1))), (5, .long v_30), (2, .long a.toInt64), (0, .double a)]) B dX12_root_55 (Nat.le_of_ble_eq_true rfl) rfl ?_
      refine z_lconst (v := 0) B dX12_root_57 rfl ?_
      refine z_lstore (lv' := [(9, .long 0), (7, .long 0), (4, .int (((nI n_1) - 1075) + (-1))), (5, .long v_30), (2, .long a.toInt64), (0, .double a)]) B dX12_root_58 (Nat.le_of_ble_eq_true rfl) rfl ?_
      refine z_bipush (v := 26) B dX12_root_60 rfl ?_
      refine z_istore (lv' := [(11, .int 26), (9, .long 0), (7, .long 0), (4, .int (((nI n_1) - 1075) + (-1))), (5, .long v_30), (2, .long a.toInt64), (0, .double a)]) B dX12_root_62 (Nat.le_of_ble_eq_true rfl) rfl ?_
      refine z_lv [0, 1, 2, 3, 4, 5, 6] rfl ?_
      refine z_loop (α := Int32 × Int64 × Int64) (fun (a9 : Int32 × Int64 × Int64) Φi => Im G x (rd, nw, cr, tp, tt, sI, sT, pt, ql, fl, pe, le, nx, il, qu, kn, ec, nu, va, st, ep, ti, ad, ob, ra, rt, ex, sa, us, tk, th, me, dr, se, sn) Φi ∧ Fr x (fun j9 => False) Φ1 Φi ∧ True) (fun a9 => [(11, .int a9.1), (9, .long a9.2.1), (7, .long a9.2.2), (4, .int (((nI n_1) - 1075) + (-1))), (5, .long v_30), (2, .long a.toInt64), (0, .double a)]) (fun a9 => ((a9.1).toInt + 28).toNat) ?_ (26, 0, 0) ⟨hI1, fun _ _ => rfl, trivial⟩
      rintro ⟨i_4, i_5, i_6⟩ Φl2 ⟨hI3, hF3, -⟩ ih2
      replace hI3 : Im G x (rd, nw, cr, tp, tt, sI, sT, pt, ql, fl, pe, le, nx, il, qu, kn, ec, nu, va, st, ep, ti, ad, ob, ra, rt, ex, sa, us, tk, th, me, dr, se, sn) Φl2 := hI3
      show Z p9 l e9 _ s9 m9 _ w9 t9 k9 _ G 12 64 [(11, .int i_4), (9, .long i_5), (7, .long i_6), (4, .int (((nI n_1) - 1075) + (-1))), (5, .long v_30), (2, .long a.toInt64), (0, .double a)] [] Φl2 _ _ _
      refine z_iload B dX12_root_64 0 rfl ?_
      refine z_bipush (v := (-27)) B dX12_root_66 rfl ?_
      refine z_icmp_lt (tgt := 150) B dX12_root_68 rfl (fun c_7 => ?_) (fun c_7 => ?_)
      · refine z_lload B dX12_root_150 2 rfl ?_
        refine z_lconst (v := 1) B dX12_root_152 rfl ?_
        refine z_ladd B dX12_root_153 ?_
        refine z_fl (fun v_31 => ?_)
        refine z_iconst (v := 1) B dX12_root_154 rfl ?_
        refine z_lshr (v := v_31 >>> ((1 : Int32).toInt64 &&& 63)) B dX12_root_155 rfl ?_
        refine z_fl (fun v_32 => ?_)
        refine z_l2d B dX12_root_156 ?_
        refine z_fdq (P := fun u9 : UInt64 => sm64 12 u9) (l2d_sm v_32) (fun v_33 q_11 => ?_)
        replace q_11 : sm64 12 v_33 := q_11
        refine z_iload B dX12_root_157 3 rfl ?_
        refine z_iconst (v := 2) B dX12_root_159 rfl ?_
        refine z_idiv B dX12_root_160 (by decide) ?_
        refine z_bipush (v := 26) B dX12_root_161 rfl ?_
        refine z_isub B dX12_root_163 ?_
        refine z_sipush (v := 1023) B dX12_root_164 rfl ?_
        refine z_iadd B dX12_root_167 ?_
        refine z_i2l (v := ((((((nI n_1) - 1075) + (-1)) / 2) - 26) + 1023).toInt64) B dX12_root_168 rfl ?_
        refine z_bipush (v := 52) B dX12_root_169 rfl ?_
        refine z_lshl (v := (((((((nI n_1) - 1075) + (-1)) / 2) - 26) + 1023).toInt64) <<< ((52 : Int32).toInt64 &&& 63)) B dX12_root_171 rfl ?_
        refine z_bitsd B (show vn_snl2d ((((((((nI n_1) - 1075) + (-1)) / 2) - 26) + 1023).toInt64) <<< ((52 : Int32).toInt64 &&& 63)) = false from q_9.1) (by decide +kernel) (by decide +kernel) (by decide +kernel) (by decide +kernel) ⟨Nat.le_of_ble_eq_true rfl, Nat.le_of_ble_eq_true rfl⟩ dX12_root_172 ?_
        refine z_fdq (P := fun u9 : UInt64 => wD (Jvm.FP.Core.val64 u9)) (show wD (Jvm.FP.Core.val64 (((((((((nI n_1) - 1075) + (-1)) / 2) - 26) + 1023).toInt64) <<< ((52 : Int32).toInt64 &&& 63)).toUInt64)) from q_9.2) (fun v_34 q_12 => ?_)
        replace q_12 : wD (Jvm.FP.Core.val64 v_34) := q_12
        have q_14 : nn64 (FP.dmul v_33 v_34) := (mul_nnw (sm_nn q_11) q_12)
        refine z_dmul B dX12_root_175 (vf_of q_14) ?_
        refine z_fdq (P := fun u9 : UInt64 => nn64 u9) q_14 (fun v_35 q_16 => ?_)
        replace q_16 : nn64 v_35 := q_16
        exact z_ret_d B dX12_root_176 ⟨⟨_, rfl, q_16⟩, rfl, hI3, (fun b9 h9 => ((hF3 b9 (fun j9 h8 h7 => (show False from h7).elim)).trans ((hF1 b9 (fun j9 h8 h7 => (show False from h7).elim)).trans rfl)))⟩
      · refine z_ldc2 (v := 4) B (by decide +kernel) dX12_root_71 ?_
        refine z_lload B dX12_root_74 1 rfl ?_
        refine z_lmul B dX12_root_76 ?_
        refine z_fl (fun v_36 => ?_)
        refine z_iload B dX12_root_77 0 rfl ?_
        refine z_if_ge (tgt := 86) B dX12_root_79 rfl (fun c_8 => ?_) (fun c_8 => ?_)
        · refine z_lload B dX12_root_86 4 rfl ?_
          refine z_iconst (v := 2) B dX12_root_88 rfl ?_
          refine z_iload B dX12_root_89 0 rfl ?_
          refine z_imul B dX12_root_91 ?_
          refine z_fi (fun v_37 => ?_)
          refine z_lshr (v := v_30 >>> ((v_37 : Int32).toInt64 &&& 63)) B dX12_root_92 rfl ?_
          refine z_fl (fun v_38 => ?_)
          refine z_ldc2 (v := 3) B (by decide +kernel) dX12_root_93 ?_
          refine z_land B dX12_root_96 ?_
          refine z_fl (fun v_39 => ?_)
          refine z_ladd B dX12_root_97 ?_
          refine z_fl (fun v_40 => ?_)
          refine z_lstore (lv' := [(9, .long v_40), (11, .int i_4), (7, .long i_6), (4, .int (((nI n_1) - 1075) + (-1))), (5, .long v_30), (2, .long a.toInt64), (0, .double a)]) B dX12_root_98 (Nat.le_of_ble_eq_true rfl) rfl ?_
          refine z_lload B dX12_root_100 2 rfl ?_
          refine z_ldc2 (v := 2) B (by decide +kernel) dX12_root_102 ?_
          refine z_lmul B dX12_root_105 ?_
          refine z_fl (fun v_41 => ?_)
          refine z_lstore (lv' := [(7, .long v_41), (9, .long v_40), (11, .int i_4), (4, .int (((nI n_1) - 1075) + (-1))), (5, .long v_30), (2, .long a.toInt64), (0, .double a)]) B dX12_root_106 (Nat.le_of_ble_eq_true rfl) rfl ?_
          refine z_lload B dX12_root_108 1 rfl ?_
          refine z_ldc2 (v := 2) B (by decide +kernel) dX12_root_110 ?_
          refine z_lload B dX12_root_113 0 rfl ?_
          refine z_lmul B dX12_root_115 ?_
          refine z_fl (fun v_42 => ?_)
          refine z_lconst (v := 1) B dX12_root_116 rfl ?_
          refine z_ladd B dX12_root_117 ?_
          refine z_fl (fun v_43 => ?_)
          refine z_lcmp B dX12_root_118 ?_
          refine z_fi (fun v_44 => ?_)
          refine z_if_ge (tgt := 125) B dX12_root_119 rfl (fun c_9 => ?_) (fun c_9 => ?_)
          · obtain ⟨n_4, e_4, rfl⟩ := nI_of (Int32.not_lt.mpr c_9)
            refine z_lload B dX12_root_125 1 rfl ?_
            refine z_ldc2 (v := 2) B (by decide +kernel) dX12_root_127 ?_
            refine z_lload B dX12_root_130 0 rfl ?_
            refine z_lmul B dX12_root_132 ?_
            refine z_fl (fun v_45 => ?_)
            refine z_lconst (v := 1) B dX12_root_133 rfl ?_
            refine z_ladd B dX12_root_134 ?_
            refine z_fl (fun v_46 => ?_)
            refine z_lsub B dX12_root_135 ?_
            refine z_fl (fun v_47 => ?_)
            refine z_lstore (lv' := [(9, .long v_47), (7, .long v_41), (11, .int i_4), (4, .int (((nI n_1) - 1075) + (-1))), (5, .long v_30), (2, .long a.toInt64), (0, .double a)]) B dX12_root_136 (Nat.le_of_ble_eq_true rfl) rfl ?_
            refine z_lload B dX12_root_138 1 rfl ?_
            refine z_lconst (v := 1) B dX12_root_140 rfl ?_
            refine z_ladd B dX12_root_141 ?_
            refine z_fl (fun v_48 => ?_)
            refine z_lstore (lv' := [(7, .long v_48), (9, .long v_47), (11, .int i_4), (4, .int (((nI n_1) - 1075) + (-1))), (5, .long v_30), (2, .long a.toInt64), (0, .double a)]) B dX12_root_142 (Nat.le_of_ble_eq_true rfl) rfl ?_
            refine z_iinc (k := 2) (v := i_4 + (-1)) (lv' := [(11, .int (i_4 + (-1))), (7, .long v_48), (9, .long v_47), (4, .int (((nI n_1) - 1075) + (-1))), (5, .long v_30), (2, .long a.toInt64), (0, .double a)]) B dX12_root_144 rfl rfl (Nat.le_of_ble_eq_true rfl) rfl ?_
            refine z_goto (tgt := 64) B dX12_root_147 rfl ?_
            refine z_lv [0, 2, 1, 3, 4, 5, 6] rfl ?_
            exact ih2 (i_4 + (-1), v_47, v_48) Φl2 (down28 c_7) ⟨hI3, (fun b9 h9 => ((hF3 b9 (fun j9 h8 h7 => (show False from h7).elim)).trans rfl)), trivial⟩
          · refine z_goto (tgt := 144) B dX12_root_122 rfl ?_
            refine z_iinc (k := 2) (v := i_4 + (-1)) (lv' := [(11, .int (i_4 + (-1))), (7, .long v_41), (9, .long v_40), (4, .int (((nI n_1) - 1075) + (-1))), (5, .long v_30), (2, .long a.toInt64), (0, .double a)]) B dX12_root_144 rfl rfl (Nat.le_of_ble_eq_true rfl) rfl ?_
            refine z_goto (tgt := 64) B dX12_root_147 rfl ?_
            refine z_lv [0, 2, 1, 3, 4, 5, 6] rfl ?_
            exact ih2 (i_4 + (-1), v_40, v_41) Φl2 (down28 c_7) ⟨hI3, (fun b9 h9 => ((hF3 b9 (fun j9 h8 h7 => (show False from h7).elim)).trans rfl)), trivial⟩
        · refine z_lconst (v := 0) B dX12_root_82 rfl ?_
          refine z_goto (tgt := 97) B dX12_root_83 rfl ?_
          refine z_ladd B dX12_root_97 ?_
          refine z_fl (fun v_49 => ?_)
          refine z_lstore (lv' := [(9, .long v_49), (11, .int i_4), (7, .long i_6), (4, .int (((nI n_1) - 1075) + (-1))), (5, .long v_30), (2, .long a.toInt64), (0, .double a)]) B dX12_root_98 (Nat.le_of_ble_eq_true rfl) rfl ?_
          refine z_lload B dX12_root_100 2 rfl ?_
          refine z_ldc2 (v := 2) B (by decide +kernel) dX12_root_102 ?_
          refine z_lmul B dX12_root_105 ?_
          refine z_fl (fun v_50 => ?_)
          refine z_lstore (lv' := [(7, .long v_50), (9, .long v_49), (11, .int i_4), (4, .int (((nI n_1) - 1075) + (-1))), (5, .long v_30), (2, .long a.toInt64), (0, .double a)]) B dX12_root_106 (Nat.le_of_ble_eq_true rfl) rfl ?_
          refine z_lload B dX12_root_108 1 rfl ?_
          refine z_ldc2 (v := 2) B (by decide +kernel) dX12_root_110 ?_
          refine z_lload B dX12_root_113 0 rfl ?_
          refine z_lmul B dX12_root_115 ?_
          refine z_fl (fun v_51 => ?_)
          refine z_lconst (v := 1) B dX12_root_116 rfl ?_
          refine z_ladd B dX12_root_117 ?_
          refine z_fl (fun v_52 => ?_)
          refine z_lcmp B dX12_root_118 ?_
          refine z_fi (fun v_53 => ?_)
          refine z_if_ge (tgt := 125) B dX12_root_119 rfl (fun c_10 => ?_) (fun c_10 => ?_)
          · obtain ⟨n_5, e_5, rfl⟩ := nI_of (Int32.not_lt.mpr c_10)
            refine z_lload B dX12_root_125 1 rfl ?_
            refine z_ldc2 (v := 2) B (by decide +kernel) dX12_root_127 ?_
            refine z_lload B dX12_root_130 0 rfl ?_
            refine z_lmul B dX12_root_132 ?_
            refine z_fl (fun v_54 => ?_)
            refine z_lconst (v := 1) B dX12_root_133 rfl ?_
            refine z_ladd B dX12_root_134 ?_
            refine z_fl (fun v_55 => ?_)
            refine z_lsub B dX12_root_135 ?_
            refine z_fl (fun v_56 => ?_)
            refine z_lstore (lv' := [(9, .long v_56), (7, .long v_50), (11, .int i_4), (4, .int (((nI n_1) - 1075) + (-1))), (5, .long v_30), (2, .long a.toInt64), (0, .double a)]) B dX12_root_136 (Nat.le_of_ble_eq_true rfl) rfl ?_
            refine z_lload B dX12_root_138 1 rfl ?_
            refine z_lconst (v := 1) B dX12_root_140 rfl ?_
            refine z_ladd B dX12_root_141 ?_
            refine z_fl (fun v_57 => ?_)
            refine z_lstore (lv' := [(7, .long v_57), (9, .long v_56), (11, .int i_4), (4, .int (((nI n_1) - 1075) + (-1))), (5, .long v_30), (2, .long a.toInt64), (0, .double a)]) B dX12_root_142 (Nat.le_of_ble_eq_true rfl) rfl ?_
            refine z_iinc (k := 2) (v := i_4 + (-1)) (lv' := [(11, .int (i_4 + (-1))), (7, .long v_57), (9, .long v_56), (4, .int (((nI n_1) - 1075) + (-1))), (5, .long v_30), (2, .long a.toInt64), (0, .double a)]) B dX12_root_144 rfl rfl (Nat.le_of_ble_eq_true rfl) rfl ?_
            refine z_goto (tgt := 64) B dX12_root_147 rfl ?_
            refine z_lv [0, 2, 1, 3, 4, 5, 6] rfl ?_
            exact ih2 (i_4 + (-1), v_56, v_57) Φl2 (down28 c_7) ⟨hI3, (fun b9 h9 => ((hF3 b9 (fun j9 h8 h7 => (show False from h7).elim)).trans rfl)), trivial⟩
          · refine z_goto (tgt := 144) B dX12_root_122 rfl ?_
            refine z_iinc (k := 2) (v := i_4 + (-1)) (lv' := [(11, .int (i_4 + (-1))), (7, .long v_50), (9, .long v_49), (4, .int (((nI n_1) - 1075) + (-1))), (5, .long v_30), (2, .long a.toInt64), (0, .double a)]) B dX12_root_144 rfl rfl (Nat.le_of_ble_eq_true rfl) rfl ?_
            refine z_goto (tgt := 64) B dX12_root_147 rfl ?_
            refine z_lv [0, 2, 1, 3, 4, 5, 6] rfl ?_
            exact ih2 (i_4 + (-1), v_49, v_50) Φl2 (down28 c_7) ⟨hI3, (fun b9 h9 => ((hF3 b9 (fun j9 h8 h7 => (show False from h7).elim)).trans rfl)), trivial⟩
  · refine z_dconst0 B dX12_root_6 ?_
    exact z_ret_d B dX12_root_7 ⟨⟨_, rfl, (sm_nn sm_zero)⟩, rfl, hI, (fun b9 h9 => rfl)⟩

set_option maxHeartbeats 4000000 in
set_option maxRecDepth 100000 in
theorem r_marginOf (G : EnvG) (l : Launch) (Φ : Hm) (sz x : Nat) (rd : (Nat → Int32) → Prop) (nw : (Nat → Int32) → Prop) (cr : (Nat → Int64) → Prop) (tp : (Nat → Int32) → Prop) (tt : (Nat → Int64) → Prop) (sI : (Nat → Int32) → Prop) (sT : (Nat → Int32) → Prop) (pt : (Nat → Int32) → Prop) (ql : (Nat → Int32) → Prop) (fl : Nat) (pe : Nat) (le : Nat) (nx : Nat) (il : Nat) (qu : Nat) (kn : Int32) (ec : Int32) (nu : Int32) (va : Int64) (st : Nat) (ep : Int32) (ti : Int32) (ad : Int32) (ob : Int64) (ra : Int32) (rt : Nat) (ex : Int32) (sa : Int64) (us : Int64) (tk : Nat) (th : Int32) (me : Int32) (dr : Int32) (se : Int64) (sn : Int64) (a : UInt64) (hx : G.2.2.2 ≤ x) (hI : Im G x (rd, nw, cr, tp, tt, sI, sT, pt, ql, fl, pe, le, nx, il, qu, kn, ec, nu, va, st, ep, ti, ad, ob, ra, rt, ex, sa, us, tk, th, me, dr, se, sn) Φ) (ha : pd64 a) (hnw : ∀ f9 : Nat → Int32, nw f9 → NN f9) : Ct G l yX12_marginOf wsX12_marginOf ({ frames := 3, cells := 0, slots := 0, locals := 73 }) 0 0 [.double a] Φ sz (fun v Φ1 sz1 => (∃ r9 : UInt64, v = some (.double r9) ∧ nn64 r9) ∧ sz1 = sz ∧ (Im G x (rd, nw, cr, tp, tt, sI, sT, pt, ql, fl, pe, le, nx, il, qu, kn, ec, nu, va, st, ep, ti, ad, ob, ra, rt, ex, sa, us, tk, th, me, dr, se, sn) Φ1) ∧ Fr x (fun j9 => False) Φ Φ1) := by
  refine Ct.of (cc := cX12_marginOf) (maxL := 2) (ret := (some .double)) (by decide) rfl (Nat.le_of_ble_eq_true rfl) ?_
  intro p9 e9 s9 m9 w9 t9 k9 B
  show Z p9 l e9 _ s9 m9 _ w9 t9 k9 _ G 2 0 [(0, .double a)] [] Φ sz 0 0
  refine z_ldc2d (v := 4611505874442293084) B (by decide +kernel) dX12_marginOf_0 ?_
  refine z_dload_n B dX12_marginOf_3 rfl 0 rfl ?_
  refine z_callS (As := [.double a]) (rest := [.double 4611505874442293084]) B (r_root G l Φ sz x rd nw cr tp tt sI sT pt ql fl pe le nx il qu kn ec nu va st ep ti ad ob ra rt ex sa us tk th me dr se sn a hx hI ha hnw) (va_cwS 1 B.1.2.2.2.2 gX12_marginOf_X12_root rfl rfl rfl (by decide +kernel) ⟨Nat.le_of_ble_eq_true rfl, Nat.le_of_ble_eq_true rfl⟩) rfl rfl (Nat.le_of_ble_eq_true rfl) dX12_marginOf_4 ⟨Nat.le_of_ble_eq_true rfl, Nat.le_of_ble_eq_true rfl⟩ (fun r_1 Φ1 sz1 st1 hp1 hs1 => ?_)
  obtain ⟨⟨v_1, rfl, q_1⟩, hq1, hI1, hF1⟩ := hp1
  subst sz1
  replace hs1 : st1 = [.double v_1, .double 4611505874442293084] := hs1
  subst st1
  replace hI1 : Im G x (rd, nw, cr, tp, tt, sI, sT, pt, ql, fl, pe, le, nx, il, qu, kn, ec, nu, va, st, ep, ti, ad, ob, ra, rt, ex, sa, us, tk, th, me, dr, se, sn) Φ1 := hI1
  have q_3 : nn64 (FP.dmul 4611505874442293084 v_1) := (mul_wnn (w_of (u := 4611505874442293084) (s := false) (c := 8827055269646172) (q := -52) (by decide +kernel) (by decide)) q_1)
  refine z_dmul B dX12_marginOf_7 (vf_of q_3) ?_
  refine z_fdq (P := fun u9 : UInt64 => nn64 u9) q_3 (fun v_2 q_5 => ?_)
  replace q_5 : nn64 v_2 := q_5
  exact z_ret_d B dX12_marginOf_8 ⟨⟨_, rfl, q_5⟩, rfl, hI1, (fun b9 h9 => ((hF1 b9 (fun j9 h8 h7 => (show False from h7).elim)).trans rfl))⟩

theorem hu_X12_lowerOf_X12 : ∀ w ∈ u_ws RX12 TX12 54, w ∈ wsX12_lowerOf := fun _ h => List.mem_cons_of_mem _ (List.mem_append_left _ (List.mem_append_right _ (h)))

theorem hv_X12_lowerOf_75 : Cond.fieldLink RX12 75 "FlowExporterModel" (TX12 39).2.1 (TX12 39).2.2.1 ∈ wsX12_lowerOf := List.mem_cons_of_mem _ (List.mem_append_left _ (List.mem_append_left _ (List.mem_append_left _ (List.mem_of_getElem? (i := 0) rfl))))

theorem hv_X12_lowerOf_78 : Cond.fieldLink RX12 78 "FlowExporterModel" (TX12 40).2.1 (TX12 40).2.2.1 ∈ wsX12_lowerOf := List.mem_cons_of_mem _ (List.mem_append_left _ (List.mem_append_left _ (List.mem_append_left _ (List.mem_of_getElem? (i := 1) rfl))))

theorem hv_X12_lowerOf_72 : Cond.fieldLink RX12 72 "FlowExporterModel" (TX12 38).2.1 (TX12 38).2.2.1 ∈ wsX12_lowerOf := List.mem_cons_of_mem _ (List.mem_append_left _ (List.mem_append_left _ (List.mem_append_left _ (List.mem_of_getElem? (i := 2) rfl))))

set_option maxHeartbeats 4000000 in
set_option maxRecDepth 100000 in
theorem r_lowerOf (G : EnvG) (l : Launch) (Φ : Hm) (sz x : Nat) (rd : (Nat → Int32) → Prop) (nw : (Nat → Int32) → Prop) (cr : (Nat → Int64) → Prop) (tp : (Nat → Int32) → Prop) (tt : (Nat → Int64) → Prop) (sI : (Nat → Int32) → Prop) (sT : (Nat → Int32) → Prop) (pt : (Nat → Int32) → Prop) (ql : (Nat → Int32) → Prop) (fl : Nat) (pe : Nat) (le : Nat) (nx : Nat) (il : Nat) (qu : Nat) (kn : Int32) (ec : Int32) (nu : Int32) (va : Int64) (st : Nat) (ep : Int32) (ti : Int32) (ad : Int32) (ob : Int64) (ra : Int32) (rt : Nat) (ex : Int32) (sa : Int64) (us : Int64) (tk : Nat) (th : Int32) (me : Int32) (dr : Int32) (se : Int64) (sn : Int64) (k : Nat) (w : Nat) (hx : G.2.2.2 ≤ x) (hI : Im G x (rd, nw, cr, tp, tt, sI, sT, pt, ql, fl, pe, le, nx, il, qu, kn, ec, nu, va, st, ep, ti, ad, ob, ra, rt, ex, sa, us, tk, th, me, dr, se, sn) Φ) (hk : k < 24) (hw : w < 2) (hnw : ∀ f9 : Nat → Int32, nw f9 → NN f9) : Ct G l yX12_lowerOf wsX12_lowerOf ({ frames := 4, cells := 0, slots := 0, locals := 94 }) 0 0 [.ref x, .int (nI k), .int (nI w)] Φ sz (fun v Φ1 sz1 => (∃ r9 : UInt64, v = some (.double r9) ∧ nn64 r9) ∧ sz1 = sz ∧ (Im G x (rd, nw, cr, tp, tt, sI, sT, pt, ql, fl, pe, le, nx, il, qu, kn, ec, nu, va, st, ep, ti, ad, ob, ra, rt, ex, sa, us, tk, th, me, dr, se, sn) Φ1) ∧ Fr x (fun j9 => False) Φ Φ1) := by
  refine Ct.of (cc := cX12_lowerOf) (maxL := 7) (ret := (some .double)) (by decide) rfl (Nat.le_of_ble_eq_true rfl) ?_
  intro p9 e9 s9 m9 w9 t9 k9 B
  show Z p9 l e9 _ s9 m9 _ w9 t9 k9 _ G 7 0 [(0, .ref x), (1, .int (nI k)), (2, .int (nI w))] [] Φ sz 0 0
  refine z_aload_n B dX12_lowerOf_0 rfl 0 rfl ?_
  obtain ⟨n_1, v_1, n_2, h_1, b_13, b_1, b_2, b_3, b_4, b_5, b_6, b_7, b_8, b_9, b_10, b_11, b_12⟩ := im0 hI
  replace b_1 : 1 ≤ rt := b_1
  replace b_2 : rt ≤ 1024 := b_2
  replace b_3 : fl ≤ 12 := b_3
  replace b_4 : pe ≤ 24 := b_4
  replace b_5 : le ≤ 700 := b_5
  replace b_6 : qu ≤ 12 := b_6
  replace b_7 : n_1 ≤ 8 := b_7
  replace b_8 : n_2 ≤ 24 := b_8
  replace b_9 : tk ≤ 24 := b_9
  replace b_10 : il ≤ 700 := b_10
  replace b_11 : nx ≤ 701 := b_11
  replace b_12 : st ≤ 701 := b_12
  have h_2 : Φ x = some (o_ 14 [.int th, .ref (x + 1), .ref (x + 2), .int ti, .int ra, .int (nI rt), .int ex, .int ad, .ref (x + 3), .ref (x + 4), .int me, .long se, .ref (x + 5), .int (nI fl), .int dr, .long ob, .long sa, .long sn, .long us, .ref (x + 6), .ref (x + 7), .int (nI pe), .ref (x + 8), .int (nI le), .ref (x + 9), .ref (x + 10), .int (nI qu), .ref (x + 11), .ref (x + 12), .ref (x + 13), .ref (x + 14), .ref (x + 15), .ref (x + 16), .int (nI n_1), .long v_1, .ref (x + 17), .ref (x + 18), .ref (x + 19), .ref (x + 20), .ref (x + 21), .ref (x + 22), .int (nI n_2), .ref (x + 23), .ref (x + 24), .int (nI tk), .ref (x + 25), .int (nI il), .int (nI nx), .int ec, .int ep, .int kn, .int (nI st), .int nu, .long va]) := h_1
  refine z_get (ref := "FlowExporterModel") (C := RX12) (T := TX12) (N := 54) (ci := 14) (v := .ref (x + 21)) B hu_X12_lowerOf_X12 rfl 39 (Nat.le_of_ble_eq_true rfl) hv_X12_lowerOf_75 rfl h_2 rfl dX12_lowerOf_1 ?_
  refine z_iconst (v := 2) B dX12_lowerOf_4 rfl ?_
  refine z_iload_n B dX12_lowerOf_5 rfl 1 rfl ?_
  refine z_imul B dX12_lowerOf_6 ?_
  refine z_top (st1 := [.int (nI (2 * k)), .ref (x + 21)]) (congrArg (fun w9 : Int32 => ([.int w9, .ref (x + 21)] : List Value)) (nI_mul 2 k)) ?_
  refine z_iload_n B dX12_lowerOf_7 rfl 2 rfl ?_
  refine z_iadd B dX12_lowerOf_8 ?_
  refine z_top (st1 := [.int (nI (2 * k + w)), .ref (x + 21)]) (congrArg (fun w9 : Int32 => ([.int w9, .ref (x + 21)] : List Value)) (nI_add (2 * k) w)) ?_
  obtain ⟨f_1, h_3⟩ := imk (k := 21) hI
  have h_4 : Φ (x + 21) = some (al_ G 48 f_1) := h_3
  refine z_lald B h_4 (vp_in_nI (by omega) (by omega)) dX12_lowerOf_9 ?_
  refine z_fl (fun v_2 => ?_)
  refine z_l2d B dX12_lowerOf_10 ?_
  refine z_fdq (P := fun u9 : UInt64 => sm64 12 u9) (l2d_sm v_2) (fun v_3 q_2 => ?_)
  replace q_2 : sm64 12 v_3 := q_2
  refine z_aload_n B dX12_lowerOf_11 rfl 0 rfl ?_
  refine z_get (ref := "FlowExporterModel") (C := RX12) (T := TX12) (N := 54) (ci := 14) (v := .ref (x + 22)) B hu_X12_lowerOf_X12 rfl 40 (Nat.le_of_ble_eq_true rfl) hv_X12_lowerOf_78 rfl h_2 rfl dX12_lowerOf_12 ?_
  refine z_iconst (v := 2) B dX12_lowerOf_15 rfl ?_
  refine z_iload_n B dX12_lowerOf_16 rfl 1 rfl ?_
  refine z_imul B dX12_lowerOf_17 ?_
  refine z_top (st1 := [.int (nI (2 * k)), .ref (x + 22), .double v_3]) (congrArg (fun w9 : Int32 => ([.int w9, .ref (x + 22), .double v_3] : List Value)) (nI_mul 2 k)) ?_
  refine z_iload_n B dX12_lowerOf_18 rfl 2 rfl ?_
  refine z_iadd B dX12_lowerOf_19 ?_
  refine z_top (st1 := [.int (nI (2 * k + w)), .ref (x + 22), .double v_3]) (congrArg (fun w9 : Int32 => ([.int w9, .ref (x + 22), .double v_3] : List Value)) (nI_add (2 * k) w)) ?_
  obtain ⟨f_2, h_5, r_2⟩ := imk (k := 22) hI
  have h_6 : Φ (x + 22) = some (ad_ G 48 f_2) := h_5
  refine z_dald B h_6 (vp_in_nI (by omega) (by omega)) dX12_lowerOf_20 ?_
  refine z_fdq (P := fun u9 : UInt64 => pd64 u9) (r_2 _) (fun v_5 q_4 => ?_)
  replace q_4 : pd64 v_5 := q_4
  refine z_callS (As := [.double v_5]) (rest := [.double v_3]) B (r_marginOf G l Φ sz x rd nw cr tp tt sI sT pt ql fl pe le nx il qu kn ec nu va st ep ti ad ob ra rt ex sa us tk th me dr se sn v_5 hx hI q_4 hnw) (va_cwS 1 B.1.2.2.2.2 gX12_lowerOf_X12_marginOf rfl rfl rfl (by decide +kernel) ⟨Nat.le_of_ble_eq_true rfl, Nat.le_of_ble_eq_true rfl⟩) rfl rfl (Nat.le_of_ble_eq_true rfl) dX12_lowerOf_21 ⟨Nat.le_of_ble_eq_true rfl, Nat.le_of_ble_eq_true rfl⟩ (fun r_3 Φ1 sz1 st1 hp1 hs1 => ?_)
  obtain ⟨⟨v_6, rfl, q_5⟩, hq1, hI1, hF1⟩ := hp1
  subst sz1
  replace hs1 : st1 = [.double v_6, .double v_3] := hs1
  subst st1
  replace hI1 : Im G x (rd, nw, cr, tp, tt, sI, sT, pt, ql, fl, pe, le, nx, il, qu, kn, ec, nu, va, st, ep, ti, ad, ob, ra, rt, ex, sa, us, tk, th, me, dr, se, sn) Φ1 := hI1
  have q_7 : nn64 (FP.dsub v_3 v_6) := (sub_nn q_2 q_5)
  refine z_dsub B dX12_lowerOf_24 (vf_of q_7) ?_
  refine z_fdq (P := fun u9 : UInt64 => nn64 u9) q_7 (fun v_7 q_9 => ?_)
  replace q_9 : nn64 v_7 := q_9
  refine z_dstore_n (lv' := [(3, .double v_7), (0, .ref x), (1, .int (nI k)), (2, .int (nI w))]) B dX12_lowerOf_25 rfl (Nat.le_of_ble_eq_true rfl) rfl ?_
  refine z_aload_n B dX12_lowerOf_26 rfl 1 rfl ?_
  have h_7 : Φ1 x = some (o_ 14 [.int th, .ref (x + 1), .ref (x + 2), .int ti, .int ra, .int (nI rt), .int ex, .int ad, .ref (x + 3), .ref (x + 4), .int me, .long se, .ref (x + 5), .int (nI fl), .int dr, .long ob, .long sa, .long sn, .long us, .ref (x + 6), .ref (x + 7), .int (nI pe), .ref (x + 8), .int (nI le), .ref (x + 9), .ref (x + 10), .int (nI qu), .ref (x + 11), .ref (x + 12), .ref (x + 13), .ref (x + 14), .ref (x + 15), .ref (x + 16), .int (nI n_1), .long v_1, .ref (x + 17), .ref (x + 18), .ref (x + 19), .ref (x + 20), .ref (x + 21), .ref (x + 22), .int (nI n_2), .ref (x + 23), .ref (x + 24), .int (nI tk), .ref (x + 25), .int (nI il), .int (nI nx), .int ec, .int ep, .int kn, .int (nI st), .int nu, .long va]) := ((hF1 x (fun j9 h8 h7 => (show False from h7).elim)).trans h_2)
  refine z_get (ref := "FlowExporterModel") (C := RX12) (T := TX12) (N := 54) (ci := 14) (v := .ref (x + 20)) B hu_X12_lowerOf_X12 rfl 38 (Nat.le_of_ble_eq_true rfl) hv_X12_lowerOf_72 rfl h_7 rfl dX12_lowerOf_27 ?_
  refine z_iconst (v := 2) B dX12_lowerOf_30 rfl ?_
  refine z_iload_n B dX12_lowerOf_31 rfl 2 rfl ?_
  refine z_imul B dX12_lowerOf_32 ?_
  refine z_top (st1 := [.int (nI (2 * k)), .ref (x + 20)]) (congrArg (fun w9 : Int32 => ([.int w9, .ref (x + 20)] : List Value)) (nI_mul 2 k)) ?_
  refine z_iload_n B dX12_lowerOf_33 rfl 3 rfl ?_
  refine z_iadd B dX12_lowerOf_34 ?_
  refine z_top (st1 := [.int (nI (2 * k + w)), .ref (x + 20)]) (congrArg (fun w9 : Int32 => ([.int w9, .ref (x + 20)] : List Value)) (nI_add (2 * k) w)) ?_
  obtain ⟨f_3, h_8⟩ := imk (k := 20) hI1
  have h_9 : Φ1 (x + 20) = some (al_ G 48 f_3) := h_8
  refine z_lald B h_9 (vp_in_nI (by omega) (by omega)) dX12_lowerOf_35 ?_
  refine z_fl (fun v_8 => ?_)
  refine z_l2d B dX12_lowerOf_36 ?_
  refine z_fdq (P := fun u9 : UInt64 => sm64 12 u9) (l2d_sm v_8) (fun v_9 q_11 => ?_)
  replace q_11 : sm64 12 v_9 := q_11
  refine z_dstore (lv' := [(5, .double v_9), (3, .double v_7), (0, .ref x), (1, .int (nI k)), (2, .int (nI w))]) B dX12_lowerOf_37 (Nat.le_of_ble_eq_true rfl) rfl ?_
  refine z_dload_n B dX12_lowerOf_39 rfl 1 rfl ?_
  refine z_dload B dX12_lowerOf_40 0 rfl ?_
  refine z_dcmp B dX12_lowerOf_42 ?_
  refine z_fi (fun v_10 => ?_)
  refine z_if_le (tgt := 50) B dX12_lowerOf_43 rfl (fun c_1 => ?_) (fun c_1 => ?_)
  · refine z_dload B dX12_lowerOf_50 0 rfl ?_
    exact z_ret_d B dX12_lowerOf_52 ⟨⟨_, rfl, (sm_nn q_11)⟩, rfl, hI1, (fun b9 h9 => ((hF1 b9 (fun j9 h8 h7 => (show False from h7).elim)).trans rfl))⟩
  · obtain ⟨n_3, e_2, e_1, rfl⟩ := nI_ofp c_1
    refine z_dload_n B dX12_lowerOf_46 rfl 1 rfl ?_
    refine z_goto (tgt := 52) B dX12_lowerOf_47 rfl ?_
    exact z_ret_d B dX12_lowerOf_52 ⟨⟨_, rfl, q_9⟩, rfl, hI1, (fun b9 h9 => ((hF1 b9 (fun j9 h8 h7 => (show False from h7).elim)).trans rfl))⟩

theorem hu_X12_upperOf_X12 : ∀ w ∈ u_ws RX12 TX12 54, w ∈ wsX12_upperOf := fun _ h => List.mem_cons_of_mem _ (List.mem_append_left _ (List.mem_append_right _ (h)))

theorem hv_X12_upperOf_75 : Cond.fieldLink RX12 75 "FlowExporterModel" (TX12 39).2.1 (TX12 39).2.2.1 ∈ wsX12_upperOf := List.mem_cons_of_mem _ (List.mem_append_left _ (List.mem_append_left _ (List.mem_append_left _ (List.mem_of_getElem? (i := 0) rfl))))

theorem hv_X12_upperOf_78 : Cond.fieldLink RX12 78 "FlowExporterModel" (TX12 40).2.1 (TX12 40).2.2.1 ∈ wsX12_upperOf := List.mem_cons_of_mem _ (List.mem_append_left _ (List.mem_append_left _ (List.mem_append_left _ (List.mem_of_getElem? (i := 1) rfl))))

set_option maxHeartbeats 4000000 in
set_option maxRecDepth 100000 in
theorem r_upperOf (G : EnvG) (l : Launch) (Φ : Hm) (sz x : Nat) (rd : (Nat → Int32) → Prop) (nw : (Nat → Int32) → Prop) (cr : (Nat → Int64) → Prop) (tp : (Nat → Int32) → Prop) (tt : (Nat → Int64) → Prop) (sI : (Nat → Int32) → Prop) (sT : (Nat → Int32) → Prop) (pt : (Nat → Int32) → Prop) (ql : (Nat → Int32) → Prop) (fl : Nat) (pe : Nat) (le : Nat) (nx : Nat) (il : Nat) (qu : Nat) (kn : Int32) (ec : Int32) (nu : Int32) (va : Int64) (st : Nat) (ep : Int32) (ti : Int32) (ad : Int32) (ob : Int64) (ra : Int32) (rt : Nat) (ex : Int32) (sa : Int64) (us : Int64) (tk : Nat) (th : Int32) (me : Int32) (dr : Int32) (se : Int64) (sn : Int64) (k : Nat) (w : Nat) (hx : G.2.2.2 ≤ x) (hI : Im G x (rd, nw, cr, tp, tt, sI, sT, pt, ql, fl, pe, le, nx, il, qu, kn, ec, nu, va, st, ep, ti, ad, ob, ra, rt, ex, sa, us, tk, th, me, dr, se, sn) Φ) (hk : k < 24) (hw : w < 2) (hnw : ∀ f9 : Nat → Int32, nw f9 → NN f9) : Ct G l yX12_upperOf wsX12_upperOf ({ frames := 4, cells := 0, slots := 0, locals := 94 }) 0 0 [.ref x, .int (nI k), .int (nI w)] Φ sz (fun v Φ1 sz1 => (∃ r9 : UInt64, v = some (.double r9) ∧ nn64 r9) ∧ sz1 = sz ∧ (Im G x (rd, nw, cr, tp, tt, sI, sT, pt, ql, fl, pe, le, nx, il, qu, kn, ec, nu, va, st, ep, ti, ad, ob, ra, rt, ex, sa, us, tk, th, me, dr, se, sn) Φ1) ∧ Fr x (fun j9 => False) Φ Φ1) := by
  refine Ct.of (cc := cX12_upperOf) (maxL := 3) (ret := (some .double)) (by decide) rfl (Nat.le_of_ble_eq_true rfl) ?_
  intro p9 e9 s9 m9 w9 t9 k9 B
  show Z p9 l e9 _ s9 m9 _ w9 t9 k9 _ G 3 0 [(0, .ref x), (1, .int (nI k)), (2, .int (nI w))] [] Φ sz 0 0
  refine z_aload_n B dX12_upperOf_0 rfl 0 rfl ?_
  obtain ⟨n_1, v_1, n_2, h_1, b_13, b_1, b_2, b_3, b_4, b_5, b_6, b_7, b_8, b_9, b_10, b_11, b_12⟩ := im0 hI
  replace b_1 : 1 ≤ rt := b_1
  replace b_2 : rt ≤ 1024 := b_2
  replace b_3 : fl ≤ 12 := b_3
  replace b_4 : pe ≤ 24 := b_4
  replace b_5 : le ≤ 700 := b_5
  replace b_6 : qu ≤ 12 := b_6
  replace b_7 : n_1 ≤ 8 := b_7
  replace b_8 : n_2 ≤ 24 := b_8
  replace b_9 : tk ≤ 24 := b_9
  replace b_10 : il ≤ 700 := b_10
  replace b_11 : nx ≤ 701 := b_11
  replace b_12 : st ≤ 701 := b_12
  have h_2 : Φ x = some (o_ 14 [.int th, .ref (x + 1), .ref (x + 2), .int ti, .int ra, .int (nI rt), .int ex, .int ad, .ref (x + 3), .ref (x + 4), .int me, .long se, .ref (x + 5), .int (nI fl), .int dr, .long ob, .long sa, .long sn, .long us, .ref (x + 6), .ref (x + 7), .int (nI pe), .ref (x + 8), .int (nI le), .ref (x + 9), .ref (x + 10), .int (nI qu), .ref (x + 11), .ref (x + 12), .ref (x + 13), .ref (x + 14), .ref (x + 15), .ref (x + 16), .int (nI n_1), .long v_1, .ref (x + 17), .ref (x + 18), .ref (x + 19), .ref (x + 20), .ref (x + 21), .ref (x + 22), .int (nI n_2), .ref (x + 23), .ref (x + 24), .int (nI tk), .ref (x + 25), .int (nI il), .int (nI nx), .int ec, .int ep, .int kn, .int (nI st), .int nu, .long va]) := h_1
  refine z_get (ref := "FlowExporterModel") (C := RX12) (T := TX12) (N := 54) (ci := 14) (v := .ref (x + 21)) B hu_X12_upperOf_X12 rfl 39 (Nat.le_of_ble_eq_true rfl) hv_X12_upperOf_75 rfl h_2 rfl dX12_upperOf_1 ?_
  refine z_iconst (v := 2) B dX12_upperOf_4 rfl ?_
  refine z_iload_n B dX12_upperOf_5 rfl 1 rfl ?_
  refine z_imul B dX12_upperOf_6 ?_
  refine z_top (st1 := [.int (nI (2 * k)), .ref (x + 21)]) (congrArg (fun w9 : Int32 => ([.int w9, .ref (x + 21)] : List Value)) (nI_mul 2 k)) ?_
  refine z_iload_n B dX12_upperOf_7 rfl 2 rfl ?_
  refine z_iadd B dX12_upperOf_8 ?_
  refine z_top (st1 := [.int (nI (2 * k + w)), .ref (x + 21)]) (congrArg (fun w9 : Int32 => ([.int w9, .ref (x + 21)] : List Value)) (nI_add (2 * k) w)) ?_
  obtain ⟨f_1, h_3⟩ := imk (k := 21) hI
  have h_4 : Φ (x + 21) = some (al_ G 48 f_1) := h_3
  refine z_lald B h_4 (vp_in_nI (by omega) (by omega)) dX12_upperOf_9 ?_
  refine z_fl (fun v_2 => ?_)
  refine z_l2d B dX12_upperOf_10 ?_
  refine z_fdq (P := fun u9 : UInt64 => sm64 12 u9) (l2d_sm v_2) (fun v_3 q_2 => ?_)
  replace q_2 : sm64 12 v_3 := q_2
  refine z_aload_n B dX12_upperOf_11 rfl 0 rfl ?_
  refine z_get (ref := "FlowExporterModel") (C := RX12) (T := TX12) (N := 54) (ci := 14) (v := .ref (x + 22)) B hu_X12_upperOf_X12 rfl 40 (Nat.le_of_ble_eq_true rfl) hv_X12_upperOf_78 rfl h_2 rfl dX12_upperOf_12 ?_
  refine z_iconst (v := 2) B dX12_upperOf_15 rfl ?_
  refine z_iload_n B dX12_upperOf_16 rfl 1 rfl ?_
  refine z_imul B dX12_upperOf_17 ?_
  refine z_top (st1 := [.int (nI (2 * k)), .ref (x + 22), .double v_3]) (congrArg (fun w9 : Int32 => ([.int w9, .ref (x + 22), .double v_3] : List Value)) (nI_mul 2 k)) ?_
  refine z_iload_n B dX12_upperOf_18 rfl 2 rfl ?_
  refine z_iadd B dX12_upperOf_19 ?_
  refine z_top (st1 := [.int (nI (2 * k + w)), .ref (x + 22), .double v_3]) (congrArg (fun w9 : Int32 => ([.int w9, .ref (x + 22), .double v_3] : List Value)) (nI_add (2 * k) w)) ?_
  obtain ⟨f_2, h_5, r_2⟩ := imk (k := 22) hI
  have h_6 : Φ (x + 22) = some (ad_ G 48 f_2) := h_5
  refine z_dald B h_6 (vp_in_nI (by omega) (by omega)) dX12_upperOf_20 ?_
  refine z_fdq (P := fun u9 : UInt64 => pd64 u9) (r_2 _) (fun v_5 q_4 => ?_)
  replace q_4 : pd64 v_5 := q_4
  refine z_callS (As := [.double v_5]) (rest := [.double v_3]) B (r_marginOf G l Φ sz x rd nw cr tp tt sI sT pt ql fl pe le nx il qu kn ec nu va st ep ti ad ob ra rt ex sa us tk th me dr se sn v_5 hx hI q_4 hnw) (va_cwS 1 B.1.2.2.2.2 gX12_upperOf_X12_marginOf rfl rfl rfl (by decide +kernel) ⟨Nat.le_of_ble_eq_true rfl, Nat.le_of_ble_eq_true rfl⟩) rfl rfl (Nat.le_of_ble_eq_true rfl) dX12_upperOf_21 ⟨Nat.le_of_ble_eq_true rfl, Nat.le_of_ble_eq_true rfl⟩ (fun r_3 Φ1 sz1 st1 hp1 hs1 => ?_)
  obtain ⟨⟨v_6, rfl, q_5⟩, hq1, hI1, hF1⟩ := hp1
  subst sz1
  replace hs1 : st1 = [.double v_6, .double v_3] := hs1
  subst st1
  replace hI1 : Im G x (rd, nw, cr, tp, tt, sI, sT, pt, ql, fl, pe, le, nx, il, qu, kn, ec, nu, va, st, ep, ti, ad, ob, ra, rt, ex, sa, us, tk, th, me, dr, se, sn) Φ1 := hI1
  have q_7 : nn64 (FP.dadd v_3 v_6) := (add_nn q_2 q_5)
  refine z_dadd B dX12_upperOf_24 (vf_of q_7) ?_
  refine z_fdq (P := fun u9 : UInt64 => nn64 u9) q_7 (fun v_7 q_9 => ?_)
  replace q_9 : nn64 v_7 := q_9
  exact z_ret_d B dX12_upperOf_25 ⟨⟨_, rfl, q_9⟩, rfl, hI1, (fun b9 h9 => ((hF1 b9 (fun j9 h8 h7 => (show False from h7).elim)).trans rfl))⟩

theorem hu_X12_lower_X12 : ∀ w ∈ u_ws RX12 TX12 54, w ∈ wsX12_lower := fun _ h => List.mem_cons_of_mem _ (List.mem_append_left _ (List.mem_append_right _ (h)))

theorem hv_X12_lower_1 : Cond.fieldLink RX12 1 "FlowExporterModel" (TX12 0).2.1 (TX12 0).2.2.1 ∈ wsX12_lower := List.mem_cons_of_mem _ (List.mem_append_left _ (List.mem_append_left _ (List.mem_append_left _ (List.mem_of_getElem? (i := 0) rfl))))

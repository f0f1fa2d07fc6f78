theorem dX9_indexOf_0 : decode cX9_indexOf 0 = .ok (.iconst 0, 1) := by decide +kernel
theorem dX9_indexOf_1 : decode cX9_indexOf 1 = .ok (.istore_n 3, 1) := by decide +kernel
theorem dX9_indexOf_2 : decode cX9_indexOf 2 = .ok (.iload_n 3, 1) := by decide +kernel
theorem dX9_indexOf_3 : decode cX9_indexOf 3 = .ok (.aload_n 0, 1) := by decide +kernel
theorem dX9_indexOf_4 : decode cX9_indexOf 4 = .ok (.getfield 28, 3) := by decide +kernel
theorem dX9_indexOf_7 : decode cX9_indexOf 7 = .ok (.if_icmp .ge 22, 3) := by decide +kernel
theorem dX9_indexOf_10 : decode cX9_indexOf 10 = .ok (.aload_n 0, 1) := by decide +kernel
theorem dX9_indexOf_11 : decode cX9_indexOf 11 = .ok (.getfield 9, 3) := by decide +kernel
theorem dX9_indexOf_14 : decode cX9_indexOf 14 = .ok (.iload_n 3, 1) := by decide +kernel
theorem dX9_indexOf_15 : decode cX9_indexOf 15 = .ok (.laload, 1) := by decide +kernel
theorem dX9_indexOf_16 : decode cX9_indexOf 16 = .ok (.lload_n 1, 1) := by decide +kernel
theorem dX9_indexOf_17 : decode cX9_indexOf 17 = .ok (.lcmp, 1) := by decide +kernel
theorem dX9_indexOf_18 : decode cX9_indexOf 18 = .ok (.ifCond .ne 5, 3) := by decide +kernel
theorem dX9_indexOf_21 : decode cX9_indexOf 21 = .ok (.iload_n 3, 1) := by decide +kernel
theorem dX9_indexOf_22 : decode cX9_indexOf 22 = .ok (.ireturn, 1) := by decide +kernel
theorem dX9_indexOf_23 : decode cX9_indexOf 23 = .ok (.iinc 3 1, 3) := by decide +kernel
theorem dX9_indexOf_26 : decode cX9_indexOf 26 = .ok (.goto (-24), 3) := by decide +kernel
theorem dX9_indexOf_29 : decode cX9_indexOf 29 = .ok (.iconst (-1), 1) := by decide +kernel
theorem dX9_indexOf_30 : decode cX9_indexOf 30 = .ok (.ireturn, 1) := by decide +kernel
set_option maxRecDepth 20000 in
theorem ggX9_indexOrNew_X9_indexOf : GoodIn wsX9_indexOrNew wsX9_indexOf := goodIn_ca (goodIn_r _ [10, 1, 2, 11, 12, 13, 14, 15] rfl (by decide +kernel)) (goodIn_sub (fun _ h => List.mem_cons_of_mem _ (List.mem_append_right _ h)) (by decide +kernel))
set_option maxRecDepth 20000 in
theorem gX9_indexOrNew_X9_indexOf : GoodIn wsX9_indexOrNew (wsV RX9 32 RX9 yX9_indexOf wsX9_indexOf) := goodIn_app (goodIn_of _ (by decide +kernel)) ggX9_indexOrNew_X9_indexOf
theorem dX9_indexOrNew_0 : decode cX9_indexOrNew 0 = .ok (.aload_n 0, 1) := by decide +kernel
theorem dX9_indexOrNew_1 : decode cX9_indexOrNew 1 = .ok (.lload_n 1, 1) := by decide +kernel
theorem dX9_indexOrNew_2 : decode cX9_indexOrNew 2 = .ok (.invokevirtual 32, 3) := by decide +kernel
theorem dX9_indexOrNew_5 : decode cX9_indexOrNew 5 = .ok (.istore_n 3, 1) := by decide +kernel
theorem dX9_indexOrNew_6 : decode cX9_indexOrNew 6 = .ok (.iload_n 3, 1) := by decide +kernel
theorem dX9_indexOrNew_7 : decode cX9_indexOrNew 7 = .ok (.iconst (-1), 1) := by decide +kernel
theorem dX9_indexOrNew_8 : decode cX9_indexOrNew 8 = .ok (.if_icmp .ne 12, 3) := by decide +kernel
theorem dX9_indexOrNew_11 : decode cX9_indexOrNew 11 = .ok (.aload_n 0, 1) := by decide +kernel
theorem dX9_indexOrNew_12 : decode cX9_indexOrNew 12 = .ok (.getfield 28, 3) := by decide +kernel
theorem dX9_indexOrNew_15 : decode cX9_indexOrNew 15 = .ok (.bipush 24, 2) := by decide +kernel
theorem dX9_indexOrNew_17 : decode cX9_indexOrNew 17 = .ok (.if_icmp .lt 5, 3) := by decide +kernel
theorem dX9_indexOrNew_20 : decode cX9_indexOrNew 20 = .ok (.iload_n 3, 1) := by decide +kernel
theorem dX9_indexOrNew_21 : decode cX9_indexOrNew 21 = .ok (.ireturn, 1) := by decide +kernel
theorem dX9_indexOrNew_22 : decode cX9_indexOrNew 22 = .ok (.aload_n 0, 1) := by decide +kernel
theorem dX9_indexOrNew_23 : decode cX9_indexOrNew 23 = .ok (.getfield 9, 3) := by decide +kernel
theorem dX9_indexOrNew_26 : decode cX9_indexOrNew 26 = .ok (.aload_n 0, 1) := by decide +kernel
theorem dX9_indexOrNew_27 : decode cX9_indexOrNew 27 = .ok (.getfield 28, 3) := by decide +kernel
theorem dX9_indexOrNew_30 : decode cX9_indexOrNew 30 = .ok (.lload_n 1, 1) := by decide +kernel
theorem dX9_indexOrNew_31 : decode cX9_indexOrNew 31 = .ok (.lastore, 1) := by decide +kernel
theorem dX9_indexOrNew_32 : decode cX9_indexOrNew 32 = .ok (.iconst 0, 1) := by decide +kernel
theorem dX9_indexOrNew_33 : decode cX9_indexOrNew 33 = .ok (.istore 4, 2) := by decide +kernel
theorem dX9_indexOrNew_35 : decode cX9_indexOrNew 35 = .ok (.iload 4, 2) := by decide +kernel
theorem dX9_indexOrNew_37 : decode cX9_indexOrNew 37 = .ok (.iconst 2, 1) := by decide +kernel
theorem dX9_indexOrNew_38 : decode cX9_indexOrNew 38 = .ok (.if_icmp .ge 48, 3) := by decide +kernel
theorem dX9_indexOrNew_41 : decode cX9_indexOrNew 41 = .ok (.aload_n 0, 1) := by decide +kernel
theorem dX9_indexOrNew_42 : decode cX9_indexOrNew 42 = .ok (.getfield 17, 3) := by decide +kernel
theorem dX9_indexOrNew_45 : decode cX9_indexOrNew 45 = .ok (.iload 4, 2) := by decide +kernel
theorem dX9_indexOrNew_47 : decode cX9_indexOrNew 47 = .ok (.aaload, 1) := by decide +kernel
theorem dX9_indexOrNew_48 : decode cX9_indexOrNew 48 = .ok (.aload_n 0, 1) := by decide +kernel
theorem dX9_indexOrNew_49 : decode cX9_indexOrNew 49 = .ok (.getfield 28, 3) := by decide +kernel
theorem dX9_indexOrNew_52 : decode cX9_indexOrNew 52 = .ok (.lconst 0, 1) := by decide +kernel
theorem dX9_indexOrNew_53 : decode cX9_indexOrNew 53 = .ok (.lastore, 1) := by decide +kernel
theorem dX9_indexOrNew_54 : decode cX9_indexOrNew 54 = .ok (.aload_n 0, 1) := by decide +kernel
theorem dX9_indexOrNew_55 : decode cX9_indexOrNew 55 = .ok (.getfield 20, 3) := by decide +kernel
theorem dX9_indexOrNew_58 : decode cX9_indexOrNew 58 = .ok (.iload 4, 2) := by decide +kernel
theorem dX9_indexOrNew_60 : decode cX9_indexOrNew 60 = .ok (.aaload, 1) := by decide +kernel
theorem dX9_indexOrNew_61 : decode cX9_indexOrNew 61 = .ok (.aload_n 0, 1) := by decide +kernel
theorem dX9_indexOrNew_62 : decode cX9_indexOrNew 62 = .ok (.getfield 28, 3) := by decide +kernel
theorem dX9_indexOrNew_65 : decode cX9_indexOrNew 65 = .ok (.lconst 0, 1) := by decide +kernel
theorem dX9_indexOrNew_66 : decode cX9_indexOrNew 66 = .ok (.lastore, 1) := by decide +kernel
theorem dX9_indexOrNew_67 : decode cX9_indexOrNew 67 = .ok (.aload_n 0, 1) := by decide +kernel
theorem dX9_indexOrNew_68 : decode cX9_indexOrNew 68 = .ok (.getfield 25, 3) := by decide +kernel
theorem dX9_indexOrNew_71 : decode cX9_indexOrNew 71 = .ok (.iload 4, 2) := by decide +kernel
theorem dX9_indexOrNew_73 : decode cX9_indexOrNew 73 = .ok (.aaload, 1) := by decide +kernel
theorem dX9_indexOrNew_74 : decode cX9_indexOrNew 74 = .ok (.aload_n 0, 1) := by decide +kernel
theorem dX9_indexOrNew_75 : decode cX9_indexOrNew 75 = .ok (.getfield 28, 3) := by decide +kernel
theorem dX9_indexOrNew_78 : decode cX9_indexOrNew 78 = .ok (.dconst 0, 1) := by decide +kernel
theorem dX9_indexOrNew_79 : decode cX9_indexOrNew 79 = .ok (.dastore, 1) := by decide +kernel
theorem dX9_indexOrNew_80 : decode cX9_indexOrNew 80 = .ok (.iinc 4 1, 3) := by decide +kernel
theorem dX9_indexOrNew_83 : decode cX9_indexOrNew 83 = .ok (.goto (-48), 3) := by decide +kernel
theorem dX9_indexOrNew_86 : decode cX9_indexOrNew 86 = .ok (.aload_n 0, 1) := by decide +kernel
theorem dX9_indexOrNew_87 : decode cX9_indexOrNew 87 = .ok (.dup, 1) := by decide +kernel
theorem dX9_indexOrNew_88 : decode cX9_indexOrNew 88 = .ok (.getfield 28, 3) := by decide +kernel
theorem dX9_indexOrNew_91 : decode cX9_indexOrNew 91 = .ok (.iconst 1, 1) := by decide +kernel
theorem dX9_indexOrNew_92 : decode cX9_indexOrNew 92 = .ok (.iadd, 1) := by decide +kernel
theorem dX9_indexOrNew_93 : decode cX9_indexOrNew 93 = .ok (.putfield 28, 3) := by decide +kernel
theorem dX9_indexOrNew_96 : decode cX9_indexOrNew 96 = .ok (.aload_n 0, 1) := by decide +kernel
theorem dX9_indexOrNew_97 : decode cX9_indexOrNew 97 = .ok (.getfield 28, 3) := by decide +kernel
theorem dX9_indexOrNew_100 : decode cX9_indexOrNew 100 = .ok (.iconst 1, 1) := by decide +kernel
theorem dX9_indexOrNew_101 : decode cX9_indexOrNew 101 = .ok (.isub, 1) := by decide +kernel
theorem dX9_indexOrNew_102 : decode cX9_indexOrNew 102 = .ok (.ireturn, 1) := by decide +kernel
theorem dX9_add_0 : decode cX9_add 0 = .ok (.iload_n 1, 1) := by decide +kernel
theorem dX9_add_1 : decode cX9_add 1 = .ok (.ifCond .lt 11, 3) := by decide +kernel
theorem dX9_add_4 : decode cX9_add 4 = .ok (.iload_n 1, 1) := by decide +kernel
theorem dX9_add_5 : decode cX9_add 5 = .ok (.aload_n 0, 1) := by decide +kernel
theorem dX9_add_6 : decode cX9_add 6 = .ok (.getfield 28, 3) := by decide +kernel
theorem dX9_add_9 : decode cX9_add 9 = .ok (.if_icmp .lt 4, 3) := by decide +kernel
theorem dX9_add_12 : decode cX9_add 12 = .ok (.return_, 1) := by decide +kernel
theorem dX9_add_13 : decode cX9_add 13 = .ok (.iload 6, 2) := by decide +kernel
theorem dX9_add_15 : decode cX9_add 15 = .ok (.i2d, 1) := by decide +kernel
theorem dX9_add_16 : decode cX9_add 16 = .ok (.iload 6, 2) := by decide +kernel
theorem dX9_add_18 : decode cX9_add 18 = .ok (.iconst 1, 1) := by decide +kernel
theorem dX9_add_19 : decode cX9_add 19 = .ok (.isub, 1) := by decide +kernel
theorem dX9_add_20 : decode cX9_add 20 = .ok (.i2d, 1) := by decide +kernel
theorem dX9_add_21 : decode cX9_add 21 = .ok (.dmul, 1) := by decide +kernel
theorem dX9_add_22 : decode cX9_add 22 = .ok (.dstore 7, 2) := by decide +kernel
theorem dX9_add_24 : decode cX9_add 24 = .ok (.aload_n 0, 1) := by decide +kernel
theorem dX9_add_25 : decode cX9_add 25 = .ok (.getfield 17, 3) := by decide +kernel
theorem dX9_add_28 : decode cX9_add 28 = .ok (.iconst 0, 1) := by decide +kernel
theorem dX9_add_29 : decode cX9_add 29 = .ok (.aaload, 1) := by decide +kernel
theorem dX9_add_30 : decode cX9_add 30 = .ok (.iload_n 1, 1) := by decide +kernel
theorem dX9_add_31 : decode cX9_add 31 = .ok (.dup2, 1) := by decide +kernel
theorem dX9_add_32 : decode cX9_add 32 = .ok (.laload, 1) := by decide +kernel
theorem dX9_add_33 : decode cX9_add 33 = .ok (.lload_n 2, 1) := by decide +kernel
theorem dX9_add_34 : decode cX9_add 34 = .ok (.ladd, 1) := by decide +kernel
theorem dX9_add_35 : decode cX9_add 35 = .ok (.lastore, 1) := by decide +kernel
theorem dX9_add_36 : decode cX9_add 36 = .ok (.aload_n 0, 1) := by decide +kernel
theorem dX9_add_37 : decode cX9_add 37 = .ok (.getfield 17, 3) := by decide +kernel
theorem dX9_add_40 : decode cX9_add 40 = .ok (.iconst 1, 1) := by decide +kernel
theorem dX9_add_41 : decode cX9_add 41 = .ok (.aaload, 1) := by decide +kernel
theorem dX9_add_42 : decode cX9_add 42 = .ok (.iload_n 1, 1) := by decide +kernel
theorem dX9_add_43 : decode cX9_add 43 = .ok (.dup2, 1) := by decide +kernel
theorem dX9_add_44 : decode cX9_add 44 = .ok (.laload, 1) := by decide +kernel
theorem dX9_add_45 : decode cX9_add 45 = .ok (.lload 4, 2) := by decide +kernel
theorem dX9_add_47 : decode cX9_add 47 = .ok (.ladd, 1) := by decide +kernel
theorem dX9_add_48 : decode cX9_add 48 = .ok (.lastore, 1) := by decide +kernel
theorem dX9_add_49 : decode cX9_add 49 = .ok (.aload_n 0, 1) := by decide +kernel
theorem dX9_add_50 : decode cX9_add 50 = .ok (.getfield 20, 3) := by decide +kernel
theorem dX9_add_53 : decode cX9_add 53 = .ok (.iconst 0, 1) := by decide +kernel
theorem dX9_add_54 : decode cX9_add 54 = .ok (.aaload, 1) := by decide +kernel
theorem dX9_add_55 : decode cX9_add 55 = .ok (.iload_n 1, 1) := by decide +kernel
theorem dX9_add_56 : decode cX9_add 56 = .ok (.dup2, 1) := by decide +kernel
theorem dX9_add_57 : decode cX9_add 57 = .ok (.laload, 1) := by decide +kernel
theorem dX9_add_58 : decode cX9_add 58 = .ok (.iload 6, 2) := by decide +kernel
theorem dX9_add_60 : decode cX9_add 60 = .ok (.i2l, 1) := by decide +kernel
theorem dX9_add_61 : decode cX9_add 61 = .ok (.lload_n 2, 1) := by decide +kernel
theorem dX9_add_62 : decode cX9_add 62 = .ok (.lmul, 1) := by decide +kernel
theorem dX9_add_63 : decode cX9_add 63 = .ok (.ladd, 1) := by decide +kernel
theorem dX9_add_64 : decode cX9_add 64 = .ok (.lastore, 1) := by decide +kernel
theorem dX9_add_65 : decode cX9_add 65 = .ok (.aload_n 0, 1) := by decide +kernel
theorem dX9_add_66 : decode cX9_add 66 = .ok (.getfield 20, 3) := by decide +kernel
theorem dX9_add_69 : decode cX9_add 69 = .ok (.iconst 1, 1) := by decide +kernel
theorem dX9_add_70 : decode cX9_add 70 = .ok (.aaload, 1) := by decide +kernel
theorem dX9_add_71 : decode cX9_add 71 = .ok (.iload_n 1, 1) := by decide +kernel
theorem dX9_add_72 : decode cX9_add 72 = .ok (.dup2, 1) := by decide +kernel
theorem dX9_add_73 : decode cX9_add 73 = .ok (.laload, 1) := by decide +kernel
theorem dX9_add_74 : decode cX9_add 74 = .ok (.iload 6, 2) := by decide +kernel
theorem dX9_add_76 : decode cX9_add 76 = .ok (.i2l, 1) := by decide +kernel
theorem dX9_add_77 : decode cX9_add 77 = .ok (.lload 4, 2) := by decide +kernel
theorem dX9_add_79 : decode cX9_add 79 = .ok (.lmul, 1) := by decide +kernel
theorem dX9_add_80 : decode cX9_add 80 = .ok (.ladd, 1) := by decide +kernel
theorem dX9_add_81 : decode cX9_add 81 = .ok (.lastore, 1) := by decide +kernel
theorem dX9_add_82 : decode cX9_add 82 = .ok (.aload_n 0, 1) := by decide +kernel
theorem dX9_add_83 : decode cX9_add 83 = .ok (.getfield 25, 3) := by decide +kernel
theorem dX9_add_86 : decode cX9_add 86 = .ok (.iconst 0, 1) := by decide +kernel
theorem dX9_add_87 : decode cX9_add 87 = .ok (.aaload, 1) := by decide +kernel
theorem dX9_add_88 : decode cX9_add 88 = .ok (.iload_n 1, 1) := by decide +kernel
theorem dX9_add_89 : decode cX9_add 89 = .ok (.dup2, 1) := by decide +kernel
theorem dX9_add_90 : decode cX9_add 90 = .ok (.daload, 1) := by decide +kernel
theorem dX9_add_91 : decode cX9_add 91 = .ok (.dload 7, 2) := by decide +kernel
theorem dX9_add_93 : decode cX9_add 93 = .ok (.lload_n 2, 1) := by decide +kernel
theorem dX9_add_94 : decode cX9_add 94 = .ok (.l2d, 1) := by decide +kernel
theorem dX9_add_95 : decode cX9_add 95 = .ok (.dmul, 1) := by decide +kernel
theorem dX9_add_96 : decode cX9_add 96 = .ok (.dadd, 1) := by decide +kernel
theorem dX9_add_97 : decode cX9_add 97 = .ok (.dastore, 1) := by decide +kernel
theorem dX9_add_98 : decode cX9_add 98 = .ok (.lload_n 2, 1) := by decide +kernel
theorem dX9_add_99 : decode cX9_add 99 = .ok (.lconst 0, 1) := by decide +kernel
theorem dX9_add_100 : decode cX9_add 100 = .ok (.lcmp, 1) := by decide +kernel
theorem dX9_add_101 : decode cX9_add 101 = .ok (.ifCond .eq 27, 3) := by decide +kernel
theorem dX9_add_104 : decode cX9_add 104 = .ok (.aload_n 0, 1) := by decide +kernel
theorem dX9_add_105 : decode cX9_add 105 = .ok (.getfield 25, 3) := by decide +kernel
theorem dX9_add_108 : decode cX9_add 108 = .ok (.iconst 1, 1) := by decide +kernel
theorem dX9_add_109 : decode cX9_add 109 = .ok (.aaload, 1) := by decide +kernel
theorem dX9_add_110 : decode cX9_add 110 = .ok (.iload_n 1, 1) := by decide +kernel
theorem dX9_add_111 : decode cX9_add 111 = .ok (.dup2, 1) := by decide +kernel
theorem dX9_add_112 : decode cX9_add 112 = .ok (.daload, 1) := by decide +kernel
theorem dX9_add_113 : decode cX9_add 113 = .ok (.dload 7, 2) := by decide +kernel
theorem dX9_add_115 : decode cX9_add 115 = .ok (.lload 4, 2) := by decide +kernel
theorem dX9_add_117 : decode cX9_add 117 = .ok (.l2d, 1) := by decide +kernel
theorem dX9_add_118 : decode cX9_add 118 = .ok (.dmul, 1) := by decide +kernel
theorem dX9_add_119 : decode cX9_add 119 = .ok (.lload 4, 2) := by decide +kernel
theorem dX9_add_121 : decode cX9_add 121 = .ok (.l2d, 1) := by decide +kernel
theorem dX9_add_122 : decode cX9_add 122 = .ok (.dmul, 1) := by decide +kernel
theorem dX9_add_123 : decode cX9_add 123 = .ok (.lload_n 2, 1) := by decide +kernel
theorem dX9_add_124 : decode cX9_add 124 = .ok (.l2d, 1) := by decide +kernel
theorem dX9_add_125 : decode cX9_add 125 = .ok (.ddiv, 1) := by decide +kernel
theorem dX9_add_126 : decode cX9_add 126 = .ok (.dadd, 1) := by decide +kernel
theorem dX9_add_127 : decode cX9_add 127 = .ok (.dastore, 1) := by decide +kernel
theorem dX9_add_128 : decode cX9_add 128 = .ok (.return_, 1) := by decide +kernel
set_option maxRecDepth 20000 in
theorem ggX9_lowerBound_X9_margin : GoodIn wsX9_lowerBound wsX9_margin := goodIn_r _ [7, 8, 9, 10, 6, 11, 12, 13, 14, 15, 16, 17, 18, 19, 20, 21, 22, 23, 24] rfl (by decide +kernel)
set_option maxRecDepth 20000 in
theorem gX9_lowerBound_X9_margin : GoodIn wsX9_lowerBound (va_wsS RX9 36 yX9_margin wsX9_margin) := goodIn_app (goodIn_of _ (by decide +kernel)) ggX9_lowerBound_X9_margin
theorem dX9_lowerBound_0 : decode cX9_lowerBound 0 = .ok (.aload_n 0, 1) := by decide +kernel
theorem dX9_lowerBound_1 : decode cX9_lowerBound 1 = .ok (.getfield 20, 3) := by decide +kernel
theorem dX9_lowerBound_4 : decode cX9_lowerBound 4 = .ok (.iload_n 2, 1) := by decide +kernel
theorem dX9_lowerBound_5 : decode cX9_lowerBound 5 = .ok (.aaload, 1) := by decide +kernel
theorem dX9_lowerBound_6 : decode cX9_lowerBound 6 = .ok (.iload_n 1, 1) := by decide +kernel
theorem dX9_lowerBound_7 : decode cX9_lowerBound 7 = .ok (.laload, 1) := by decide +kernel
theorem dX9_lowerBound_8 : decode cX9_lowerBound 8 = .ok (.l2d, 1) := by decide +kernel
theorem dX9_lowerBound_9 : decode cX9_lowerBound 9 = .ok (.aload_n 0, 1) := by decide +kernel
theorem dX9_lowerBound_10 : decode cX9_lowerBound 10 = .ok (.getfield 25, 3) := by decide +kernel
theorem dX9_lowerBound_13 : decode cX9_lowerBound 13 = .ok (.iload_n 2, 1) := by decide +kernel
theorem dX9_lowerBound_14 : decode cX9_lowerBound 14 = .ok (.aaload, 1) := by decide +kernel
theorem dX9_lowerBound_15 : decode cX9_lowerBound 15 = .ok (.iload_n 1, 1) := by decide +kernel
theorem dX9_lowerBound_16 : decode cX9_lowerBound 16 = .ok (.daload, 1) := by decide +kernel
theorem dX9_lowerBound_17 : decode cX9_lowerBound 17 = .ok (.invokestatic 36, 3) := by decide +kernel
theorem dX9_lowerBound_20 : decode cX9_lowerBound 20 = .ok (.dsub, 1) := by decide +kernel
theorem dX9_lowerBound_21 : decode cX9_lowerBound 21 = .ok (.dstore_n 3, 1) := by decide +kernel
theorem dX9_lowerBound_22 : decode cX9_lowerBound 22 = .ok (.aload_n 0, 1) := by decide +kernel
theorem dX9_lowerBound_23 : decode cX9_lowerBound 23 = .ok (.getfield 17, 3) := by decide +kernel
theorem dX9_lowerBound_26 : decode cX9_lowerBound 26 = .ok (.iload_n 2, 1) := by decide +kernel
theorem dX9_lowerBound_27 : decode cX9_lowerBound 27 = .ok (.aaload, 1) := by decide +kernel
theorem dX9_lowerBound_28 : decode cX9_lowerBound 28 = .ok (.iload_n 1, 1) := by decide +kernel
theorem dX9_lowerBound_29 : decode cX9_lowerBound 29 = .ok (.laload, 1) := by decide +kernel
theorem dX9_lowerBound_30 : decode cX9_lowerBound 30 = .ok (.l2d, 1) := by decide +kernel
theorem dX9_lowerBound_31 : decode cX9_lowerBound 31 = .ok (.dstore 5, 2) := by decide +kernel
theorem dX9_lowerBound_33 : decode cX9_lowerBound 33 = .ok (.dload_n 3, 1) := by decide +kernel
theorem dX9_lowerBound_34 : decode cX9_lowerBound 34 = .ok (.dload 5, 2) := by decide +kernel
theorem dX9_lowerBound_36 : decode cX9_lowerBound 36 = .ok (.dcmp .l, 1) := by decide +kernel
theorem dX9_lowerBound_37 : decode cX9_lowerBound 37 = .ok (.ifCond .le 7, 3) := by decide +kernel
theorem dX9_lowerBound_40 : decode cX9_lowerBound 40 = .ok (.dload_n 3, 1) := by decide +kernel
theorem dX9_lowerBound_41 : decode cX9_lowerBound 41 = .ok (.goto 5, 3) := by decide +kernel
theorem dX9_lowerBound_44 : decode cX9_lowerBound 44 = .ok (.dload 5, 2) := by decide +kernel
theorem dX9_lowerBound_46 : decode cX9_lowerBound 46 = .ok (.dreturn, 1) := by decide +kernel
set_option maxRecDepth 20000 in
theorem ggX9_upperBound_X9_margin : GoodIn wsX9_upperBound wsX9_margin := goodIn_r _ [6, 7, 8, 9, 5, 10, 11, 12, 13, 14, 15, 16, 17, 18, 19, 20, 21, 22, 23] rfl (by decide +kernel)
set_option maxRecDepth 20000 in
theorem gX9_upperBound_X9_margin : GoodIn wsX9_upperBound (va_wsS RX9 36 yX9_margin wsX9_margin) := goodIn_app (goodIn_of _ (by decide +kernel)) ggX9_upperBound_X9_margin
theorem dX9_upperBound_0 : decode cX9_upperBound 0 = .ok (.aload_n 0, 1) := by decide +kernel
theorem dX9_upperBound_1 : decode cX9_upperBound 1 = .ok (.getfield 20, 3) := by decide +kernel
theorem dX9_upperBound_4 : decode cX9_upperBound 4 = .ok (.iload_n 2, 1) := by decide +kernel
theorem dX9_upperBound_5 : decode cX9_upperBound 5 = .ok (.aaload, 1) := by decide +kernel
theorem dX9_upperBound_6 : decode cX9_upperBound 6 = .ok (.iload_n 1, 1) := by decide +kernel
theorem dX9_upperBound_7 : decode cX9_upperBound 7 = .ok (.laload, 1) := by decide +kernel
theorem dX9_upperBound_8 : decode cX9_upperBound 8 = .ok (.l2d, 1) := by decide +kernel
theorem dX9_upperBound_9 : decode cX9_upperBound 9 = .ok (.aload_n 0, 1) := by decide +kernel
theorem dX9_upperBound_10 : decode cX9_upperBound 10 = .ok (.getfield 25, 3) := by decide +kernel
theorem dX9_upperBound_13 : decode cX9_upperBound 13 = .ok (.iload_n 2, 1) := by decide +kernel
theorem dX9_upperBound_14 : decode cX9_upperBound 14 = .ok (.aaload, 1) := by decide +kernel
theorem dX9_upperBound_15 : decode cX9_upperBound 15 = .ok (.iload_n 1, 1) := by decide +kernel
theorem dX9_upperBound_16 : decode cX9_upperBound 16 = .ok (.daload, 1) := by decide +kernel
theorem dX9_upperBound_17 : decode cX9_upperBound 17 = .ok (.invokestatic 36, 3) := by decide +kernel
theorem dX9_upperBound_20 : decode cX9_upperBound 20 = .ok (.dadd, 1) := by decide +kernel
theorem dX9_upperBound_21 : decode cX9_upperBound 21 = .ok (.dreturn, 1) := by decide +kernel
theorem dX9_estimateOfAll_0 : decode cX9_estimateOfAll 0 = .ok (.lconst 0, 1) := by decide +kernel
theorem dX9_estimateOfAll_1 : decode cX9_estimateOfAll 1 = .ok (.lstore_n 2, 1) := by decide +kernel
theorem dX9_estimateOfAll_2 : decode cX9_estimateOfAll 2 = .ok (.iconst 0, 1) := by decide +kernel
theorem dX9_estimateOfAll_3 : decode cX9_estimateOfAll 3 = .ok (.istore 4, 2) := by decide +kernel
theorem dX9_estimateOfAll_5 : decode cX9_estimateOfAll 5 = .ok (.iload 4, 2) := by decide +kernel
theorem dX9_estimateOfAll_7 : decode cX9_estimateOfAll 7 = .ok (.aload_n 0, 1) := by decide +kernel
theorem dX9_estimateOfAll_8 : decode cX9_estimateOfAll 8 = .ok (.getfield 28, 3) := by decide +kernel
theorem dX9_estimateOfAll_11 : decode cX9_estimateOfAll 11 = .ok (.if_icmp .ge 21, 3) := by decide +kernel
theorem dX9_estimateOfAll_14 : decode cX9_estimateOfAll 14 = .ok (.lload_n 2, 1) := by decide +kernel
theorem dX9_estimateOfAll_15 : decode cX9_estimateOfAll 15 = .ok (.aload_n 0, 1) := by decide +kernel
theorem dX9_estimateOfAll_16 : decode cX9_estimateOfAll 16 = .ok (.getfield 20, 3) := by decide +kernel
theorem dX9_estimateOfAll_19 : decode cX9_estimateOfAll 19 = .ok (.iload_n 1, 1) := by decide +kernel
theorem dX9_estimateOfAll_20 : decode cX9_estimateOfAll 20 = .ok (.aaload, 1) := by decide +kernel
theorem dX9_estimateOfAll_21 : decode cX9_estimateOfAll 21 = .ok (.iload 4, 2) := by decide +kernel
theorem dX9_estimateOfAll_23 : decode cX9_estimateOfAll 23 = .ok (.laload, 1) := by decide +kernel
theorem dX9_estimateOfAll_24 : decode cX9_estimateOfAll 24 = .ok (.ladd, 1) := by decide +kernel
theorem dX9_estimateOfAll_25 : decode cX9_estimateOfAll 25 = .ok (.lstore_n 2, 1) := by decide +kernel
theorem dX9_estimateOfAll_26 : decode cX9_estimateOfAll 26 = .ok (.iinc 4 1, 3) := by decide +kernel
theorem dX9_estimateOfAll_29 : decode cX9_estimateOfAll 29 = .ok (.goto (-24), 3) := by decide +kernel
theorem dX9_estimateOfAll_32 : decode cX9_estimateOfAll 32 = .ok (.lload_n 2, 1) := by decide +kernel
theorem dX9_estimateOfAll_33 : decode cX9_estimateOfAll 33 = .ok (.lreturn, 1) := by decide +kernel
set_option maxRecDepth 20000 in
theorem ggX9_marginOfAll_X9_margin : GoodIn wsX9_marginOfAll wsX9_margin := goodIn_r _ [6, 7, 8, 9, 5, 10, 11, 12, 13, 14, 15, 16, 17, 18, 19, 20, 21, 22, 23] rfl (by decide +kernel)
set_option maxRecDepth 20000 in
theorem gX9_marginOfAll_X9_margin : GoodIn wsX9_marginOfAll (va_wsS RX9 36 yX9_margin wsX9_margin) := goodIn_app (goodIn_of _ (by decide +kernel)) ggX9_marginOfAll_X9_margin
theorem dX9_marginOfAll_0 : decode cX9_marginOfAll 0 = .ok (.dconst 0, 1) := by decide +kernel
theorem dX9_marginOfAll_1 : decode cX9_marginOfAll 1 = .ok (.dstore_n 2, 1) := by decide +kernel
theorem dX9_marginOfAll_2 : decode cX9_marginOfAll 2 = .ok (.iconst 0, 1) := by decide +kernel
theorem dX9_marginOfAll_3 : decode cX9_marginOfAll 3 = .ok (.istore 4, 2) := by decide +kernel
theorem dX9_marginOfAll_5 : decode cX9_marginOfAll 5 = .ok (.iload 4, 2) := by decide +kernel
theorem dX9_marginOfAll_7 : decode cX9_marginOfAll 7 = .ok (.aload_n 0, 1) := by decide +kernel
theorem dX9_marginOfAll_8 : decode cX9_marginOfAll 8 = .ok (.getfield 28, 3) := by decide +kernel
theorem dX9_marginOfAll_11 : decode cX9_marginOfAll 11 = .ok (.if_icmp .ge 21, 3) := by decide +kernel
theorem dX9_marginOfAll_14 : decode cX9_marginOfAll 14 = .ok (.dload_n 2, 1) := by decide +kernel
theorem dX9_marginOfAll_15 : decode cX9_marginOfAll 15 = .ok (.aload_n 0, 1) := by decide +kernel
theorem dX9_marginOfAll_16 : decode cX9_marginOfAll 16 = .ok (.getfield 25, 3) := by decide +kernel
theorem dX9_marginOfAll_19 : decode cX9_marginOfAll 19 = .ok (.iload_n 1, 1) := by decide +kernel
theorem dX9_marginOfAll_20 : decode cX9_marginOfAll 20 = .ok (.aaload, 1) := by decide +kernel
theorem dX9_marginOfAll_21 : decode cX9_marginOfAll 21 = .ok (.iload 4, 2) := by decide +kernel
theorem dX9_marginOfAll_23 : decode cX9_marginOfAll 23 = .ok (.daload, 1) := by decide +kernel
theorem dX9_marginOfAll_24 : decode cX9_marginOfAll 24 = .ok (.dadd, 1) := by decide +kernel
theorem dX9_marginOfAll_25 : decode cX9_marginOfAll 25 = .ok (.dstore_n 2, 1) := by decide +kernel
theorem dX9_marginOfAll_26 : decode cX9_marginOfAll 26 = .ok (.iinc 4 1, 3) := by decide +kernel
theorem dX9_marginOfAll_29 : decode cX9_marginOfAll 29 = .ok (.goto (-24), 3) := by decide +kernel
theorem dX9_marginOfAll_32 : decode cX9_marginOfAll 32 = .ok (.dload_n 2, 1) := by decide +kernel
theorem dX9_marginOfAll_33 : decode cX9_marginOfAll 33 = .ok (.invokestatic 36, 3) := by decide +kernel
theorem dX9_marginOfAll_36 : decode cX9_marginOfAll 36 = .ok (.dreturn, 1) := by decide +kernel
set_option maxRecDepth 20000 in
theorem ggX9_indexWithRank_X9_rankOf : GoodIn wsX9_indexWithRank wsX9_rankOf := goodIn_ca (goodIn_r _ [6, 7, 1, 8, 9, 10, 11, 12] rfl (by decide +kernel)) (goodIn_sub (fun _ h => List.mem_cons_of_mem _ (List.mem_append_right _ h)) (by decide +kernel))
set_option maxRecDepth 20000 in
theorem gX9_indexWithRank_X9_rankOf : GoodIn wsX9_indexWithRank (wsV RX9 40 RX9 yX9_rankOf wsX9_rankOf) := goodIn_app (goodIn_of _ (by decide +kernel)) ggX9_indexWithRank_X9_rankOf
theorem dX9_indexWithRank_0 : decode cX9_indexWithRank 0 = .ok (.iconst 0, 1) := by decide +kernel
theorem dX9_indexWithRank_1 : decode cX9_indexWithRank 1 = .ok (.istore_n 3, 1) := by decide +kernel
theorem dX9_indexWithRank_2 : decode cX9_indexWithRank 2 = .ok (.iload_n 3, 1) := by decide +kernel
theorem dX9_indexWithRank_3 : decode cX9_indexWithRank 3 = .ok (.aload_n 0, 1) := by decide +kernel
theorem dX9_indexWithRank_4 : decode cX9_indexWithRank 4 = .ok (.getfield 28, 3) := by decide +kernel
theorem dX9_indexWithRank_7 : decode cX9_indexWithRank 7 = .ok (.if_icmp .ge 21, 3) := by decide +kernel
theorem dX9_indexWithRank_10 : decode cX9_indexWithRank 10 = .ok (.aload_n 0, 1) := by decide +kernel
theorem dX9_indexWithRank_11 : decode cX9_indexWithRank 11 = .ok (.iload_n 3, 1) := by decide +kernel
theorem dX9_indexWithRank_12 : decode cX9_indexWithRank 12 = .ok (.iload_n 2, 1) := by decide +kernel
theorem dX9_indexWithRank_13 : decode cX9_indexWithRank 13 = .ok (.invokevirtual 40, 3) := by decide +kernel
theorem dX9_indexWithRank_16 : decode cX9_indexWithRank 16 = .ok (.iload_n 1, 1) := by decide +kernel
theorem dX9_indexWithRank_17 : decode cX9_indexWithRank 17 = .ok (.if_icmp .ne 5, 3) := by decide +kernel
theorem dX9_indexWithRank_20 : decode cX9_indexWithRank 20 = .ok (.iload_n 3, 1) := by decide +kernel
theorem dX9_indexWithRank_21 : decode cX9_indexWithRank 21 = .ok (.ireturn, 1) := by decide +kernel
theorem dX9_indexWithRank_22 : decode cX9_indexWithRank 22 = .ok (.iinc 3 1, 3) := by decide +kernel
theorem dX9_indexWithRank_25 : decode cX9_indexWithRank 25 = .ok (.goto (-23), 3) := by decide +kernel
theorem dX9_indexWithRank_28 : decode cX9_indexWithRank 28 = .ok (.iconst (-1), 1) := by decide +kernel
theorem dX9_indexWithRank_29 : decode cX9_indexWithRank 29 = .ok (.ireturn, 1) := by decide +kernel
theorem dX9_rankOf_0 : decode cX9_rankOf 0 = .ok (.aload_n 0, 1) := by decide +kernel
theorem dX9_rankOf_1 : decode cX9_rankOf 1 = .ok (.getfield 20, 3) := by decide +kernel
theorem dX9_rankOf_4 : decode cX9_rankOf 4 = .ok (.iload_n 2, 1) := by decide +kernel
theorem dX9_rankOf_5 : decode cX9_rankOf 5 = .ok (.aaload, 1) := by decide +kernel
theorem dX9_rankOf_6 : decode cX9_rankOf 6 = .ok (.iload_n 1, 1) := by decide +kernel
theorem dX9_rankOf_7 : decode cX9_rankOf 7 = .ok (.laload, 1) := by decide +kernel
theorem dX9_rankOf_8 : decode cX9_rankOf 8 = .ok (.lstore_n 3, 1) := by decide +kernel
theorem dX9_rankOf_9 : decode cX9_rankOf 9 = .ok (.iconst 0, 1) := by decide +kernel
theorem dX9_rankOf_10 : decode cX9_rankOf 10 = .ok (.istore 5, 2) := by decide +kernel
theorem dX9_rankOf_12 : decode cX9_rankOf 12 = .ok (.iconst 0, 1) := by decide +kernel
theorem dX9_rankOf_13 : decode cX9_rankOf 13 = .ok (.istore 6, 2) := by decide +kernel
theorem dX9_rankOf_15 : decode cX9_rankOf 15 = .ok (.iload 6, 2) := by decide +kernel
theorem dX9_rankOf_17 : decode cX9_rankOf 17 = .ok (.aload_n 0, 1) := by decide +kernel
theorem dX9_rankOf_18 : decode cX9_rankOf 18 = .ok (.getfield 28, 3) := by decide +kernel
theorem dX9_rankOf_21 : decode cX9_rankOf 21 = .ok (.if_icmp .ge 43, 3) := by decide +kernel
theorem dX9_rankOf_24 : decode cX9_rankOf 24 = .ok (.aload_n 0, 1) := by decide +kernel
theorem dX9_rankOf_25 : decode cX9_rankOf 25 = .ok (.getfield 20, 3) := by decide +kernel
theorem dX9_rankOf_28 : decode cX9_rankOf 28 = .ok (.iload_n 2, 1) := by decide +kernel
theorem dX9_rankOf_29 : decode cX9_rankOf 29 = .ok (.aaload, 1) := by decide +kernel
theorem dX9_rankOf_30 : decode cX9_rankOf 30 = .ok (.iload 6, 2) := by decide +kernel
theorem dX9_rankOf_32 : decode cX9_rankOf 32 = .ok (.laload, 1) := by decide +kernel
theorem dX9_rankOf_33 : decode cX9_rankOf 33 = .ok (.lstore 7, 2) := by decide +kernel
theorem dX9_rankOf_35 : decode cX9_rankOf 35 = .ok (.lload 7, 2) := by decide +kernel
theorem dX9_rankOf_37 : decode cX9_rankOf 37 = .ok (.lload_n 3, 1) := by decide +kernel
theorem dX9_rankOf_38 : decode cX9_rankOf 38 = .ok (.lcmp, 1) := by decide +kernel
theorem dX9_rankOf_39 : decode cX9_rankOf 39 = .ok (.ifCond .gt 16, 3) := by decide +kernel
theorem dX9_rankOf_42 : decode cX9_rankOf 42 = .ok (.lload 7, 2) := by decide +kernel
theorem dX9_rankOf_44 : decode cX9_rankOf 44 = .ok (.lload_n 3, 1) := by decide +kernel
theorem dX9_rankOf_45 : decode cX9_rankOf 45 = .ok (.lcmp, 1) := by decide +kernel
theorem dX9_rankOf_46 : decode cX9_rankOf 46 = .ok (.ifCond .ne 12, 3) := by decide +kernel
theorem dX9_rankOf_49 : decode cX9_rankOf 49 = .ok (.iload 6, 2) := by decide +kernel
theorem dX9_rankOf_51 : decode cX9_rankOf 51 = .ok (.iload_n 1, 1) := by decide +kernel
theorem dX9_rankOf_52 : decode cX9_rankOf 52 = .ok (.if_icmp .ge 6, 3) := by decide +kernel
theorem dX9_rankOf_55 : decode cX9_rankOf 55 = .ok (.iinc 5 1, 3) := by decide +kernel
theorem dX9_rankOf_58 : decode cX9_rankOf 58 = .ok (.iinc 6 1, 3) := by decide +kernel
theorem dX9_rankOf_61 : decode cX9_rankOf 61 = .ok (.goto (-46), 3) := by decide +kernel
theorem dX9_rankOf_64 : decode cX9_rankOf 64 = .ok (.iload 5, 2) := by decide +kernel
theorem dX9_rankOf_66 : decode cX9_rankOf 66 = .ok (.ireturn, 1) := by decide +kernel
set_option maxRecDepth 20000 in
theorem ggX9_margin_X9_root : GoodIn wsX9_margin wsX9_root := goodIn_r _ [5, 6, 7, 8, 9, 10, 4, 11, 12, 13, 14, 15, 16, 17, 18] rfl (by decide +kernel)
set_option maxRecDepth 20000 in
theorem gX9_margin_X9_root : GoodIn wsX9_margin (va_wsS RX9 46 yX9_root wsX9_root) := goodIn_app (goodIn_of _ (by decide +kernel)) ggX9_margin_X9_root
theorem dX9_margin_0 : decode cX9_margin 0 = .ok (.ldc2_w 44, 3) := by decide +kernel
theorem dX9_margin_3 : decode cX9_margin 3 = .ok (.dload_n 0, 1) := by decide +kernel
theorem dX9_margin_4 : decode cX9_margin 4 = .ok (.invokestatic 46, 3) := by decide +kernel
theorem dX9_margin_7 : decode cX9_margin 7 = .ok (.dmul, 1) := by decide +kernel
theorem dX9_margin_8 : decode cX9_margin 8 = .ok (.dreturn, 1) := by decide +kernel
set_option maxRecDepth 20000 in
theorem ggX9_root_X9_scaledRoot : GoodIn wsX9_root wsX9_scaledRoot := goodIn_r _ [7, 8, 9, 10] rfl (by decide +kernel)
set_option maxRecDepth 20000 in
theorem gX9_root_X9_scaledRoot : GoodIn wsX9_root (va_wsS RX9 55 yX9_scaledRoot wsX9_scaledRoot) := goodIn_app (goodIn_of _ (by decide +kernel)) ggX9_root_X9_scaledRoot
set_option maxRecDepth 20000 in
theorem ggX9_root_X9_timesPowerOfTwo : GoodIn wsX9_root wsX9_timesPowerOfTwo := goodIn_r _ [13, 14] rfl (by decide +kernel)
set_option maxRecDepth 20000 in
theorem gX9_root_X9_timesPowerOfTwo : GoodIn wsX9_root (va_wsS RX9 59 yX9_timesPowerOfTwo wsX9_timesPowerOfTwo) := goodIn_app (goodIn_of _ (by decide +kernel)) ggX9_root_X9_timesPowerOfTwo
theorem dX9_root_0 : decode cX9_root 0 = .ok (.dload_n 0, 1) := by decide +kernel
theorem dX9_root_1 : decode cX9_root 1 = .ok (.dconst 0, 1) := by decide +kernel
theorem dX9_root_2 : decode cX9_root 2 = .ok (.dcmp .l, 1) := by decide +kernel
theorem dX9_root_3 : decode cX9_root 3 = .ok (.ifCond .gt 5, 3) := by decide +kernel
theorem dX9_root_6 : decode cX9_root 6 = .ok (.dconst 0, 1) := by decide +kernel
theorem dX9_root_7 : decode cX9_root 7 = .ok (.dreturn, 1) := by decide +kernel
theorem dX9_root_8 : decode cX9_root 8 = .ok (.dload_n 0, 1) := by decide +kernel
theorem dX9_root_9 : decode cX9_root 9 = .ok (.dstore_n 2, 1) := by decide +kernel
theorem dX9_root_10 : decode cX9_root 10 = .ok (.iconst 0, 1) := by decide +kernel
theorem dX9_root_11 : decode cX9_root 11 = .ok (.istore 4, 2) := by decide +kernel
theorem dX9_root_13 : decode cX9_root 13 = .ok (.iconst 0, 1) := by decide +kernel
theorem dX9_root_14 : decode cX9_root 14 = .ok (.istore 5, 2) := by decide +kernel
theorem dX9_root_16 : decode cX9_root 16 = .ok (.iload 5, 2) := by decide +kernel
theorem dX9_root_18 : decode cX9_root 18 = .ok (.sipush 600, 3) := by decide +kernel
theorem dX9_root_21 : decode cX9_root 21 = .ok (.if_icmp .ge 26, 3) := by decide +kernel
theorem dX9_root_24 : decode cX9_root 24 = .ok (.dload_n 2, 1) := by decide +kernel
theorem dX9_root_25 : decode cX9_root 25 = .ok (.ldc2_w 49, 3) := by decide +kernel
theorem dX9_root_28 : decode cX9_root 28 = .ok (.dcmp .l, 1) := by decide +kernel
theorem dX9_root_29 : decode cX9_root 29 = .ok (.ifCond .lt 18, 3) := by decide +kernel
theorem dX9_root_32 : decode cX9_root 32 = .ok (.dload_n 2, 1) := by decide +kernel
theorem dX9_root_33 : decode cX9_root 33 = .ok (.ldc2_w 51, 3) := by decide +kernel
theorem dX9_root_36 : decode cX9_root 36 = .ok (.ddiv, 1) := by decide +kernel
theorem dX9_root_37 : decode cX9_root 37 = .ok (.dstore_n 2, 1) := by decide +kernel
theorem dX9_root_38 : decode cX9_root 38 = .ok (.iinc 4 1, 3) := by decide +kernel
theorem dX9_root_41 : decode cX9_root 41 = .ok (.iinc 5 1, 3) := by decide +kernel
theorem dX9_root_44 : decode cX9_root 44 = .ok (.goto (-28), 3) := by decide +kernel
theorem dX9_root_47 : decode cX9_root 47 = .ok (.iconst 0, 1) := by decide +kernel
theorem dX9_root_48 : decode cX9_root 48 = .ok (.istore 5, 2) := by decide +kernel
theorem dX9_root_50 : decode cX9_root 50 = .ok (.iload 5, 2) := by decide +kernel
theorem dX9_root_52 : decode cX9_root 52 = .ok (.sipush 600, 3) := by decide +kernel
theorem dX9_root_55 : decode cX9_root 55 = .ok (.if_icmp .ge 26, 3) := by decide +kernel
theorem dX9_root_58 : decode cX9_root 58 = .ok (.dload_n 2, 1) := by decide +kernel
theorem dX9_root_59 : decode cX9_root 59 = .ok (.ldc2_w 53, 3) := by decide +kernel
theorem dX9_root_62 : decode cX9_root 62 = .ok (.dcmp .g, 1) := by decide +kernel
theorem dX9_root_63 : decode cX9_root 63 = .ok (.ifCond .ge 18, 3) := by decide +kernel
theorem dX9_root_66 : decode cX9_root 66 = .ok (.dload_n 2, 1) := by decide +kernel
theorem dX9_root_67 : decode cX9_root 67 = .ok (.ldc2_w 51, 3) := by decide +kernel
theorem dX9_root_70 : decode cX9_root 70 = .ok (.dmul, 1) := by decide +kernel
theorem dX9_root_71 : decode cX9_root 71 = .ok (.dstore_n 2, 1) := by decide +kernel
theorem dX9_root_72 : decode cX9_root 72 = .ok (.iinc 4 (-1), 3) := by decide +kernel
theorem dX9_root_75 : decode cX9_root 75 = .ok (.iinc 5 1, 3) := by decide +kernel
theorem dX9_root_78 : decode cX9_root 78 = .ok (.goto (-28), 3) := by decide +kernel
theorem dX9_root_81 : decode cX9_root 81 = .ok (.dload_n 2, 1) := by decide +kernel
theorem dX9_root_82 : decode cX9_root 82 = .ok (.d2l, 1) := by decide +kernel
theorem dX9_root_83 : decode cX9_root 83 = .ok (.invokestatic 55, 3) := by decide +kernel
theorem dX9_root_86 : decode cX9_root 86 = .ok (.iload 4, 2) := by decide +kernel
theorem dX9_root_88 : decode cX9_root 88 = .ok (.bipush 26, 2) := by decide +kernel
theorem dX9_root_90 : decode cX9_root 90 = .ok (.isub, 1) := by decide +kernel
theorem dX9_root_91 : decode cX9_root 91 = .ok (.invokestatic 59, 3) := by decide +kernel
theorem dX9_root_94 : decode cX9_root 94 = .ok (.dreturn, 1) := by decide +kernel
theorem dX9_scaledRoot_0 : decode cX9_scaledRoot 0 = .ok (.lconst 0, 1) := by decide +kernel
theorem dX9_scaledRoot_1 : decode cX9_scaledRoot 1 = .ok (.lstore_n 2, 1) := by decide +kernel
theorem dX9_scaledRoot_2 : decode cX9_scaledRoot 2 = .ok (.lconst 0, 1) := by decide +kernel
theorem dX9_scaledRoot_3 : decode cX9_scaledRoot 3 = .ok (.lstore 4, 2) := by decide +kernel
theorem dX9_scaledRoot_5 : decode cX9_scaledRoot 5 = .ok (.bipush 52, 2) := by decide +kernel
theorem dX9_scaledRoot_7 : decode cX9_scaledRoot 7 = .ok (.istore 6, 2) := by decide +kernel
theorem dX9_scaledRoot_9 : decode cX9_scaledRoot 9 = .ok (.iload 6, 2) := by decide +kernel
theorem dX9_scaledRoot_11 : decode cX9_scaledRoot 11 = .ok (.ifCond .lt 80, 3) := by decide +kernel
theorem dX9_scaledRoot_14 : decode cX9_scaledRoot 14 = .ok (.iload 6, 2) := by decide +kernel
theorem dX9_scaledRoot_16 : decode cX9_scaledRoot 16 = .ok (.bipush 26, 2) := by decide +kernel
theorem dX9_scaledRoot_18 : decode cX9_scaledRoot 18 = .ok (.if_icmp .lt 19, 3) := by decide +kernel
theorem dX9_scaledRoot_21 : decode cX9_scaledRoot 21 = .ok (.lload_n 0, 1) := by decide +kernel
theorem dX9_scaledRoot_22 : decode cX9_scaledRoot 22 = .ok (.iconst 2, 1) := by decide +kernel
theorem dX9_scaledRoot_23 : decode cX9_scaledRoot 23 = .ok (.iload 6, 2) := by decide +kernel
theorem dX9_scaledRoot_25 : decode cX9_scaledRoot 25 = .ok (.bipush 26, 2) := by decide +kernel
theorem dX9_scaledRoot_27 : decode cX9_scaledRoot 27 = .ok (.isub, 1) := by decide +kernel
theorem dX9_scaledRoot_28 : decode cX9_scaledRoot 28 = .ok (.imul, 1) := by decide +kernel
theorem dX9_scaledRoot_29 : decode cX9_scaledRoot 29 = .ok (.lshr, 1) := by decide +kernel
theorem dX9_scaledRoot_30 : decode cX9_scaledRoot 30 = .ok (.ldc2_w 63, 3) := by decide +kernel
theorem dX9_scaledRoot_33 : decode cX9_scaledRoot 33 = .ok (.land, 1) := by decide +kernel
theorem dX9_scaledRoot_34 : decode cX9_scaledRoot 34 = .ok (.goto 4, 3) := by decide +kernel
theorem dX9_scaledRoot_37 : decode cX9_scaledRoot 37 = .ok (.lconst 0, 1) := by decide +kernel
theorem dX9_scaledRoot_38 : decode cX9_scaledRoot 38 = .ok (.lstore 7, 2) := by decide +kernel
theorem dX9_scaledRoot_40 : decode cX9_scaledRoot 40 = .ok (.ldc2_w 65, 3) := by decide +kernel
theorem dX9_scaledRoot_43 : decode cX9_scaledRoot 43 = .ok (.lload_n 2, 1) := by decide +kernel
theorem dX9_scaledRoot_44 : decode cX9_scaledRoot 44 = .ok (.lmul, 1) := by decide +kernel
theorem dX9_scaledRoot_45 : decode cX9_scaledRoot 45 = .ok (.lconst 1, 1) := by decide +kernel
theorem dX9_scaledRoot_46 : decode cX9_scaledRoot 46 = .ok (.ladd, 1) := by decide +kernel
theorem dX9_scaledRoot_47 : decode cX9_scaledRoot 47 = .ok (.lstore 9, 2) := by decide +kernel
theorem dX9_scaledRoot_49 : decode cX9_scaledRoot 49 = .ok (.ldc2_w 65, 3) := by decide +kernel
theorem dX9_scaledRoot_52 : decode cX9_scaledRoot 52 = .ok (.lload 4, 2) := by decide +kernel
theorem dX9_scaledRoot_54 : decode cX9_scaledRoot 54 = .ok (.lmul, 1) := by decide +kernel
theorem dX9_scaledRoot_55 : decode cX9_scaledRoot 55 = .ok (.lload 7, 2) := by decide +kernel
theorem dX9_scaledRoot_57 : decode cX9_scaledRoot 57 = .ok (.ladd, 1) := by decide +kernel
theorem dX9_scaledRoot_58 : decode cX9_scaledRoot 58 = .ok (.lstore 4, 2) := by decide +kernel
theorem dX9_scaledRoot_60 : decode cX9_scaledRoot 60 = .ok (.ldc2_w 67, 3) := by decide +kernel
theorem dX9_scaledRoot_63 : decode cX9_scaledRoot 63 = .ok (.lload_n 2, 1) := by decide +kernel
theorem dX9_scaledRoot_64 : decode cX9_scaledRoot 64 = .ok (.lmul, 1) := by decide +kernel
theorem dX9_scaledRoot_65 : decode cX9_scaledRoot 65 = .ok (.lstore_n 2, 1) := by decide +kernel
theorem dX9_scaledRoot_66 : decode cX9_scaledRoot 66 = .ok (.lload 4, 2) := by decide +kernel
theorem dX9_scaledRoot_68 : decode cX9_scaledRoot 68 = .ok (.lload 9, 2) := by decide +kernel
theorem dX9_scaledRoot_70 : decode cX9_scaledRoot 70 = .ok (.lcmp, 1) := by decide +kernel
theorem dX9_scaledRoot_71 : decode cX9_scaledRoot 71 = .ok (.ifCond .lt 14, 3) := by decide +kernel
theorem dX9_scaledRoot_74 : decode cX9_scaledRoot 74 = .ok (.lload 4, 2) := by decide +kernel
theorem dX9_scaledRoot_76 : decode cX9_scaledRoot 76 = .ok (.lload 9, 2) := by decide +kernel
theorem dX9_scaledRoot_78 : decode cX9_scaledRoot 78 = .ok (.lsub, 1) := by decide +kernel
theorem dX9_scaledRoot_79 : decode cX9_scaledRoot 79 = .ok (.lstore 4, 2) := by decide +kernel
theorem dX9_scaledRoot_81 : decode cX9_scaledRoot 81 = .ok (.lload_n 2, 1) := by decide +kernel
theorem dX9_scaledRoot_82 : decode cX9_scaledRoot 82 = .ok (.lconst 1, 1) := by decide +kernel
theorem dX9_scaledRoot_83 : decode cX9_scaledRoot 83 = .ok (.ladd, 1) := by decide +kernel
theorem dX9_scaledRoot_84 : decode cX9_scaledRoot 84 = .ok (.lstore_n 2, 1) := by decide +kernel
theorem dX9_scaledRoot_85 : decode cX9_scaledRoot 85 = .ok (.iinc 6 (-1), 3) := by decide +kernel
theorem dX9_scaledRoot_88 : decode cX9_scaledRoot 88 = .ok (.goto (-79), 3) := by decide +kernel
theorem dX9_scaledRoot_91 : decode cX9_scaledRoot 91 = .ok (.lload 4, 2) := by decide +kernel
theorem dX9_scaledRoot_93 : decode cX9_scaledRoot 93 = .ok (.lload_n 2, 1) := by decide +kernel
theorem dX9_scaledRoot_94 : decode cX9_scaledRoot 94 = .ok (.lcmp, 1) := by decide +kernel
theorem dX9_scaledRoot_95 : decode cX9_scaledRoot 95 = .ok (.ifCond .le 9, 3) := by decide +kernel
theorem dX9_scaledRoot_98 : decode cX9_scaledRoot 98 = .ok (.lload_n 2, 1) := by decide +kernel
theorem dX9_scaledRoot_99 : decode cX9_scaledRoot 99 = .ok (.lconst 1, 1) := by decide +kernel
theorem dX9_scaledRoot_100 : decode cX9_scaledRoot 100 = .ok (.ladd, 1) := by decide +kernel
theorem dX9_scaledRoot_101 : decode cX9_scaledRoot 101 = .ok (.goto 4, 3) := by decide +kernel
theorem dX9_scaledRoot_104 : decode cX9_scaledRoot 104 = .ok (.lload_n 2, 1) := by decide +kernel
theorem dX9_scaledRoot_105 : decode cX9_scaledRoot 105 = .ok (.lreturn, 1) := by decide +kernel
theorem dX9_timesPowerOfTwo_0 : decode cX9_timesPowerOfTwo 0 = .ok (.lload_n 0, 1) := by decide +kernel
theorem dX9_timesPowerOfTwo_1 : decode cX9_timesPowerOfTwo 1 = .ok (.l2d, 1) := by decide +kernel
theorem dX9_timesPowerOfTwo_2 : decode cX9_timesPowerOfTwo 2 = .ok (.dstore_n 3, 1) := by decide +kernel
theorem dX9_timesPowerOfTwo_3 : decode cX9_timesPowerOfTwo 3 = .ok (.iconst 0, 1) := by decide +kernel
theorem dX9_timesPowerOfTwo_4 : decode cX9_timesPowerOfTwo 4 = .ok (.istore 5, 2) := by decide +kernel
theorem dX9_timesPowerOfTwo_6 : decode cX9_timesPowerOfTwo 6 = .ok (.iload 5, 2) := by decide +kernel
theorem dX9_timesPowerOfTwo_8 : decode cX9_timesPowerOfTwo 8 = .ok (.iload_n 2, 1) := by decide +kernel
theorem dX9_timesPowerOfTwo_9 : decode cX9_timesPowerOfTwo 9 = .ok (.if_icmp .ge 15, 3) := by decide +kernel
theorem dX9_timesPowerOfTwo_12 : decode cX9_timesPowerOfTwo 12 = .ok (.dload_n 3, 1) := by decide +kernel
theorem dX9_timesPowerOfTwo_13 : decode cX9_timesPowerOfTwo 13 = .ok (.ldc2_w 69, 3) := by decide +kernel
theorem dX9_timesPowerOfTwo_16 : decode cX9_timesPowerOfTwo 16 = .ok (.dmul, 1) := by decide +kernel
theorem dX9_timesPowerOfTwo_17 : decode cX9_timesPowerOfTwo 17 = .ok (.dstore_n 3, 1) := by decide +kernel
theorem dX9_timesPowerOfTwo_18 : decode cX9_timesPowerOfTwo 18 = .ok (.iinc 5 1, 3) := by decide +kernel
theorem dX9_timesPowerOfTwo_21 : decode cX9_timesPowerOfTwo 21 = .ok (.goto (-15), 3) := by decide +kernel
theorem dX9_timesPowerOfTwo_24 : decode cX9_timesPowerOfTwo 24 = .ok (.iload_n 2, 1) := by decide +kernel
theorem dX9_timesPowerOfTwo_25 : decode cX9_timesPowerOfTwo 25 = .ok (.istore 5, 2) := by decide +kernel
theorem dX9_timesPowerOfTwo_27 : decode cX9_timesPowerOfTwo 27 = .ok (.iload 5, 2) := by decide +kernel
theorem dX9_timesPowerOfTwo_29 : decode cX9_timesPowerOfTwo 29 = .ok (.ifCond .ge 15, 3) := by decide +kernel
theorem dX9_timesPowerOfTwo_32 : decode cX9_timesPowerOfTwo 32 = .ok (.dload_n 3, 1) := by decide +kernel
theorem dX9_timesPowerOfTwo_33 : decode cX9_timesPowerOfTwo 33 = .ok (.ldc2_w 69, 3) := by decide +kernel
theorem dX9_timesPowerOfTwo_36 : decode cX9_timesPowerOfTwo 36 = .ok (.ddiv, 1) := by decide +kernel
theorem dX9_timesPowerOfTwo_37 : decode cX9_timesPowerOfTwo 37 = .ok (.dstore_n 3, 1) := by decide +kernel
theorem dX9_timesPowerOfTwo_38 : decode cX9_timesPowerOfTwo 38 = .ok (.iinc 5 1, 3) := by decide +kernel
theorem dX9_timesPowerOfTwo_41 : decode cX9_timesPowerOfTwo 41 = .ok (.goto (-14), 3) := by decide +kernel
theorem dX9_timesPowerOfTwo_44 : decode cX9_timesPowerOfTwo 44 = .ok (.dload_n 3, 1) := by decide +kernel
theorem dX9_timesPowerOfTwo_45 : decode cX9_timesPowerOfTwo 45 = .ok (.dreturn, 1) := by decide +kernel

theorem dX9_indexOf_0 : decode cX9_indexOf 0 = .ok (.iconst 0, 1) := by decide +kernel
theorem dX9_indexOf_1 : decode cX9_indexOf 1 = .ok (.istore_n 3, 1) := by decide +kernel
theorem dX9_indexOf_2 : decode cX9_indexOf 2 = .ok (.iload_n 3, 1) := by decide +kernel
theorem dX9_indexOf_3 : decode cX9_indexOf 3 = .ok (.aload_n 0, 1) := by decide +kernel
theorem dX9_indexOf_4 : decode cX9_indexOf 4 = .ok (.getfield 28, 3) := by decide +kernel
theorem dX9_indexOf_7 : decode cX9_indexOf 7 = .ok (.if_icmp .ge 22, 3) := by decide +kernel
theorem dX9_indexOf_10 : decode cX9_indexOf 10 = .ok (.aload_n 0, 1) := by decide +kernel
theorem dX9_indexOf_11 : decode cX9_indexOf 11 = .ok (.getfield 9, 3) := by decide +kernel
theorem dX9_indexOf_14 : decode cX9_indexOf 14 = .ok (.iload_n 3, 1) := by decide +kernel
theorem dX9_indexOf_15 : decode cX9_indexOf 15 = .ok (.laload, 1) := by decide +kernel
theorem dX9_indexOf_16 : decode cX9_indexOf 16 = .ok (.lload_n 1, 1) := by decide +kernel
theorem dX9_indexOf_17 : decode cX9_indexOf 17 = .ok (.lcmp, 1) := by decide +kernel
theorem dX9_indexOf_18 : decode cX9_indexOf 18 = .ok (.ifCond .ne 5, 3) := by decide +kernel
theorem dX9_indexOf_21 : decode cX9_indexOf 21 = .ok (.iload_n 3, 1) := by decide +kernel
theorem dX9_indexOf_22 : decode cX9_indexOf 22 = .ok (.ireturn, 1) := by decide +kernel
theorem dX9_indexOf_23 : decode cX9_indexOf 23 = .ok (.iinc 3 1, 3) := by decide +kernel
theorem dX9_indexOf_26 : decode cX9_indexOf 26 = .ok (.goto (-24), 3) := by decide +kernel
theorem dX9_indexOf_29 : decode cX9_indexOf 29 = .ok (.iconst (-1), 1) := by decide +kernel
theorem dX9_indexOf_30 : decode cX9_indexOf 30 = .ok (.ireturn, 1) := by decide +kernel
set_option maxRecDepth 20000 in
theorem ggX9_indexOrNew_X9_indexOf : GoodIn wsX9_indexOrNew wsX9_indexOf := goodIn_ca ((goodIn_ca (goodIn_r _ [10, 1, 2] rfl (by decide +kernel)) (goodIn_sub (fun _ h => List.mem_cons_of_mem _ (List.mem_append_left _ (List.mem_append_right _ h))) gw_wsX90))) (goodIn_sub (fun _ h => List.mem_cons_of_mem _ (List.mem_append_right _ h)) (all_fg _))
set_option maxRecDepth 20000 in
theorem gX9_indexOrNew_X9_indexOf : GoodIn wsX9_indexOrNew (wsV RX9 32 RX9 yX9_indexOf wsX9_indexOf) := goodIn_app (goodIn_m (mem_cA (List.mem_cons_of_mem _ (List.mem_append_left _ (List.mem_append_left _ (List.mem_of_getElem? (i := 5) rfl)))) (mem_cA (List.mem_cons_of_mem _ (List.mem_append_left _ (List.mem_append_left _ (List.mem_of_getElem? (i := 6) rfl)))) (mem_cA (List.mem_cons_of_mem _ (List.mem_append_left _ (List.mem_append_left _ (List.mem_of_getElem? (i := 7) rfl)))) (mem_cA (List.mem_cons_of_mem _ (List.mem_append_left _ (List.mem_append_left _ (List.mem_of_getElem? (i := 8) rfl)))) mem_cZ)))) (by decide +kernel)) ggX9_indexOrNew_X9_indexOf
theorem dX9_indexOrNew_0 : decode cX9_indexOrNew 0 = .ok (.aload_n 0, 1) := by decide +kernel
theorem dX9_indexOrNew_1 : decode cX9_indexOrNew 1 = .ok (.lload_n 1, 1) := by decide +kernel
theorem dX9_indexOrNew_2 : decode cX9_indexOrNew 2 = .ok (.invokevirtual 32, 3) := by decide +kernel
theorem dX9_indexOrNew_5 : decode cX9_indexOrNew 5 = .ok (.istore_n 3, 1) := by decide +kernel
theorem dX9_indexOrNew_6 : decode cX9_indexOrNew 6 = .ok (.iload_n 3, 1) := by decide +kernel
theorem dX9_indexOrNew_7 : decode cX9_indexOrNew 7 = .ok (.iconst (-1), 1) := by decide +kernel
theorem dX9_indexOrNew_8 : decode cX9_indexOrNew 8 = .ok (.if_icmp .ne 12, 3) := by decide +kernel
theorem dX9_indexOrNew_11 : decode cX9_indexOrNew 11 = .ok (.aload_n 0, 1) := by decide +kernel
theorem dX9_indexOrNew_12 : decode cX9_indexOrNew 12 = .ok (.getfield 28, 3) := by decide +kernel
theorem dX9_indexOrNew_15 : decode cX9_indexOrNew 15 = .ok (.bipush 24, 2) := by decide +kernel
theorem dX9_indexOrNew_17 : decode cX9_indexOrNew 17 = .ok (.if_icmp .lt 5, 3) := by decide +kernel
theorem dX9_indexOrNew_20 : decode cX9_indexOrNew 20 = .ok (.iload_n 3, 1) := by decide +kernel
theorem dX9_indexOrNew_21 : decode cX9_indexOrNew 21 = .ok (.ireturn, 1) := by decide +kernel
theorem dX9_indexOrNew_22 : decode cX9_indexOrNew 22 = .ok (.aload_n 0, 1) := by decide +kernel
theorem dX9_indexOrNew_23 : decode cX9_indexOrNew 23 = .ok (.getfield 9, 3) := by decide +kernel
theorem dX9_indexOrNew_26 : decode cX9_indexOrNew 26 = .ok (.aload_n 0, 1) := by decide +kernel
theorem dX9_indexOrNew_27 : decode cX9_indexOrNew 27 = .ok (.getfield 28, 3) := by decide +kernel
theorem dX9_indexOrNew_30 : decode cX9_indexOrNew 30 = .ok (.lload_n 1, 1) := by decide +kernel
theorem dX9_indexOrNew_31 : decode cX9_indexOrNew 31 = .ok (.lastore, 1) := by decide +kernel
theorem dX9_indexOrNew_32 : decode cX9_indexOrNew 32 = .ok (.iconst 0, 1) := by decide +kernel
theorem dX9_indexOrNew_33 : decode cX9_indexOrNew 33 = .ok (.istore 4, 2) := by decide +kernel
theorem dX9_indexOrNew_35 : decode cX9_indexOrNew 35 = .ok (.iload 4, 2) := by decide +kernel
theorem dX9_indexOrNew_37 : decode cX9_indexOrNew 37 = .ok (.iconst 2, 1) := by decide +kernel
theorem dX9_indexOrNew_38 : decode cX9_indexOrNew 38 = .ok (.if_icmp .ge 48, 3) := by decide +kernel
theorem dX9_indexOrNew_41 : decode cX9_indexOrNew 41 = .ok (.aload_n 0, 1) := by decide +kernel
theorem dX9_indexOrNew_42 : decode cX9_indexOrNew 42 = .ok (.getfield 17, 3) := by decide +kernel
theorem dX9_indexOrNew_45 : decode cX9_indexOrNew 45 = .ok (.iload 4, 2) := by decide +kernel
theorem dX9_indexOrNew_47 : decode cX9_indexOrNew 47 = .ok (.aaload, 1) := by decide +kernel
theorem dX9_indexOrNew_48 : decode cX9_indexOrNew 48 = .ok (.aload_n 0, 1) := by decide +kernel
theorem dX9_indexOrNew_49 : decode cX9_indexOrNew 49 = .ok (.getfield 28, 3) := by decide +kernel
theorem dX9_indexOrNew_52 : decode cX9_indexOrNew 52 = .ok (.lconst 0, 1) := by decide +kernel
theorem dX9_indexOrNew_53 : decode cX9_indexOrNew 53 = .ok (.lastore, 1) := by decide +kernel
theorem dX9_indexOrNew_54 : decode cX9_indexOrNew 54 = .ok (.aload_n 0, 1) := by decide +kernel
theorem dX9_indexOrNew_55 : decode cX9_indexOrNew 55 = .ok (.getfield 20, 3) := by decide +kernel
theorem dX9_indexOrNew_58 : decode cX9_indexOrNew 58 = .ok (.iload 4, 2) := by decide +kernel
theorem dX9_indexOrNew_60 : decode cX9_indexOrNew 60 = .ok (.aaload, 1) := by decide +kernel
theorem dX9_indexOrNew_61 : decode cX9_indexOrNew 61 = .ok (.aload_n 0, 1) := by decide +kernel
theorem dX9_indexOrNew_62 : decode cX9_indexOrNew 62 = .ok (.getfield 28, 3) := by decide +kernel
theorem dX9_indexOrNew_65 : decode cX9_indexOrNew 65 = .ok (.lconst 0, 1) := by decide +kernel
theorem dX9_indexOrNew_66 : decode cX9_indexOrNew 66 = .ok (.lastore, 1) := by decide +kernel
theorem dX9_indexOrNew_67 : decode cX9_indexOrNew 67 = .ok (.aload_n 0, 1) := by decide +kernel
theorem dX9_indexOrNew_68 : decode cX9_indexOrNew 68 = .ok (.getfield 25, 3) := by decide +kernel
theorem dX9_indexOrNew_71 : decode cX9_indexOrNew 71 = .ok (.iload 4, 2) := by decide +kernel
theorem dX9_indexOrNew_73 : decode cX9_indexOrNew 73 = .ok (.aaload, 1) := by decide +kernel
theorem dX9_indexOrNew_74 : decode cX9_indexOrNew 74 = .ok (.aload_n 0, 1) := by decide +kernel
theorem dX9_indexOrNew_75 : decode cX9_indexOrNew 75 = .ok (.getfield 28, 3) := by decide +kernel
theorem dX9_indexOrNew_78 : decode cX9_indexOrNew 78 = .ok (.dconst 0, 1) := by decide +kernel
theorem dX9_indexOrNew_79 : decode cX9_indexOrNew 79 = .ok (.dastore, 1) := by decide +kernel
theorem dX9_indexOrNew_80 : decode cX9_indexOrNew 80 = .ok (.iinc 4 1, 3) := by decide +kernel
theorem dX9_indexOrNew_83 : decode cX9_indexOrNew 83 = .ok (.goto (-48), 3) := by decide +kernel
theorem dX9_indexOrNew_86 : decode cX9_indexOrNew 86 = .ok (.aload_n 0, 1) := by decide +kernel
theorem dX9_indexOrNew_87 : decode cX9_indexOrNew 87 = .ok (.dup, 1) := by decide +kernel
theorem dX9_indexOrNew_88 : decode cX9_indexOrNew 88 = .ok (.getfield 28, 3) := by decide +kernel
theorem dX9_indexOrNew_91 : decode cX9_indexOrNew 91 = .ok (.iconst 1, 1) := by decide +kernel
theorem dX9_indexOrNew_92 : decode cX9_indexOrNew 92 = .ok (.iadd, 1) := by decide +kernel
theorem dX9_indexOrNew_93 : decode cX9_indexOrNew 93 = .ok (.putfield 28, 3) := by decide +kernel
theorem dX9_indexOrNew_96 : decode cX9_indexOrNew 96 = .ok (.aload_n 0, 1) := by decide +kernel
theorem dX9_indexOrNew_97 : decode cX9_indexOrNew 97 = .ok (.getfield 28, 3) := by decide +kernel
theorem dX9_indexOrNew_100 : decode cX9_indexOrNew 100 = .ok (.iconst 1, 1) := by decide +kernel
theorem dX9_indexOrNew_101 : decode cX9_indexOrNew 101 = .ok (.isub, 1) := by decide +kernel
theorem dX9_indexOrNew_102 : decode cX9_indexOrNew 102 = .ok (.ireturn, 1) := by decide +kernel
set_option maxRecDepth 20000 in
theorem ggX9_lowerBound_X9_margin : GoodIn wsX9_lowerBound wsX9_margin := (goodIn_r _ [7, 8, 9, 10, 6, 11, 12, 13, 14, 15, 16, 17, 18, 19, 20, 21, 22, 23, 24] rfl (by decide +kernel))
set_option maxRecDepth 20000 in
theorem gX9_lowerBound_X9_margin : GoodIn wsX9_lowerBound (va_wsS RX9 36 yX9_margin wsX9_margin) := goodIn_app (goodIn_m (mem_cA (List.mem_cons_of_mem _ (List.mem_append_left _ (List.mem_append_left _ (List.mem_of_getElem? (i := 3) rfl)))) (mem_cA (List.mem_cons_of_mem _ (List.mem_append_left _ (List.mem_append_left _ (List.mem_of_getElem? (i := 4) rfl)))) (mem_cA (List.mem_cons_of_mem _ (List.mem_append_left _ (List.mem_append_left _ (List.mem_of_getElem? (i := 5) rfl)))) mem_cZ))) (by decide +kernel)) ggX9_lowerBound_X9_margin
theorem dX9_lowerBound_0 : decode cX9_lowerBound 0 = .ok (.aload_n 0, 1) := by decide +kernel
theorem dX9_lowerBound_1 : decode cX9_lowerBound 1 = .ok (.getfield 20, 3) := by decide +kernel
theorem dX9_lowerBound_4 : decode cX9_lowerBound 4 = .ok (.iload_n 2, 1) := by decide +kernel
theorem dX9_lowerBound_5 : decode cX9_lowerBound 5 = .ok (.aaload, 1) := by decide +kernel
theorem dX9_lowerBound_6 : decode cX9_lowerBound 6 = .ok (.iload_n 1, 1) := by decide +kernel
theorem dX9_lowerBound_7 : decode cX9_lowerBound 7 = .ok (.laload, 1) := by decide +kernel
theorem dX9_lowerBound_8 : decode cX9_lowerBound 8 = .ok (.l2d, 1) := by decide +kernel
theorem dX9_lowerBound_9 : decode cX9_lowerBound 9 = .ok (.aload_n 0, 1) := by decide +kernel
theorem dX9_lowerBound_10 : decode cX9_lowerBound 10 = .ok (.getfield 25, 3) := by decide +kernel
theorem dX9_lowerBound_13 : decode cX9_lowerBound 13 = .ok (.iload_n 2, 1) := by decide +kernel
theorem dX9_lowerBound_14 : decode cX9_lowerBound 14 = .ok (.aaload, 1) := by decide +kernel
theorem dX9_lowerBound_15 : decode cX9_lowerBound 15 = .ok (.iload_n 1, 1) := by decide +kernel
theorem dX9_lowerBound_16 : decode cX9_lowerBound 16 = .ok (.daload, 1) := by decide +kernel
theorem dX9_lowerBound_17 : decode cX9_lowerBound 17 = .ok (.invokestatic 36, 3) := by decide +kernel
theorem dX9_lowerBound_20 : decode cX9_lowerBound 20 = .ok (.dsub, 1) := by decide +kernel
theorem dX9_lowerBound_21 : decode cX9_lowerBound 21 = .ok (.dstore_n 3, 1) := by decide +kernel
theorem dX9_lowerBound_22 : decode cX9_lowerBound 22 = .ok (.aload_n 0, 1) := by decide +kernel
theorem dX9_lowerBound_23 : decode cX9_lowerBound 23 = .ok (.getfield 17, 3) := by decide +kernel
theorem dX9_lowerBound_26 : decode cX9_lowerBound 26 = .ok (.iload_n 2, 1) := by decide +kernel
theorem dX9_lowerBound_27 : decode cX9_lowerBound 27 = .ok (.aaload, 1) := by decide +kernel
theorem dX9_lowerBound_28 : decode cX9_lowerBound 28 = .ok (.iload_n 1, 1) := by decide +kernel
theorem dX9_lowerBound_29 : decode cX9_lowerBound 29 = .ok (.laload, 1) := by decide +kernel
theorem dX9_lowerBound_30 : decode cX9_lowerBound 30 = .ok (.l2d, 1) := by decide +kernel
theorem dX9_lowerBound_31 : decode cX9_lowerBound 31 = .ok (.dstore 5, 2) := by decide +kernel
theorem dX9_lowerBound_33 : decode cX9_lowerBound 33 = .ok (.dload_n 3, 1) := by decide +kernel
theorem dX9_lowerBound_34 : decode cX9_lowerBound 34 = .ok (.dload 5, 2) := by decide +kernel
theorem dX9_lowerBound_36 : decode cX9_lowerBound 36 = .ok (.dcmp .l, 1) := by decide +kernel
theorem dX9_lowerBound_37 : decode cX9_lowerBound 37 = .ok (.ifCond .le 7, 3) := by decide +kernel
theorem dX9_lowerBound_40 : decode cX9_lowerBound 40 = .ok (.dload_n 3, 1) := by decide +kernel
theorem dX9_lowerBound_41 : decode cX9_lowerBound 41 = .ok (.goto 5, 3) := by decide +kernel
theorem dX9_lowerBound_44 : decode cX9_lowerBound 44 = .ok (.dload 5, 2) := by decide +kernel
theorem dX9_lowerBound_46 : decode cX9_lowerBound 46 = .ok (.dreturn, 1) := by decide +kernel
set_option maxRecDepth 20000 in
theorem ggX9_upperBound_X9_margin : GoodIn wsX9_upperBound wsX9_margin := (goodIn_r _ [6, 7, 8, 9, 5, 10, 11, 12, 13, 14, 15, 16, 17, 18, 19, 20, 21, 22, 23] rfl (by decide +kernel))
set_option maxRecDepth 20000 in
theorem gX9_upperBound_X9_margin : GoodIn wsX9_upperBound (va_wsS RX9 36 yX9_margin wsX9_margin) := goodIn_app (goodIn_m (mem_cA (List.mem_cons_of_mem _ (List.mem_append_left _ (List.mem_append_left _ (List.mem_of_getElem? (i := 2) rfl)))) (mem_cA (List.mem_cons_of_mem _ (List.mem_append_left _ (List.mem_append_left _ (List.mem_of_getElem? (i := 3) rfl)))) (mem_cA (List.mem_cons_of_mem _ (List.mem_append_left _ (List.mem_append_left _ (List.mem_of_getElem? (i := 4) rfl)))) mem_cZ))) (by decide +kernel)) ggX9_upperBound_X9_margin
theorem dX9_upperBound_0 : decode cX9_upperBound 0 = .ok (.aload_n 0, 1) := by decide +kernel
theorem dX9_upperBound_1 : decode cX9_upperBound 1 = .ok (.getfield 20, 3) := by decide +kernel
theorem dX9_upperBound_4 : decode cX9_upperBound 4 = .ok (.iload_n 2, 1) := by decide +kernel
theorem dX9_upperBound_5 : decode cX9_upperBound 5 = .ok (.aaload, 1) := by decide +kernel
theorem dX9_upperBound_6 : decode cX9_upperBound 6 = .ok (.iload_n 1, 1) := by decide +kernel
theorem dX9_upperBound_7 : decode cX9_upperBound 7 = .ok (.laload, 1) := by decide +kernel
theorem dX9_upperBound_8 : decode cX9_upperBound 8 = .ok (.l2d, 1) := by decide +kernel
theorem dX9_upperBound_9 : decode cX9_upperBound 9 = .ok (.aload_n 0, 1) := by decide +kernel
theorem dX9_upperBound_10 : decode cX9_upperBound 10 = .ok (.getfield 25, 3) := by decide +kernel
theorem dX9_upperBound_13 : decode cX9_upperBound 13 = .ok (.iload_n 2, 1) := by decide +kernel
theorem dX9_upperBound_14 : decode cX9_upperBound 14 = .ok (.aaload, 1) := by decide +kernel
theorem dX9_upperBound_15 : decode cX9_upperBound 15 = .ok (.iload_n 1, 1) := by decide +kernel
theorem dX9_upperBound_16 : decode cX9_upperBound 16 = .ok (.daload, 1) := by decide +kernel
theorem dX9_upperBound_17 : decode cX9_upperBound 17 = .ok (.invokestatic 36, 3) := by decide +kernel
theorem dX9_upperBound_20 : decode cX9_upperBound 20 = .ok (.dadd, 1) := by decide +kernel
theorem dX9_upperBound_21 : decode cX9_upperBound 21 = .ok (.dreturn, 1) := by decide +kernel
theorem dX9_estimateOfAll_0 : decode cX9_estimateOfAll 0 = .ok (.lconst 0, 1) := by decide +kernel
theorem dX9_estimateOfAll_1 : decode cX9_estimateOfAll 1 = .ok (.lstore_n 2, 1) := by decide +kernel
theorem dX9_estimateOfAll_2 : decode cX9_estimateOfAll 2 = .ok (.iconst 0, 1) := by decide +kernel
theorem dX9_estimateOfAll_3 : decode cX9_estimateOfAll 3 = .ok (.istore 4, 2) := by decide +kernel
theorem dX9_estimateOfAll_5 : decode cX9_estimateOfAll 5 = .ok (.iload 4, 2) := by decide +kernel
theorem dX9_estimateOfAll_7 : decode cX9_estimateOfAll 7 = .ok (.aload_n 0, 1) := by decide +kernel
theorem dX9_estimateOfAll_8 : decode cX9_estimateOfAll 8 = .ok (.getfield 28, 3) := by decide +kernel
theorem dX9_estimateOfAll_11 : decode cX9_estimateOfAll 11 = .ok (.if_icmp .ge 21, 3) := by decide +kernel
theorem dX9_estimateOfAll_14 : decode cX9_estimateOfAll 14 = .ok (.lload_n 2, 1) := by decide +kernel
theorem dX9_estimateOfAll_15 : decode cX9_estimateOfAll 15 = .ok (.aload_n 0, 1) := by decide +kernel
theorem dX9_estimateOfAll_16 : decode cX9_estimateOfAll 16 = .ok (.getfield 20, 3) := by decide +kernel
theorem dX9_estimateOfAll_19 : decode cX9_estimateOfAll 19 = .ok (.iload_n 1, 1) := by decide +kernel
theorem dX9_estimateOfAll_20 : decode cX9_estimateOfAll 20 = .ok (.aaload, 1) := by decide +kernel
theorem dX9_estimateOfAll_21 : decode cX9_estimateOfAll 21 = .ok (.iload 4, 2) := by decide +kernel
theorem dX9_estimateOfAll_23 : decode cX9_estimateOfAll 23 = .ok (.laload, 1) := by decide +kernel
theorem dX9_estimateOfAll_24 : decode cX9_estimateOfAll 24 = .ok (.ladd, 1) := by decide +kernel
theorem dX9_estimateOfAll_25 : decode cX9_estimateOfAll 25 = .ok (.lstore_n 2, 1) := by decide +kernel
theorem dX9_estimateOfAll_26 : decode cX9_estimateOfAll 26 = .ok (.iinc 4 1, 3) := by decide +kernel
theorem dX9_estimateOfAll_29 : decode cX9_estimateOfAll 29 = .ok (.goto (-24), 3) := by decide +kernel
theorem dX9_estimateOfAll_32 : decode cX9_estimateOfAll 32 = .ok (.lload_n 2, 1) := by decide +kernel
theorem dX9_estimateOfAll_33 : decode cX9_estimateOfAll 33 = .ok (.lreturn, 1) := by decide +kernel
set_option maxRecDepth 20000 in
theorem ggX9_marginOfAll_X9_margin : GoodIn wsX9_marginOfAll wsX9_margin := (goodIn_r _ [6, 7, 8, 9, 5, 10, 11, 12, 13, 14, 15, 16, 17, 18, 19, 20, 21, 22, 23] rfl (by decide +kernel))
set_option maxRecDepth 20000 in
theorem gX9_marginOfAll_X9_margin : GoodIn wsX9_marginOfAll (va_wsS RX9 36 yX9_margin wsX9_margin) := goodIn_app (goodIn_m (mem_cA (List.mem_cons_of_mem _ (List.mem_append_left _ (List.mem_append_left _ (List.mem_of_getElem? (i := 2) rfl)))) (mem_cA (List.mem_cons_of_mem _ (List.mem_append_left _ (List.mem_append_left _ (List.mem_of_getElem? (i := 3) rfl)))) (mem_cA (List.mem_cons_of_mem _ (List.mem_append_left _ (List.mem_append_left _ (List.mem_of_getElem? (i := 4) rfl)))) mem_cZ))) (by decide +kernel)) ggX9_marginOfAll_X9_margin
theorem dX9_marginOfAll_0 : decode cX9_marginOfAll 0 = .ok (.dconst 0, 1) := by decide +kernel
theorem dX9_marginOfAll_1 : decode cX9_marginOfAll 1 = .ok (.dstore_n 2, 1) := by decide +kernel
theorem dX9_marginOfAll_2 : decode cX9_marginOfAll 2 = .ok (.iconst 0, 1) := by decide +kernel
theorem dX9_marginOfAll_3 : decode cX9_marginOfAll 3 = .ok (.istore 4, 2) := by decide +kernel
theorem dX9_marginOfAll_5 : decode cX9_marginOfAll 5 = .ok (.iload 4, 2) := by decide +kernel
theorem dX9_marginOfAll_7 : decode cX9_marginOfAll 7 = .ok (.aload_n 0, 1) := by decide +kernel
theorem dX9_marginOfAll_8 : decode cX9_marginOfAll 8 = .ok (.getfield 28, 3) := by decide +kernel
theorem dX9_marginOfAll_11 : decode cX9_marginOfAll 11 = .ok (.if_icmp .ge 21, 3) := by decide +kernel
theorem dX9_marginOfAll_14 : decode cX9_marginOfAll 14 = .ok (.dload_n 2, 1) := by decide +kernel
theorem dX9_marginOfAll_15 : decode cX9_marginOfAll 15 = .ok (.aload_n 0, 1) := by decide +kernel
theorem dX9_marginOfAll_16 : decode cX9_marginOfAll 16 = .ok (.getfield 25, 3) := by decide +kernel
theorem dX9_marginOfAll_19 : decode cX9_marginOfAll 19 = .ok (.iload_n 1, 1) := by decide +kernel
theorem dX9_marginOfAll_20 : decode cX9_marginOfAll 20 = .ok (.aaload, 1) := by decide +kernel
theorem dX9_marginOfAll_21 : decode cX9_marginOfAll 21 = .ok (.iload 4, 2) := by decide +kernel
theorem dX9_marginOfAll_23 : decode cX9_marginOfAll 23 = .ok (.daload, 1) := by decide +kernel
theorem dX9_marginOfAll_24 : decode cX9_marginOfAll 24 = .ok (.dadd, 1) := by decide +kernel
theorem dX9_marginOfAll_25 : decode cX9_marginOfAll 25 = .ok (.dstore_n 2, 1) := by decide +kernel
theorem dX9_marginOfAll_26 : decode cX9_marginOfAll 26 = .ok (.iinc 4 1, 3) := by decide +kernel
theorem dX9_marginOfAll_29 : decode cX9_marginOfAll 29 = .ok (.goto (-24), 3) := by decide +kernel
theorem dX9_marginOfAll_32 : decode cX9_marginOfAll 32 = .ok (.dload_n 2, 1) := by decide +kernel
theorem dX9_marginOfAll_33 : decode cX9_marginOfAll 33 = .ok (.invokestatic 36, 3) := by decide +kernel
theorem dX9_marginOfAll_36 : decode cX9_marginOfAll 36 = .ok (.dreturn, 1) := by decide +kernel
theorem dX9_rankOf_0 : decode cX9_rankOf 0 = .ok (.aload_n 0, 1) := by decide +kernel
theorem dX9_rankOf_1 : decode cX9_rankOf 1 = .ok (.getfield 20, 3) := by decide +kernel
theorem dX9_rankOf_4 : decode cX9_rankOf 4 = .ok (.iload_n 2, 1) := by decide +kernel
theorem dX9_rankOf_5 : decode cX9_rankOf 5 = .ok (.aaload, 1) := by decide +kernel
theorem dX9_rankOf_6 : decode cX9_rankOf 6 = .ok (.iload_n 1, 1) := by decide +kernel
theorem dX9_rankOf_7 : decode cX9_rankOf 7 = .ok (.laload, 1) := by decide +kernel
theorem dX9_rankOf_8 : decode cX9_rankOf 8 = .ok (.lstore_n 3, 1) := by decide +kernel
theorem dX9_rankOf_9 : decode cX9_rankOf 9 = .ok (.iconst 0, 1) := by decide +kernel
theorem dX9_rankOf_10 : decode cX9_rankOf 10 = .ok (.istore 5, 2) := by decide +kernel
theorem dX9_rankOf_12 : decode cX9_rankOf 12 = .ok (.iconst 0, 1) := by decide +kernel
theorem dX9_rankOf_13 : decode cX9_rankOf 13 = .ok (.istore 6, 2) := by decide +kernel
theorem dX9_rankOf_15 : decode cX9_rankOf 15 = .ok (.iload 6, 2) := by decide +kernel
theorem dX9_rankOf_17 : decode cX9_rankOf 17 = .ok (.aload_n 0, 1) := by decide +kernel
theorem dX9_rankOf_18 : decode cX9_rankOf 18 = .ok (.getfield 28, 3) := by decide +kernel
theorem dX9_rankOf_21 : decode cX9_rankOf 21 = .ok (.if_icmp .ge 43, 3) := by decide +kernel
theorem dX9_rankOf_24 : decode cX9_rankOf 24 = .ok (.aload_n 0, 1) := by decide +kernel
theorem dX9_rankOf_25 : decode cX9_rankOf 25 = .ok (.getfield 20, 3) := by decide +kernel
theorem dX9_rankOf_28 : decode cX9_rankOf 28 = .ok (.iload_n 2, 1) := by decide +kernel
theorem dX9_rankOf_29 : decode cX9_rankOf 29 = .ok (.aaload, 1) := by decide +kernel
theorem dX9_rankOf_30 : decode cX9_rankOf 30 = .ok (.iload 6, 2) := by decide +kernel
theorem dX9_rankOf_32 : decode cX9_rankOf 32 = .ok (.laload, 1) := by decide +kernel
theorem dX9_rankOf_33 : decode cX9_rankOf 33 = .ok (.lstore 7, 2) := by decide +kernel
theorem dX9_rankOf_35 : decode cX9_rankOf 35 = .ok (.lload 7, 2) := by decide +kernel
theorem dX9_rankOf_37 : decode cX9_rankOf 37 = .ok (.lload_n 3, 1) := by decide +kernel
theorem dX9_rankOf_38 : decode cX9_rankOf 38 = .ok (.lcmp, 1) := by decide +kernel
theorem dX9_rankOf_39 : decode cX9_rankOf 39 = .ok (.ifCond .gt 16, 3) := by decide +kernel
theorem dX9_rankOf_42 : decode cX9_rankOf 42 = .ok (.lload 7, 2) := by decide +kernel
theorem dX9_rankOf_44 : decode cX9_rankOf 44 = .ok (.lload_n 3, 1) := by decide +kernel
theorem dX9_rankOf_45 : decode cX9_rankOf 45 = .ok (.lcmp, 1) := by decide +kernel
theorem dX9_rankOf_46 : decode cX9_rankOf 46 = .ok (.ifCond .ne 12, 3) := by decide +kernel
theorem dX9_rankOf_49 : decode cX9_rankOf 49 = .ok (.iload 6, 2) := by decide +kernel
theorem dX9_rankOf_51 : decode cX9_rankOf 51 = .ok (.iload_n 1, 1) := by decide +kernel
theorem dX9_rankOf_52 : decode cX9_rankOf 52 = .ok (.if_icmp .ge 6, 3) := by decide +kernel
theorem dX9_rankOf_55 : decode cX9_rankOf 55 = .ok (.iinc 5 1, 3) := by decide +kernel
theorem dX9_rankOf_58 : decode cX9_rankOf 58 = .ok (.iinc 6 1, 3) := by decide +kernel
theorem dX9_rankOf_61 : decode cX9_rankOf 61 = .ok (.goto (-46), 3) := by decide +kernel
theorem dX9_rankOf_64 : decode cX9_rankOf 64 = .ok (.iload 5, 2) := by decide +kernel
theorem dX9_rankOf_66 : decode cX9_rankOf 66 = .ok (.ireturn, 1) := by decide +kernel
set_option maxRecDepth 20000 in
theorem ggX9_margin_X9_root : GoodIn wsX9_margin wsX9_root := (goodIn_r _ [5, 6, 7, 8, 9, 10, 4, 11, 12, 13, 14, 15, 16, 17, 18] rfl (by decide +kernel))
set_option maxRecDepth 20000 in
theorem gX9_margin_X9_root : GoodIn wsX9_margin (va_wsS RX9 46 yX9_root wsX9_root) := goodIn_app (goodIn_m (mem_cA (List.mem_cons_of_mem _ (List.mem_of_getElem? (i := 1) rfl)) (mem_cA (List.mem_cons_of_mem _ (List.mem_of_getElem? (i := 2) rfl)) (mem_cA (List.mem_cons_of_mem _ (List.mem_of_getElem? (i := 3) rfl)) mem_cZ))) (by decide +kernel)) ggX9_margin_X9_root
theorem dX9_margin_0 : decode cX9_margin 0 = .ok (.ldc2_w 44, 3) := by decide +kernel
theorem dX9_margin_3 : decode cX9_margin 3 = .ok (.dload_n 0, 1) := by decide +kernel
theorem dX9_margin_4 : decode cX9_margin 4 = .ok (.invokestatic 46, 3) := by decide +kernel
theorem dX9_margin_7 : decode cX9_margin 7 = .ok (.dmul, 1) := by decide +kernel
theorem dX9_margin_8 : decode cX9_margin 8 = .ok (.dreturn, 1) := by decide +kernel
set_option maxRecDepth 20000 in
theorem ggX9_root_X9_scaledRoot : GoodIn wsX9_root wsX9_scaledRoot := (goodIn_r _ [7, 8, 9, 10] rfl (by decide +kernel))
set_option maxRecDepth 20000 in
theorem gX9_root_X9_scaledRoot : GoodIn wsX9_root (va_wsS RX9 55 yX9_scaledRoot wsX9_scaledRoot) := goodIn_app (goodIn_m (mem_cA (List.mem_cons_of_mem _ (List.mem_of_getElem? (i := 3) rfl)) (mem_cA (List.mem_cons_of_mem _ (List.mem_of_getElem? (i := 4) rfl)) (mem_cA (List.mem_cons_of_mem _ (List.mem_of_getElem? (i := 5) rfl)) mem_cZ))) (by decide +kernel)) ggX9_root_X9_scaledRoot
set_option maxRecDepth 20000 in
theorem ggX9_root_X9_timesPowerOfTwo : GoodIn wsX9_root wsX9_timesPowerOfTwo := (goodIn_r _ [13, 14] rfl (by decide +kernel))
set_option maxRecDepth 20000 in
theorem gX9_root_X9_timesPowerOfTwo : GoodIn wsX9_root (va_wsS RX9 59 yX9_timesPowerOfTwo wsX9_timesPowerOfTwo) := goodIn_app (goodIn_m (mem_cA (List.mem_cons_of_mem _ (List.mem_of_getElem? (i := 10) rfl)) (mem_cA (List.mem_cons_of_mem _ (List.mem_of_getElem? (i := 11) rfl)) (mem_cA (List.mem_cons_of_mem _ (List.mem_of_getElem? (i := 5) rfl)) mem_cZ))) (by decide +kernel)) ggX9_root_X9_timesPowerOfTwo
theorem dX9_root_0 : decode cX9_root 0 = .ok (.dload_n 0, 1) := by decide +kernel
theorem dX9_root_1 : decode cX9_root 1 = .ok (.dconst 0, 1) := by decide +kernel
theorem dX9_root_2 : decode cX9_root 2 = .ok (.dcmp .l, 1) := by decide +kernel
theorem dX9_root_3 : decode cX9_root 3 = .ok (.ifCond .gt 5, 3) := by decide +kernel
theorem dX9_root_6 : decode cX9_root 6 = .ok (.dconst 0, 1) := by decide +kernel
theorem dX9_root_7 : decode cX9_root 7 = .ok (.dreturn, 1) := by decide +kernel
theorem dX9_root_8 : decode cX9_root 8 = .ok (.dload_n 0, 1) := by decide +kernel
theorem dX9_root_9 : decode cX9_root 9 = .ok (.dstore_n 2, 1) := by decide +kernel
theorem dX9_root_10 : decode cX9_root 10 = .ok (.iconst 0, 1) := by decide +kernel
theorem dX9_root_11 : decode cX9_root 11 = .ok (.istore 4, 2) := by decide +kernel
theorem dX9_root_13 : decode cX9_root 13 = .ok (.iconst 0, 1) := by decide +kernel
theorem dX9_root_14 : decode cX9_root 14 = .ok (.istore 5, 2) := by decide +kernel
theorem dX9_root_16 : decode cX9_root 16 = .ok (.iload 5, 2) := by decide +kernel
theorem dX9_root_18 : decode cX9_root 18 = .ok (.sipush 600, 3) := by decide +kernel
theorem dX9_root_21 : decode cX9_root 21 = .ok (.if_icmp .ge 26, 3) := by decide +kernel
theorem dX9_root_24 : decode cX9_root 24 = .ok (.dload_n 2, 1) := by decide +kernel
theorem dX9_root_25 : decode cX9_root 25 = .ok (.ldc2_w 49, 3) := by decide +kernel
theorem dX9_root_28 : decode cX9_root 28 = .ok (.dcmp .l, 1) := by decide +kernel
theorem dX9_root_29 : decode cX9_root 29 = .ok (.ifCond .lt 18, 3) := by decide +kernel
theorem dX9_root_32 : decode cX9_root 32 = .ok (.dload_n 2, 1) := by decide +kernel
theorem dX9_root_33 : decode cX9_root 33 = .ok (.ldc2_w 51, 3) := by decide +kernel
theorem dX9_root_36 : decode cX9_root 36 = .ok (.ddiv, 1) := by decide +kernel
theorem dX9_root_37 : decode cX9_root 37 = .ok (.dstore_n 2, 1) := by decide +kernel
theorem dX9_root_38 : decode cX9_root 38 = .ok (.iinc 4 1, 3) := by decide +kernel
theorem dX9_root_41 : decode cX9_root 41 = .ok (.iinc 5 1, 3) := by decide +kernel
theorem dX9_root_44 : decode cX9_root 44 = .ok (.goto (-28), 3) := by decide +kernel
theorem dX9_root_47 : decode cX9_root 47 = .ok (.iconst 0, 1) := by decide +kernel
theorem dX9_root_48 : decode cX9_root 48 = .ok (.istore 5, 2) := by decide +kernel
theorem dX9_root_50 : decode cX9_root 50 = .ok (.iload 5, 2) := by decide +kernel
theorem dX9_root_52 : decode cX9_root 52 = .ok (.sipush 600, 3) := by decide +kernel
theorem dX9_root_55 : decode cX9_root 55 = .ok (.if_icmp .ge 26, 3) := by decide +kernel
theorem dX9_root_58 : decode cX9_root 58 = .ok (.dload_n 2, 1) := by decide +kernel
theorem dX9_root_59 : decode cX9_root 59 = .ok (.ldc2_w 53, 3) := by decide +kernel
theorem dX9_root_62 : decode cX9_root 62 = .ok (.dcmp .g, 1) := by decide +kernel
theorem dX9_root_63 : decode cX9_root 63 = .ok (.ifCond .ge 18, 3) := by decide +kernel
theorem dX9_root_66 : decode cX9_root 66 = .ok (.dload_n 2, 1) := by decide +kernel
theorem dX9_root_67 : decode cX9_root 67 = .ok (.ldc2_w 51, 3) := by decide +kernel
theorem dX9_root_70 : decode cX9_root 70 = .ok (.dmul, 1) := by decide +kernel
theorem dX9_root_71 : decode cX9_root 71 = .ok (.dstore_n 2, 1) := by decide +kernel
theorem dX9_root_72 : decode cX9_root 72 = .ok (.iinc 4 (-1), 3) := by decide +kernel
theorem dX9_root_75 : decode cX9_root 75 = .ok (.iinc 5 1, 3) := by decide +kernel
theorem dX9_root_78 : decode cX9_root 78 = .ok (.goto (-28), 3) := by decide +kernel
theorem dX9_root_81 : decode cX9_root 81 = .ok (.dload_n 2, 1) := by decide +kernel
theorem dX9_root_82 : decode cX9_root 82 = .ok (.d2l, 1) := by decide +kernel
theorem dX9_root_83 : decode cX9_root 83 = .ok (.invokestatic 55, 3) := by decide +kernel
theorem dX9_root_86 : decode cX9_root 86 = .ok (.iload 4, 2) := by decide +kernel
theorem dX9_root_88 : decode cX9_root 88 = .ok (.bipush 26, 2) := by decide +kernel
theorem dX9_root_90 : decode cX9_root 90 = .ok (.isub, 1) := by decide +kernel
theorem dX9_root_91 : decode cX9_root 91 = .ok (.invokestatic 59, 3) := by decide +kernel
theorem dX9_root_94 : decode cX9_root 94 = .ok (.dreturn, 1) := by decide +kernel
theorem dX9_scaledRoot_0 : decode cX9_scaledRoot 0 = .ok (.lconst 0, 1) := by decide +kernel
theorem dX9_scaledRoot_1 : decode cX9_scaledRoot 1 = .ok (.lstore_n 2, 1) := by decide +kernel
theorem dX9_scaledRoot_2 : decode cX9_scaledRoot 2 = .ok (.lconst 0, 1) := by decide +kernel
theorem dX9_scaledRoot_3 : decode cX9_scaledRoot 3 = .ok (.lstore 4, 2) := by decide +kernel
theorem dX9_scaledRoot_5 : decode cX9_scaledRoot 5 = .ok (.bipush 52, 2) := by decide +kernel
theorem dX9_scaledRoot_7 : decode cX9_scaledRoot 7 = .ok (.istore 6, 2) := by decide +kernel
theorem dX9_scaledRoot_9 : decode cX9_scaledRoot 9 = .ok (.iload 6, 2) := by decide +kernel
theorem dX9_scaledRoot_11 : decode cX9_scaledRoot 11 = .ok (.ifCond .lt 80, 3) := by decide +kernel
theorem dX9_scaledRoot_14 : decode cX9_scaledRoot 14 = .ok (.iload 6, 2) := by decide +kernel
theorem dX9_scaledRoot_16 : decode cX9_scaledRoot 16 = .ok (.bipush 26, 2) := by decide +kernel
theorem dX9_scaledRoot_18 : decode cX9_scaledRoot 18 = .ok (.if_icmp .lt 19, 3) := by decide +kernel
theorem dX9_scaledRoot_21 : decode cX9_scaledRoot 21 = .ok (.lload_n 0, 1) := by decide +kernel
theorem dX9_scaledRoot_22 : decode cX9_scaledRoot 22 = .ok (.iconst 2, 1) := by decide +kernel
theorem dX9_scaledRoot_23 : decode cX9_scaledRoot 23 = .ok (.iload 6, 2) := by decide +kernel
theorem dX9_scaledRoot_25 : decode cX9_scaledRoot 25 = .ok (.bipush 26, 2) := by decide +kernel
theorem dX9_scaledRoot_27 : decode cX9_scaledRoot 27 = .ok (.isub, 1) := by decide +kernel
theorem dX9_scaledRoot_28 : decode cX9_scaledRoot 28 = .ok (.imul, 1) := by decide +kernel
theorem dX9_scaledRoot_29 : decode cX9_scaledRoot 29 = .ok (.lshr, 1) := by decide +kernel
theorem dX9_scaledRoot_30 : decode cX9_scaledRoot 30 = .ok (.ldc2_w 63, 3) := by decide +kernel
theorem dX9_scaledRoot_33 : decode cX9_scaledRoot 33 = .ok (.land, 1) := by decide +kernel
theorem dX9_scaledRoot_34 : decode cX9_scaledRoot 34 = .ok (.goto 4, 3) := by decide +kernel
theorem dX9_scaledRoot_37 : decode cX9_scaledRoot 37 = .ok (.lconst 0, 1) := by decide +kernel
theorem dX9_scaledRoot_38 : decode cX9_scaledRoot 38 = .ok (.lstore 7, 2) := by decide +kernel
theorem dX9_scaledRoot_40 : decode cX9_scaledRoot 40 = .ok (.ldc2_w 65, 3) := by decide +kernel
theorem dX9_scaledRoot_43 : decode cX9_scaledRoot 43 = .ok (.lload_n 2, 1) := by decide +kernel
theorem dX9_scaledRoot_44 : decode cX9_scaledRoot 44 = .ok (.lmul, 1) := by decide +kernel
theorem dX9_scaledRoot_45 : decode cX9_scaledRoot 45 = .ok (.lconst 1, 1) := by decide +kernel
theorem dX9_scaledRoot_46 : decode cX9_scaledRoot 46 = .ok (.ladd, 1) := by decide +kernel
theorem dX9_scaledRoot_47 : decode cX9_scaledRoot 47 = .ok (.lstore 9, 2) := by decide +kernel
theorem dX9_scaledRoot_49 : decode cX9_scaledRoot 49 = .ok (.ldc2_w 65, 3) := by decide +kernel
theorem dX9_scaledRoot_52 : decode cX9_scaledRoot 52 = .ok (.lload 4, 2) := by decide +kernel
theorem dX9_scaledRoot_54 : decode cX9_scaledRoot 54 = .ok (.lmul, 1) := by decide +kernel
theorem dX9_scaledRoot_55 : decode cX9_scaledRoot 55 = .ok (.lload 7, 2) := by decide +kernel
theorem dX9_scaledRoot_57 : decode cX9_scaledRoot 57 = .ok (.ladd, 1) := by decide +kernel
theorem dX9_scaledRoot_58 : decode cX9_scaledRoot 58 = .ok (.lstore 4, 2) := by decide +kernel
theorem dX9_scaledRoot_60 : decode cX9_scaledRoot 60 = .ok (.ldc2_w 67, 3) := by decide +kernel
theorem dX9_scaledRoot_63 : decode cX9_scaledRoot 63 = .ok (.lload_n 2, 1) := by decide +kernel
theorem dX9_scaledRoot_64 : decode cX9_scaledRoot 64 = .ok (.lmul, 1) := by decide +kernel
theorem dX9_scaledRoot_65 : decode cX9_scaledRoot 65 = .ok (.lstore_n 2, 1) := by decide +kernel
theorem dX9_scaledRoot_66 : decode cX9_scaledRoot 66 = .ok (.lload 4, 2) := by decide +kernel
theorem dX9_scaledRoot_68 : decode cX9_scaledRoot 68 = .ok (.lload 9, 2) := by decide +kernel
theorem dX9_scaledRoot_70 : decode cX9_scaledRoot 70 = .ok (.lcmp, 1) := by decide +kernel
theorem dX9_scaledRoot_71 : decode cX9_scaledRoot 71 = .ok (.ifCond .lt 14, 3) := by decide +kernel
theorem dX9_scaledRoot_74 : decode cX9_scaledRoot 74 = .ok (.lload 4, 2) := by decide +kernel
theorem dX9_scaledRoot_76 : decode cX9_scaledRoot 76 = .ok (.lload 9, 2) := by decide +kernel
theorem dX9_scaledRoot_78 : decode cX9_scaledRoot 78 = .ok (.lsub, 1) := by decide +kernel
theorem dX9_scaledRoot_79 : decode cX9_scaledRoot 79 = .ok (.lstore 4, 2) := by decide +kernel
theorem dX9_scaledRoot_81 : decode cX9_scaledRoot 81 = .ok (.lload_n 2, 1) := by decide +kernel
theorem dX9_scaledRoot_82 : decode cX9_scaledRoot 82 = .ok (.lconst 1, 1) := by decide +kernel
theorem dX9_scaledRoot_83 : decode cX9_scaledRoot 83 = .ok (.ladd, 1) := by decide +kernel
theorem dX9_scaledRoot_84 : decode cX9_scaledRoot 84 = .ok (.lstore_n 2, 1) := by decide +kernel
theorem dX9_scaledRoot_85 : decode cX9_scaledRoot 85 = .ok (.iinc 6 (-1), 3) := by decide +kernel
theorem dX9_scaledRoot_88 : decode cX9_scaledRoot 88 = .ok (.goto (-79), 3) := by decide +kernel
theorem dX9_scaledRoot_91 : decode cX9_scaledRoot 91 = .ok (.lload 4, 2) := by decide +kernel
theorem dX9_scaledRoot_93 : decode cX9_scaledRoot 93 = .ok (.lload_n 2, 1) := by decide +kernel
theorem dX9_scaledRoot_94 : decode cX9_scaledRoot 94 = .ok (.lcmp, 1) := by decide +kernel
theorem dX9_scaledRoot_95 : decode cX9_scaledRoot 95 = .ok (.ifCond .le 9, 3) := by decide +kernel
theorem dX9_scaledRoot_98 : decode cX9_scaledRoot 98 = .ok (.lload_n 2, 1) := by decide +kernel
theorem dX9_scaledRoot_99 : decode cX9_scaledRoot 99 = .ok (.lconst 1, 1) := by decide +kernel
theorem dX9_scaledRoot_100 : decode cX9_scaledRoot 100 = .ok (.ladd, 1) := by decide +kernel
theorem dX9_scaledRoot_101 : decode cX9_scaledRoot 101 = .ok (.goto 4, 3) := by decide +kernel
theorem dX9_scaledRoot_104 : decode cX9_scaledRoot 104 = .ok (.lload_n 2, 1) := by decide +kernel
theorem dX9_scaledRoot_105 : decode cX9_scaledRoot 105 = .ok (.lreturn, 1) := by decide +kernel
theorem dX9_timesPowerOfTwo_0 : decode cX9_timesPowerOfTwo 0 = .ok (.lload_n 0, 1) := by decide +kernel
theorem dX9_timesPowerOfTwo_1 : decode cX9_timesPowerOfTwo 1 = .ok (.l2d, 1) := by decide +kernel
theorem dX9_timesPowerOfTwo_2 : decode cX9_timesPowerOfTwo 2 = .ok (.dstore_n 3, 1) := by decide +kernel
theorem dX9_timesPowerOfTwo_3 : decode cX9_timesPowerOfTwo 3 = .ok (.iconst 0, 1) := by decide +kernel
theorem dX9_timesPowerOfTwo_4 : decode cX9_timesPowerOfTwo 4 = .ok (.istore 5, 2) := by decide +kernel
theorem dX9_timesPowerOfTwo_6 : decode cX9_timesPowerOfTwo 6 = .ok (.iload 5, 2) := by decide +kernel
theorem dX9_timesPowerOfTwo_8 : decode cX9_timesPowerOfTwo 8 = .ok (.iload_n 2, 1) := by decide +kernel
theorem dX9_timesPowerOfTwo_9 : decode cX9_timesPowerOfTwo 9 = .ok (.if_icmp .ge 15, 3) := by decide +kernel
theorem dX9_timesPowerOfTwo_12 : decode cX9_timesPowerOfTwo 12 = .ok (.dload_n 3, 1) := by decide +kernel
theorem dX9_timesPowerOfTwo_13 : decode cX9_timesPowerOfTwo 13 = .ok (.ldc2_w 69, 3) := by decide +kernel
theorem dX9_timesPowerOfTwo_16 : decode cX9_timesPowerOfTwo 16 = .ok (.dmul, 1) := by decide +kernel
theorem dX9_timesPowerOfTwo_17 : decode cX9_timesPowerOfTwo 17 = .ok (.dstore_n 3, 1) := by decide +kernel
theorem dX9_timesPowerOfTwo_18 : decode cX9_timesPowerOfTwo 18 = .ok (.iinc 5 1, 3) := by decide +kernel
theorem dX9_timesPowerOfTwo_21 : decode cX9_timesPowerOfTwo 21 = .ok (.goto (-15), 3) := by decide +kernel
theorem dX9_timesPowerOfTwo_24 : decode cX9_timesPowerOfTwo 24 = .ok (.iload_n 2, 1) := by decide +kernel
theorem dX9_timesPowerOfTwo_25 : decode cX9_timesPowerOfTwo 25 = .ok (.istore 5, 2) := by decide +kernel
theorem dX9_timesPowerOfTwo_27 : decode cX9_timesPowerOfTwo 27 = .ok (.iload 5, 2) := by decide +kernel
theorem dX9_timesPowerOfTwo_29 : decode cX9_timesPowerOfTwo 29 = .ok (.ifCond .ge 15, 3) := by decide +kernel
theorem dX9_timesPowerOfTwo_32 : decode cX9_timesPowerOfTwo 32 = .ok (.dload_n 3, 1) := by decide +kernel
theorem dX9_timesPowerOfTwo_33 : decode cX9_timesPowerOfTwo 33 = .ok (.ldc2_w 69, 3) := by decide +kernel
theorem dX9_timesPowerOfTwo_36 : decode cX9_timesPowerOfTwo 36 = .ok (.ddiv, 1) := by decide +kernel
theorem dX9_timesPowerOfTwo_37 : decode cX9_timesPowerOfTwo 37 = .ok (.dstore_n 3, 1) := by decide +kernel
theorem dX9_timesPowerOfTwo_38 : decode cX9_timesPowerOfTwo 38 = .ok (.iinc 5 1, 3) := by decide +kernel
theorem dX9_timesPowerOfTwo_41 : decode cX9_timesPowerOfTwo 41 = .ok (.goto (-14), 3) := by decide +kernel
theorem dX9_timesPowerOfTwo_44 : decode cX9_timesPowerOfTwo 44 = .ok (.dload_n 3, 1) := by decide +kernel
theorem dX9_timesPowerOfTwo_45 : decode cX9_timesPowerOfTwo 45 = .ok (.dreturn, 1) := by decide +kernel
theorem hu_X9_indexOf_X9 : ∀ w ∈ u_ws RX9 TX9 5, w ∈ wsX9_indexOf := fun _ h => List.mem_cons_of_mem _ (List.mem_append_left _ (List.mem_append_right _ (h)))

theorem hv_X9_indexOf_28 : Cond.fieldLink RX9 28 "FlowExporter$Sums" (TX9 4).2.1 (TX9 4).2.2.1 ∈ wsX9_indexOf := List.mem_cons_of_mem _ (List.mem_append_left _ (List.mem_append_left _ (List.mem_of_getElem? (i := 0) rfl)))

theorem hv_X9_indexOf_9 : Cond.fieldLink RX9 9 "FlowExporter$Sums" (TX9 0).2.1 (TX9 0).2.2.1 ∈ wsX9_indexOf := List.mem_cons_of_mem _ (List.mem_append_left _ (List.mem_append_left _ (List.mem_of_getElem? (i := 1) rfl)))

set_option maxHeartbeats 4000000 in
set_option maxRecDepth 100000 in
theorem s_X9_indexOf (G : EnvG) (l : Launch) (Φ : Hm) (sz x ca : Nat) (a : Int64) (hx : G.2.2.2 ≤ x) (hI : In G x ca Φ)  : Ct G l yX9_indexOf wsX9_indexOf ({ frames := 0, cells := 0, slots := 0, locals := 0 }) 0 0 [.ref (x + 121), .long a] Φ sz (fun v Φ1 sz1 => (∃ r9 : Int32, v = some (.int r9)) ∧ sz1 = sz ∧ In G x (ca) Φ1 ∧ Fr x (fun j9 => False) Φ Φ1) := by
  refine Ct.of (cc := cX9_indexOf) (maxL := 4) (ret := (some .int)) (by decide) rfl (Nat.le_of_ble_eq_true rfl) ?_
  intro p9 e9 s9 m9 w9 t9 k9 B
  show Z p9 l e9 _ s9 m9 _ w9 t9 k9 _ G 4 0 [(0, .ref (x + 121)), (1, .long a)] [] Φ sz 0 0
  refine z_iconst (v := 0) B dX9_indexOf_0 rfl ?_
  refine z_istore_n (lv' := [(3, .int 0), (0, .ref (x + 121)), (1, .long a)]) B dX9_indexOf_1 rfl (Nat.le_of_ble_eq_true rfl) rfl ?_
  refine z_lv [0, 1, 2] rfl ?_
  refine z_loop (α := Nat) (fun (a9 : Nat) Φi => In G x (ca) Φi ∧ Fr x (fun j9 => False) Φ Φi ∧ (a9 ≤ 24) ∧ True) (fun a9 => [(3, .int (nI a9)), (0, .ref (x + 121)), (1, .long a)]) (fun a9 => 24 - a9) ?_ (0) ⟨hI, fun _ _ => rfl, (show 0 ≤ 24 by omega), trivial⟩
  rintro i_1 Φl1 ⟨hI1, hF1, b_1, -⟩ ih1
  replace hI1 : In G x (ca) Φl1 := hI1
  replace b_1 : i_1 ≤ 24 := b_1
  show Z p9 l e9 _ s9 m9 _ w9 t9 k9 _ G 4 2 [(3, .int (nI i_1)), (0, .ref (x + 121)), (1, .long a)] [] Φl1 _ _ _
  refine z_iload_n B dX9_indexOf_2 rfl 0 rfl ?_
  refine z_aload_n B dX9_indexOf_3 rfl 1 rfl ?_
  obtain ⟨n_1, h_1, b_2⟩ := in20 (k := 121) hI1 rfl
  have h_2 : Φl1 (x + 121) = some (o_ 11 [.ref (x + 122), .ref (x + 123), .ref (x + 126), .ref (x + 129), .int (nI n_1)]) := h_1
  refine z_get (ref := "FlowExporter$Sums") (C := RX9) (T := TX9) (N := 5) (ci := 11) (v := .int (nI n_1)) B hu_X9_indexOf_X9 rfl 4 (Nat.le_of_ble_eq_true rfl) hv_X9_indexOf_28 rfl h_2 rfl dX9_indexOf_4 ?_
  refine z_icmp_ge (tgt := 29) B dX9_indexOf_7 rfl (fun c_1 => ?_) (fun c_1 => ?_)
  · have e_1 : n_1 ≤ i_1 := (nI_leI (a := n_1) (b := i_1) (by omega) (by omega)).mp c_1
    refine z_iconst (v := (-1)) B dX9_indexOf_29 rfl ?_
    exact z_ret_i B dX9_indexOf_30 ⟨⟨_, rfl⟩, rfl, hI1, (fun b9 h9 => ((hF1 b9 (fun j9 h8 h7 => (show False from h7).elim)).trans rfl))⟩
  · have e_2 : ¬ (n_1 ≤ i_1) := fun h9 => c_1 ((nI_leI (a := n_1) (b := i_1) (by omega) (by omega)).mpr h9)
    refine z_aload_n B dX9_indexOf_10 rfl 1 rfl ?_
    refine z_get (ref := "FlowExporter$Sums") (C := RX9) (T := TX9) (N := 5) (ci := 11) (v := .ref (x + 122)) B hu_X9_indexOf_X9 rfl 0 (Nat.le_of_ble_eq_true rfl) hv_X9_indexOf_9 rfl h_2 rfl dX9_indexOf_11 ?_
    refine z_iload_n B dX9_indexOf_14 rfl 0 rfl ?_
    obtain ⟨f_1, h_3⟩ := in21 (k := 122) hI1 rfl
    have h_4 : Φl1 (x + 122) = some (al_ G 24 f_1) := h_3
    refine z_lald B h_4 (vp_in_nI (by omega) (by omega)) dX9_indexOf_15 ?_
    refine z_fl (fun v_1 => ?_)
    refine z_lload_n B dX9_indexOf_16 rfl 2 rfl ?_
    refine z_lcmp B dX9_indexOf_17 ?_
    refine z_fi (fun v_2 => ?_)
    refine z_if_ne (tgt := 23) B dX9_indexOf_18 rfl (fun c_2 => ?_) (fun c_2 => ?_)
    · refine z_iinc (k := 0) (v := nI (i_1 + 1)) (lv' := [(3, .int (nI (i_1 + 1))), (0, .ref (x + 121)), (1, .long a)]) B dX9_indexOf_23 rfl (nI_add i_1 1) (Nat.le_of_ble_eq_true rfl) rfl ?_
      refine z_goto (tgt := 2) B dX9_indexOf_26 rfl ?_
      refine z_lv [0, 1, 2] rfl ?_
      exact ih1 (i_1 + 1) Φl1 (show 24 - (i_1 + 1) < 24 - i_1 by omega) ⟨hI1, (fun b9 h9 => ((hF1 b9 (fun j9 h8 h7 => (show False from h7).elim)).trans rfl)), (show (i_1 + 1) ≤ 24 by omega), trivial⟩
    · refine z_iload_n B dX9_indexOf_21 rfl 0 rfl ?_
      exact z_ret_i B dX9_indexOf_22 ⟨⟨_, rfl⟩, rfl, hI1, (fun b9 h9 => ((hF1 b9 (fun j9 h8 h7 => (show False from h7).elim)).trans rfl))⟩

theorem hu_X9_indexOrNew_X9 : ∀ w ∈ u_ws RX9 TX9 5, w ∈ wsX9_indexOrNew := fun _ h => List.mem_cons_of_mem _ (List.mem_append_left _ (List.mem_append_right _ (h)))

theorem hv_X9_indexOrNew_28 : Cond.fieldLink RX9 28 "FlowExporter$Sums" (TX9 4).2.1 (TX9 4).2.2.1 ∈ wsX9_indexOrNew := List.mem_cons_of_mem _ (List.mem_append_left _ (List.mem_append_left _ (List.mem_of_getElem? (i := 0) rfl)))

theorem hv_X9_indexOrNew_9 : Cond.fieldLink RX9 9 "FlowExporter$Sums" (TX9 0).2.1 (TX9 0).2.2.1 ∈ wsX9_indexOrNew := List.mem_cons_of_mem _ (List.mem_append_left _ (List.mem_append_left _ (List.mem_of_getElem? (i := 1) rfl)))

theorem fq_311 {x : Nat} : ∀ j9 : Nat, x + 121 = x + j9 → (122 ≤ j9 ∧ j9 < 132) → False := by
  intro j9 h1 h2
  omega

theorem fq_312 : ∀ j9 : Nat, (122 ≤ j9 ∧ j9 < 132) → (121 ≤ j9 ∧ j9 < 132) := by
  intro j9 h
  omega

theorem hv_X9_indexOrNew_17 : Cond.fieldLink RX9 17 "FlowExporter$Sums" (TX9 1).2.1 (TX9 1).2.2.1 ∈ wsX9_indexOrNew := List.mem_cons_of_mem _ (List.mem_append_left _ (List.mem_append_left _ (List.mem_of_getElem? (i := 2) rfl)))

theorem hv_X9_indexOrNew_20 : Cond.fieldLink RX9 20 "FlowExporter$Sums" (TX9 2).2.1 (TX9 2).2.2.1 ∈ wsX9_indexOrNew := List.mem_cons_of_mem _ (List.mem_append_left _ (List.mem_append_left _ (List.mem_of_getElem? (i := 3) rfl)))

theorem hv_X9_indexOrNew_25 : Cond.fieldLink RX9 25 "FlowExporter$Sums" (TX9 3).2.1 (TX9 3).2.2.1 ∈ wsX9_indexOrNew := List.mem_cons_of_mem _ (List.mem_append_left _ (List.mem_append_left _ (List.mem_of_getElem? (i := 4) rfl)))

set_option maxHeartbeats 4000000 in
set_option maxRecDepth 100000 in
theorem s_X9_indexOrNew (G : EnvG) (l : Launch) (Φ : Hm) (sz x ca : Nat) (a : Int64) (hx : G.2.2.2 ≤ x) (hI : In G x ca Φ)  : Ct G l yX9_indexOrNew wsX9_indexOrNew ({ frames := 1, cells := 0, slots := 0, locals := 23 }) 0 0 [.ref (x + 121), .long a] Φ sz (fun v Φ1 sz1 => (∃ r9 : Int32, v = some (.int r9)) ∧ sz1 = sz ∧ In G x (ca) Φ1 ∧ Fr x (fun j9 => 121 ≤ j9 ∧ j9 < 132) Φ Φ1) := by
  refine Ct.of (cc := cX9_indexOrNew) (maxL := 5) (ret := (some .int)) (by decide) rfl (Nat.le_of_ble_eq_true rfl) ?_
  intro p9 e9 s9 m9 w9 t9 k9 B
  show Z p9 l e9 _ s9 m9 _ w9 t9 k9 _ G 5 0 [(0, .ref (x + 121)), (1, .long a)] [] Φ sz 0 0
  refine z_aload_n B dX9_indexOrNew_0 rfl 0 rfl ?_
  refine z_lload_n B dX9_indexOrNew_1 rfl 1 rfl ?_
  obtain ⟨n_1, h_1, b_1⟩ := in20 (k := 121) hI rfl
  have h_2 : Φ (x + 121) = some (o_ 11 [.ref (x + 122), .ref (x + 123), .ref (x + 126), .ref (x + 129), .int (nI n_1)]) := h_1
  refine z_callV (As := [.long a]) (rest := []) B (s_X9_indexOf G l Φ sz x (ca) a hx hI ) (cwV 1 B.1.2.2.2.2 gX9_indexOrNew_X9_indexOf rfl rfl rfl (by decide +kernel) ⟨Nat.le_of_ble_eq_true rfl, Nat.le_of_ble_eq_true rfl⟩) h_2 rfl rfl rfl rfl (Nat.le_of_ble_eq_true rfl) dX9_indexOrNew_2 ⟨Nat.le_of_ble_eq_true rfl, Nat.le_of_ble_eq_true rfl⟩ (fun r_1 Φ1 sz1 st1 hp1 hs1 => ?_)
  obtain ⟨⟨v_1, rfl⟩, hq1, hI1, hF1⟩ := hp1
  subst sz1
  replace hs1 : st1 = [.int v_1] := hs1
  subst st1
  replace hI1 : In G x (ca) Φ1 := hI1
  refine z_istore_n (lv' := [(3, .int v_1), (0, .ref (x + 121)), (1, .long a)]) B dX9_indexOrNew_5 rfl (Nat.le_of_ble_eq_true rfl) rfl ?_
  refine z_iload_n B dX9_indexOrNew_6 rfl 0 rfl ?_
  refine z_iconst (v := (-1)) B dX9_indexOrNew_7 rfl ?_
  refine z_icmp_ne (tgt := 20) B dX9_indexOrNew_8 rfl (fun c_1 => ?_) (fun c_1 => ?_)
  · refine z_iload_n B dX9_indexOrNew_20 rfl 0 rfl ?_
    exact z_ret_i B dX9_indexOrNew_21 ⟨⟨_, rfl⟩, rfl, hI1, (fun b9 h9 => ((hF1 b9 (fun j9 h8 h7 => (show False from h7).elim)).trans rfl))⟩
  · refine z_aload_n B dX9_indexOrNew_11 rfl 1 rfl ?_
    have h_3 : Φ1 (x + 121) = some (o_ 11 [.ref (x + 122), .ref (x + 123), .ref (x + 126), .ref (x + 129), .int (nI n_1)]) := ((hF1 (x + 121) (fun j9 h8 h7 => (show False from h7).elim)).trans h_2)
    refine z_get (ref := "FlowExporter$Sums") (C := RX9) (T := TX9) (N := 5) (ci := 11) (v := .int (nI n_1)) B hu_X9_indexOrNew_X9 rfl 4 (Nat.le_of_ble_eq_true rfl) hv_X9_indexOrNew_28 rfl h_3 rfl dX9_indexOrNew_12 ?_
    refine z_bipush (v := 24) B dX9_indexOrNew_15 rfl ?_
    refine z_icmp_lt (tgt := 22) B dX9_indexOrNew_17 rfl (fun c_2 => ?_) (fun c_2 => ?_)
    · have e_1 : n_1 < 24 := (nI_ltI (a := n_1) (b := 24) (by omega) (by omega)).mp c_2
      refine z_aload_n B dX9_indexOrNew_22 rfl 1 rfl ?_
      refine z_get (ref := "FlowExporter$Sums") (C := RX9) (T := TX9) (N := 5) (ci := 11) (v := .ref (x + 122)) B hu_X9_indexOrNew_X9 rfl 0 (Nat.le_of_ble_eq_true rfl) hv_X9_indexOrNew_9 rfl h_3 rfl dX9_indexOrNew_23 ?_
      refine z_aload_n B dX9_indexOrNew_26 rfl 1 rfl ?_
      refine z_get (ref := "FlowExporter$Sums") (C := RX9) (T := TX9) (N := 5) (ci := 11) (v := .int (nI n_1)) B hu_X9_indexOrNew_X9 rfl 4 (Nat.le_of_ble_eq_true rfl) hv_X9_indexOrNew_28 rfl h_3 rfl dX9_indexOrNew_27 ?_
      refine z_lload_n B dX9_indexOrNew_30 rfl 2 rfl ?_
      obtain ⟨f_1, h_4⟩ := in21 (k := 122) hI1 rfl
      have h_5 : Φ1 (x + 122) = some (al_ G 24 f_1) := h_4
      refine z_last B h_5 (Nat.le_trans hx (Nat.le_add_right x 122)) (vp_in_nI (by omega) (by omega)) dX9_indexOrNew_31 (fun Φ2 hΦ1 => ?_)
      have h_6 : Φ2 (x + 122) = some (al_ G 24 (vp_updL f_1 (nI n_1).toNatClampNeg a)) := fset_at hΦ1
      have hI2 : In G x (ca) Φ2 := In.put (k := 122) hI1 hΦ1 (ok21 (k := 122) rfl ⟨_, rfl⟩)
      refine z_iconst (v := 0) B dX9_indexOrNew_32 rfl ?_
      refine z_istore (lv' := [(4, .int 0), (3, .int v_1), (0, .ref (x + 121)), (1, .long a)]) B dX9_indexOrNew_33 (Nat.le_of_ble_eq_true rfl) rfl ?_
      refine z_lv [0, 1, 2, 3] rfl ?_
      refine z_loop (α := Nat) (fun (a9 : Nat) Φi => In G x (ca) Φi ∧ Fr x (fun j9 => 122 ≤ j9 ∧ j9 < 132) Φ2 Φi ∧ (a9 ≤ 2) ∧ True) (fun a9 => [(4, .int (nI a9)), (3, .int v_1), (0, .ref (x + 121)), (1, .long a)]) (fun a9 => 2 - a9) ?_ (0) ⟨hI2, fun _ _ => rfl, (show 0 ≤ 2 by omega), trivial⟩
      rintro i_1 Φl1 ⟨hI3, hF2, b_2, -⟩ ih1
      replace hI3 : In G x (ca) Φl1 := hI3
      replace b_2 : i_1 ≤ 2 := b_2
      show Z p9 l e9 _ s9 m9 _ w9 t9 k9 _ G 5 35 [(4, .int (nI i_1)), (3, .int v_1), (0, .ref (x + 121)), (1, .long a)] [] Φl1 _ _ _
      refine z_iload B dX9_indexOrNew_35 0 rfl ?_
      refine z_iconst (v := 2) B dX9_indexOrNew_37 rfl ?_
      refine z_icmp_ge (tgt := 86) B dX9_indexOrNew_38 rfl (fun c_3 => ?_) (fun c_3 => ?_)
      · have e_2 : 2 ≤ i_1 := (nI_leI (a := 2) (b := i_1) (by omega) (by omega)).mp c_3
        refine z_aload_n B dX9_indexOrNew_86 rfl 2 rfl ?_
        refine z_dup B dX9_indexOrNew_87 rfl ?_
        have h_7 : Φl1 (x + 121) = some (o_ 11 [.ref (x + 122), .ref (x + 123), .ref (x + 126), .ref (x + 129), .int (nI n_1)]) := ((hF2 (x + 121) fq_311).trans ((fset_fr hΦ1 (ne_off (x := x) (i := 121) (j := 122) rfl)).trans h_3))
        refine z_get (ref := "FlowExporter$Sums") (C := RX9) (T := TX9) (N := 5) (ci := 11) (v := .int (nI n_1)) B hu_X9_indexOrNew_X9 rfl 4 (Nat.le_of_ble_eq_true rfl) hv_X9_indexOrNew_28 rfl h_7 rfl dX9_indexOrNew_88 ?_
        refine z_iconst (v := 1) B dX9_indexOrNew_91 rfl ?_
        refine z_iadd B dX9_indexOrNew_92 ?_
        refine z_top (st1 := [.int (nI (n_1 + 1)), .ref (x + 121)]) (congrArg (fun w9 : Int32 => ([.int w9, .ref (x + 121)] : List Value)) (nI_add n_1 1)) ?_
        refine z_put (ref := "FlowExporter$Sums") (C := RX9) (T := TX9) (N := 5) (ci := 11) (v := .int (nI (n_1 + 1))) B hu_X9_indexOrNew_X9 tyX9 tyX9_ok nmX9 rfl 4 (Nat.le_of_ble_eq_true rfl) hv_X9_indexOrNew_28 rfl (Or.inl rfl) h_7 (Nat.le_trans hx (Nat.le_add_right x 121)) rfl rfl (Nat.le_of_ble_eq_true rfl) dX9_indexOrNew_93 (fun Φ3 hΦ2 => ?_)
        have h_8 : Φ3 (x + 121) = some (o_ 11 [.ref (x + 122), .ref (x + 123), .ref (x + 126), .ref (x + 129), .int (nI (n_1 + 1))]) := fset_at hΦ2
        have hI4 : In G x (ca) Φ3 := In.put (k := 121) hI3 hΦ2 (ok20 (k := 121) rfl ⟨n_1 + 1, rfl, (show n_1 + 1 ≤ 24 by omega)⟩)
        refine z_aload_n B dX9_indexOrNew_96 rfl 2 rfl ?_
        refine z_get (ref := "FlowExporter$Sums") (C := RX9) (T := TX9) (N := 5) (ci := 11) (v := .int (nI (n_1 + 1))) B hu_X9_indexOrNew_X9 rfl 4 (Nat.le_of_ble_eq_true rfl) hv_X9_indexOrNew_28 rfl h_8 rfl dX9_indexOrNew_97 ?_
        refine z_iconst (v := 1) B dX9_indexOrNew_100 rfl ?_
        refine z_isub B dX9_indexOrNew_101 ?_
        refine z_top (st1 := [.int (nI ((n_1 + 1) - 1))]) (congrArg (fun w9 : Int32 => ([.int w9] : List Value)) (nI_sub (show 1 ≤ n_1 + 1 by omega))) ?_
        exact z_ret_i B dX9_indexOrNew_102 ⟨⟨_, rfl⟩, rfl, hI4, (fun b9 h9 => ((fset_fr hΦ2 (fun h8 => h9 (121) h8 (show 121 ≤ 121 ∧ 121 < 132 by decide))).trans ((hF2 b9 (fun j9 h8 h7 => h9 j9 h8 (fq_312 j9 h7))).trans ((fset_fr hΦ1 (fun h8 => h9 (122) h8 (show 121 ≤ 122 ∧ 122 < 132 by decide))).trans ((hF1 b9 (fun j9 h8 h7 => (show False from h7).elim)).trans rfl)))))⟩
      · have e_3 : ¬ (2 ≤ i_1) := fun h9 => c_3 ((nI_leI (a := 2) (b := i_1) (by omega) (by omega)).mpr h9)
        refine z_aload_n B dX9_indexOrNew_41 rfl 2 rfl ?_
        have h_9 : Φl1 (x + 121) = some (o_ 11 [.ref (x + 122), .ref (x + 123), .ref (x + 126), .ref (x + 129), .int (nI n_1)]) := ((hF2 (x + 121) fq_311).trans ((fset_fr hΦ1 (ne_off (x := x) (i := 121) (j := 122) rfl)).trans h_3))
        refine z_get (ref := "FlowExporter$Sums") (C := RX9) (T := TX9) (N := 5) (ci := 11) (v := .ref (x + 123)) B hu_X9_indexOrNew_X9 rfl 1 (Nat.le_of_ble_eq_true rfl) hv_X9_indexOrNew_17 rfl h_9 rfl dX9_indexOrNew_42 ?_
        refine z_iload B dX9_indexOrNew_45 0 rfl ?_
        obtain ⟨f_2, h_10, r_2⟩ := in22 (k := 123) hI3 rfl
        have h_11 : Φl1 (x + 123) = some (aq_ G 7 2 f_2) := h_10
        refine z_aaldA (b := x + (123 + 1 + i_1)) B rfl h_11 (vp_in_nI (by omega) (by omega)) ((congrArg f_2 (nI_clamp (by omega))).trans (r_2 i_1 (by omega))) dX9_indexOrNew_47 ?_
        refine z_aload_n B dX9_indexOrNew_48 rfl 2 rfl ?_
        refine z_get (ref := "FlowExporter$Sums") (C := RX9) (T := TX9) (N := 5) (ci := 11) (v := .int (nI n_1)) B hu_X9_indexOrNew_X9 rfl 4 (Nat.le_of_ble_eq_true rfl) hv_X9_indexOrNew_28 rfl h_9 rfl dX9_indexOrNew_49 ?_
        refine z_lconst (v := 0) B dX9_indexOrNew_52 rfl ?_
        obtain ⟨f_3, h_12⟩ := in21 (k := 123 + 1 + i_1) hI3 (kd_2a (by omega))
        have h_13 : Φl1 (x + (123 + 1 + i_1)) = some (al_ G 24 f_3) := h_12
        refine z_last B h_13 (by omega) (vp_in_nI (by omega) (by omega)) dX9_indexOrNew_53 (fun Φ4 hΦ3 => ?_)
        have h_14 : Φ4 (x + (123 + 1 + i_1)) = some (al_ G 24 (vp_updL f_3 (nI n_1).toNatClampNeg 0)) := fset_at hΦ3
        have hI5 : In G x (ca) Φ4 := In.put (k := 123 + 1 + i_1) hI3 hΦ3 (ok21 (k := 123 + 1 + i_1) (kd_2a (by omega)) ⟨_, rfl⟩)
        refine z_aload_n B dX9_indexOrNew_54 rfl 2 rfl ?_
        have h_15 : Φ4 (x + 121) = some (o_ 11 [.ref (x + 122), .ref (x + 123), .ref (x + 126), .ref (x + 129), .int (nI n_1)]) := ((fset_fr hΦ3 (by omega)).trans h_9)
        refine z_get (ref := "FlowExporter$Sums") (C := RX9) (T := TX9) (N := 5) (ci := 11) (v := .ref (x + 126)) B hu_X9_indexOrNew_X9 rfl 2 (Nat.le_of_ble_eq_true rfl) hv_X9_indexOrNew_20 rfl h_15 rfl dX9_indexOrNew_55 ?_
        refine z_iload B dX9_indexOrNew_58 0 rfl ?_
        obtain ⟨f_4, h_16, r_3⟩ := in22 (k := 126) hI5 rfl
        have h_17 : Φ4 (x + 126) = some (aq_ G 7 2 f_4) := h_16
        refine z_aaldA (b := x + (126 + 1 + i_1)) B rfl h_17 (vp_in_nI (by omega) (by omega)) ((congrArg f_4 (nI_clamp (by omega))).trans (r_3 i_1 (by omega))) dX9_indexOrNew_60 ?_
        refine z_aload_n B dX9_indexOrNew_61 rfl 2 rfl ?_
        refine z_get (ref := "FlowExporter$Sums") (C := RX9) (T := TX9) (N := 5) (ci := 11) (v := .int (nI n_1)) B hu_X9_indexOrNew_X9 rfl 4 (Nat.le_of_ble_eq_true rfl) hv_X9_indexOrNew_28 rfl h_15 rfl dX9_indexOrNew_62 ?_
        refine z_lconst (v := 0) B dX9_indexOrNew_65 rfl ?_
        obtain ⟨f_5, h_18⟩ := in21 (k := 126 + 1 + i_1) hI5 (kd_2b (by omega))
        have h_19 : Φ4 (x + (126 + 1 + i_1)) = some (al_ G 24 f_5) := h_18
        refine z_last B h_19 (by omega) (vp_in_nI (by omega) (by omega)) dX9_indexOrNew_66 (fun Φ5 hΦ4 => ?_)
        have h_20 : Φ5 (x + (126 + 1 + i_1)) = some (al_ G 24 (vp_updL f_5 (nI n_1).toNatClampNeg 0)) := fset_at hΦ4
        have hI6 : In G x (ca) Φ5 := In.put (k := 126 + 1 + i_1) hI5 hΦ4 (ok21 (k := 126 + 1 + i_1) (kd_2b (by omega)) ⟨_, rfl⟩)
        refine z_aload_n B dX9_indexOrNew_67 rfl 2 rfl ?_
        have h_21 : Φ5 (x + 121) = some (o_ 11 [.ref (x + 122), .ref (x + 123), .ref (x + 126), .ref (x + 129), .int (nI n_1)]) := ((fset_fr hΦ4 (by omega)).trans h_15)
        refine z_get (ref := "FlowExporter$Sums") (C := RX9) (T := TX9) (N := 5) (ci := 11) (v := .ref (x + 129)) B hu_X9_indexOrNew_X9 rfl 3 (Nat.le_of_ble_eq_true rfl) hv_X9_indexOrNew_25 rfl h_21 rfl dX9_indexOrNew_68 ?_
        refine z_iload B dX9_indexOrNew_71 0 rfl ?_
        obtain ⟨f_6, h_22, r_4⟩ := in23 (k := 129) hI6 rfl
        have h_23 : Φ5 (x + 129) = some (aq_ G 8 2 f_6) := h_22
        refine z_aaldA (b := x + (129 + 1 + i_1)) B rfl h_23 (vp_in_nI (by omega) (by omega)) ((congrArg f_6 (nI_clamp (by omega))).trans (r_4 i_1 (by omega))) dX9_indexOrNew_73 ?_
        refine z_aload_n B dX9_indexOrNew_74 rfl 2 rfl ?_
        refine z_get (ref := "FlowExporter$Sums") (C := RX9) (T := TX9) (N := 5) (ci := 11) (v := .int (nI n_1)) B hu_X9_indexOrNew_X9 rfl 4 (Nat.le_of_ble_eq_true rfl) hv_X9_indexOrNew_28 rfl h_21 rfl dX9_indexOrNew_75 ?_
        refine z_dconst0 B dX9_indexOrNew_78 ?_
        obtain ⟨f_7, h_24, r_5⟩ := in24 (k := 129 + 1 + i_1) hI6 (kd_2c (by omega))
        have h_25 : Φ5 (x + (129 + 1 + i_1)) = some (ad_ G 24 f_7) := h_24
        refine z_dast B h_25 (by omega) (vp_in_nI (by omega) (by omega)) dX9_indexOrNew_79 (fun Φ6 hΦ5 => ?_)
        have h_26 : Φ6 (x + (129 + 1 + i_1)) = some (ad_ G 24 (vf_upd f_7 (nI n_1).toNatClampNeg FP.dconst0)) := fset_at hΦ5
        have hI7 : In G x (ca) Φ6 := In.put (k := 129 + 1 + i_1) hI6 hΦ5 (ok24 (k := 129 + 1 + i_1) (kd_2c (by omega)) ⟨_, rfl, pd_upd r_5 pd_zero⟩)
        refine z_iinc (k := 0) (v := nI (i_1 + 1)) (lv' := [(4, .int (nI (i_1 + 1))), (3, .int v_1), (0, .ref (x + 121)), (1, .long a)]) B dX9_indexOrNew_80 rfl (nI_add i_1 1) (Nat.le_of_ble_eq_true rfl) rfl ?_
        refine z_goto (tgt := 35) B dX9_indexOrNew_83 rfl ?_
        refine z_lv [0, 1, 2, 3] rfl ?_
        exact ih1 (i_1 + 1) Φ6 (show 2 - (i_1 + 1) < 2 - i_1 by omega) ⟨hI7, (fun b9 h9 => ((fset_fr hΦ5 (fun h8 => h9 (129 + 1 + i_1) h8 (show 122 ≤ (129 + 1 + i_1) ∧ (129 + 1 + i_1) < 132 by omega))).trans ((fset_fr hΦ4 (fun h8 => h9 (126 + 1 + i_1) h8 (show 122 ≤ (126 + 1 + i_1) ∧ (126 + 1 + i_1) < 132 by omega))).trans ((fset_fr hΦ3 (fun h8 => h9 (123 + 1 + i_1) h8 (show 122 ≤ (123 + 1 + i_1) ∧ (123 + 1 + i_1) < 132 by omega))).trans ((hF2 b9 h9).trans rfl))))), (show (i_1 + 1) ≤ 2 by omega), trivial⟩
    · have e_4 : ¬ (n_1 < 24) := fun h9 => c_2 ((nI_ltI (a := n_1) (b := 24) (by omega) (by omega)).mpr h9)
      refine z_iload_n B dX9_indexOrNew_20 rfl 0 rfl ?_
      exact z_ret_i B dX9_indexOrNew_21 ⟨⟨_, rfl⟩, rfl, hI1, (fun b9 h9 => ((hF1 b9 (fun j9 h8 h7 => (show False from h7).elim)).trans rfl))⟩

set_option maxHeartbeats 4000000 in
set_option maxRecDepth 100000 in
theorem s_X9_timesPowerOfTwo (G : EnvG) (l : Launch) (Φ : Hm) (sz x ca : Nat) (a : Int64) (b : Int32) (hx : G.2.2.2 ≤ x) (hI : In G x ca Φ)  : Ct G l yX9_timesPowerOfTwo wsX9_timesPowerOfTwo ({ frames := 0, cells := 0, slots := 0, locals := 0 }) 0 0 [.long a, .int b] Φ sz (fun v Φ1 sz1 => (∃ r9 : UInt64, v = some (.double r9) ∧ nn64 r9) ∧ sz1 = sz ∧ In G x (ca) Φ1 ∧ Fr x (fun j9 => False) Φ Φ1) := by
  refine Ct.of (cc := cX9_timesPowerOfTwo) (maxL := 6) (ret := (some .double)) (by decide) rfl (Nat.le_of_ble_eq_true rfl) ?_
  intro p9 e9 s9 m9 w9 t9 k9 B
  show Z p9 l e9 _ s9 m9 _ w9 t9 k9 _ G 6 0 [(0, .long a), (2, .int b)] [] Φ sz 0 0
  refine z_lload_n B dX9_timesPowerOfTwo_0 rfl 0 rfl ?_
  refine z_l2d B dX9_timesPowerOfTwo_1 ?_
  refine z_fdq (P := fun u9 : UInt64 => sm64 12 u9) (l2d_sm a) (fun v_1 q_2 => ?_)
  replace q_2 : sm64 12 v_1 := q_2
  refine z_dstore_n (lv' := [(3, .double v_1), (0, .long a), (2, .int b)]) B dX9_timesPowerOfTwo_2 rfl (Nat.le_of_ble_eq_true rfl) rfl ?_
  refine z_iconst (v := 0) B dX9_timesPowerOfTwo_3 rfl ?_
  refine z_istore (lv' := [(5, .int 0), (3, .double v_1), (0, .long a), (2, .int b)]) B dX9_timesPowerOfTwo_4 (Nat.le_of_ble_eq_true rfl) rfl ?_
  refine z_lv [0, 1, 2, 3] rfl ?_
  refine z_loop (α := Int32 × UInt64) (fun (a9 : Int32 × UInt64) Φi => In G x (ca) Φi ∧ Fr x (fun j9 => False) Φ Φi ∧ (nn64 a9.2) ∧ True) (fun a9 => [(5, .int a9.1), (3, .double a9.2), (0, .long a), (2, .int b)]) (fun a9 => ((b).toInt - (a9.1).toInt).toNat) ?_ (0, v_1) ⟨hI, fun _ _ => rfl, (sm_nn q_2), trivial⟩
  rintro ⟨i_1, i_2⟩ Φl1 ⟨hI1, hF1, b_1, -⟩ ih1
  replace hI1 : In G x (ca) Φl1 := hI1
  replace b_1 : nn64 i_2 := b_1
  show Z p9 l e9 _ s9 m9 _ w9 t9 k9 _ G 6 6 [(5, .int i_1), (3, .double i_2), (0, .long a), (2, .int b)] [] Φl1 _ _ _
  refine z_iload B dX9_timesPowerOfTwo_6 0 rfl ?_
  refine z_iload_n B dX9_timesPowerOfTwo_8 rfl 3 rfl ?_
  refine z_icmp_ge (tgt := 24) B dX9_timesPowerOfTwo_9 rfl (fun c_1 => ?_) (fun c_1 => ?_)
  · refine z_iload_n B dX9_timesPowerOfTwo_24 rfl 3 rfl ?_
    refine z_istore (lv' := [(5, .int b), (3, .double i_2), (0, .long a), (2, .int b)]) B dX9_timesPowerOfTwo_25 (Nat.le_of_ble_eq_true rfl) rfl ?_
    refine z_lv [0, 1, 2, 3] rfl ?_
    refine z_loop (α := Int32 × UInt64) (fun (a9 : Int32 × UInt64) Φi => In G x (ca) Φi ∧ Fr x (fun j9 => False) Φl1 Φi ∧ (nn64 a9.2) ∧ True) (fun a9 => [(5, .int a9.1), (3, .double a9.2), (0, .long a), (2, .int b)]) (fun a9 => ((0 : Int32).toInt - (a9.1).toInt).toNat) ?_ (b, i_2) ⟨hI1, fun _ _ => rfl, b_1, trivial⟩
    rintro ⟨i_3, i_4⟩ Φl2 ⟨hI2, hF2, b_2, -⟩ ih2
    replace hI2 : In G x (ca) Φl2 := hI2
    replace b_2 : nn64 i_4 := b_2
    show Z p9 l e9 _ s9 m9 _ w9 t9 k9 _ G 6 27 [(5, .int i_3), (3, .double i_4), (0, .long a), (2, .int b)] [] Φl2 _ _ _
    refine z_iload B dX9_timesPowerOfTwo_27 0 rfl ?_
    refine z_if_ge (tgt := 44) B dX9_timesPowerOfTwo_29 rfl (fun c_2 => ?_) (fun c_2 => ?_)
    · obtain ⟨n_1, e_1, rfl⟩ := nI_of (Int32.not_lt.mpr c_2)
      refine z_dload_n B dX9_timesPowerOfTwo_44 rfl 1 rfl ?_
      exact z_ret_d B dX9_timesPowerOfTwo_45 ⟨⟨_, rfl, b_2⟩, rfl, hI2, (fun b9 h9 => ((hF2 b9 (fun j9 h8 h7 => (show False from h7).elim)).trans ((hF1 b9 (fun j9 h8 h7 => (show False from h7).elim)).trans rfl)))⟩
    · refine z_dload_n B dX9_timesPowerOfTwo_32 rfl 1 rfl ?_
      refine z_ldc2d (v := 4611686018427387904) B (by decide +kernel) dX9_timesPowerOfTwo_33 ?_
      have q_4 : nn64 (FP.ddiv i_4 4611686018427387904) := (div_nnw b_2 (w_of (u := 4611686018427387904) (s := false) (c := 4503599627370496) (q := -51) (by decide +kernel) (by decide)))
      refine z_ddiv B dX9_timesPowerOfTwo_36 (vf_of q_4) ?_
      refine z_fdq (P := fun u9 : UInt64 => nn64 u9) q_4 (fun v_2 q_6 => ?_)
      replace q_6 : nn64 v_2 := q_6
      refine z_dstore_n (lv' := [(3, .double v_2), (5, .int i_3), (0, .long a), (2, .int b)]) B dX9_timesPowerOfTwo_37 rfl (Nat.le_of_ble_eq_true rfl) rfl ?_
      refine z_iinc (k := 1) (v := i_3 + 1) (lv' := [(5, .int (i_3 + 1)), (3, .double v_2), (0, .long a), (2, .int b)]) B dX9_timesPowerOfTwo_38 rfl rfl (Nat.le_of_ble_eq_true rfl) rfl ?_
      refine z_goto (tgt := 27) B dX9_timesPowerOfTwo_41 rfl ?_
      refine z_lv [0, 1, 2, 3] rfl ?_
      exact ih2 (i_3 + 1, v_2) Φl2 (up_dec c_2) ⟨hI2, (fun b9 h9 => ((hF2 b9 (fun j9 h8 h7 => (show False from h7).elim)).trans rfl)), q_6, trivial⟩
  · refine z_dload_n B dX9_timesPowerOfTwo_12 rfl 1 rfl ?_
    refine z_ldc2d (v := 4611686018427387904) B (by decide +kernel) dX9_timesPowerOfTwo_13 ?_
    have q_8 : nn64 (FP.dmul i_2 4611686018427387904) := (mul_nnw b_1 (w_of (u := 4611686018427387904) (s := false) (c := 4503599627370496) (q := -51) (by decide +kernel) (by decide)))
    refine z_dmul B dX9_timesPowerOfTwo_16 (vf_of q_8) ?_
    refine z_fdq (P := fun u9 : UInt64 => nn64 u9) q_8 (fun v_3 q_10 => ?_)
    replace q_10 : nn64 v_3 := q_10
    refine z_dstore_n (lv' := [(3, .double v_3), (5, .int i_1), (0, .long a), (2, .int b)]) B dX9_timesPowerOfTwo_17 rfl (Nat.le_of_ble_eq_true rfl) rfl ?_
    refine z_iinc (k := 1) (v := i_1 + 1) (lv' := [(5, .int (i_1 + 1)), (3, .double v_3), (0, .long a), (2, .int b)]) B dX9_timesPowerOfTwo_18 rfl rfl (Nat.le_of_ble_eq_true rfl) rfl ?_
    refine z_goto (tgt := 6) B dX9_timesPowerOfTwo_21 rfl ?_
    refine z_lv [0, 1, 2, 3] rfl ?_
    exact ih1 (i_1 + 1, v_3) Φl1 (up_dec c_1) ⟨hI1, (fun b9 h9 => ((hF1 b9 (fun j9 h8 h7 => (show False from h7).elim)).trans rfl)), q_10, trivial⟩

set_option maxHeartbeats 4000000 in
set_option maxRecDepth 100000 in
theorem s_X9_scaledRoot (G : EnvG) (l : Launch) (Φ : Hm) (sz x ca : Nat) (a : Int64) (hx : G.2.2.2 ≤ x) (hI : In G x ca Φ)  : Ct G l yX9_scaledRoot wsX9_scaledRoot ({ frames := 0, cells := 0, slots := 0, locals := 0 }) 0 0 [.long a] Φ sz (fun v Φ1 sz1 => (∃ r9 : Int64, v = some (.long r9)) ∧ sz1 = sz ∧ In G x (ca) Φ1 ∧ Fr x (fun j9 => False) Φ Φ1) := by
  refine Ct.of (cc := cX9_scaledRoot) (maxL := 11) (ret := (some .long)) (by decide) rfl (Nat.le_of_ble_eq_true rfl) ?_
  intro p9 e9 s9 m9 w9 t9 k9 B
  show Z p9 l e9 _ s9 m9 _ w9 t9 k9 _ G 11 0 [(0, .long a)] [] Φ sz 0 0
  refine z_lconst (v := 0) B dX9_scaledRoot_0 rfl ?_
  refine z_lstore_n (lv' := [(2, .long 0), (0, .long a)]) B dX9_scaledRoot_1 rfl (Nat.le_of_ble_eq_true rfl) rfl ?_
  refine z_lconst (v := 0) B dX9_scaledRoot_2 rfl ?_
  refine z_lstore (lv' := [(4, .long 0), (2, .long 0), (0, .long a)]) B dX9_scaledRoot_3 (Nat.le_of_ble_eq_true rfl) rfl ?_
  refine z_bipush (v := 52) B dX9_scaledRoot_5 rfl ?_
  refine z_istore (lv' := [(6, .int 52), (4, .long 0), (2, .long 0), (0, .long a)]) B dX9_scaledRoot_7 (Nat.le_of_ble_eq_true rfl) rfl ?_
  refine z_lv [0, 1, 2, 3] rfl ?_
  refine z_loop (α := Int32 × Int64 × Int64) (fun (a9 : Int32 × Int64 × Int64) Φi => In G x (ca) Φi ∧ Fr x (fun j9 => False) Φ Φi ∧ True) (fun a9 => [(6, .int a9.1), (4, .long a9.2.1), (2, .long a9.2.2), (0, .long a)]) (fun a9 => ((a9.1).toInt + 1).toNat) ?_ (52, 0, 0) ⟨hI, fun _ _ => rfl, trivial⟩
  rintro ⟨i_1, i_2, i_3⟩ Φl1 ⟨hI1, hF1, -⟩ ih1
  replace hI1 : In G x (ca) Φl1 := hI1
  show Z p9 l e9 _ s9 m9 _ w9 t9 k9 _ G 11 9 [(6, .int i_1), (4, .long i_2), (2, .long i_3), (0, .long a)] [] Φl1 _ _ _
  refine z_iload B dX9_scaledRoot_9 0 rfl ?_
  refine z_if_lt (tgt := 91) B dX9_scaledRoot_11 rfl (fun c_1 => ?_) (fun c_1 => ?_)
  · refine z_lload B dX9_scaledRoot_91 1 rfl ?_
    refine z_lload_n B dX9_scaledRoot_93 rfl 2 rfl ?_
    refine z_lcmp B dX9_scaledRoot_94 ?_
    refine z_fi (fun v_1 => ?_)
    refine z_if_le (tgt := 104) B dX9_scaledRoot_95 rfl (fun c_2 => ?_) (fun c_2 => ?_)
    · refine z_lload_n B dX9_scaledRoot_104 rfl 2 rfl ?_
      exact z_ret_l B dX9_scaledRoot_105 ⟨⟨_, rfl⟩, rfl, hI1, (fun b9 h9 => ((hF1 b9 (fun j9 h8 h7 => (show False from h7).elim)).trans rfl))⟩
    · obtain ⟨n_1, e_2, e_1, rfl⟩ := nI_ofp c_2
      refine z_lload_n B dX9_scaledRoot_98 rfl 2 rfl ?_
      refine z_lconst (v := 1) B dX9_scaledRoot_99 rfl ?_
      refine z_ladd B dX9_scaledRoot_100 ?_
      refine z_fl (fun v_2 => ?_)
      refine z_goto (tgt := 105) B dX9_scaledRoot_101 rfl ?_
      exact z_ret_l B dX9_scaledRoot_105 ⟨⟨_, rfl⟩, rfl, hI1, (fun b9 h9 => ((hF1 b9 (fun j9 h8 h7 => (show False from h7).elim)).trans rfl))⟩
  · refine z_iload B dX9_scaledRoot_14 0 rfl ?_
    refine z_bipush (v := 26) B dX9_scaledRoot_16 rfl ?_
    refine z_icmp_lt (tgt := 37) B dX9_scaledRoot_18 rfl (fun c_3 => ?_) (fun c_3 => ?_)
    · refine z_lconst (v := 0) B dX9_scaledRoot_37 rfl ?_
      refine z_lstore (lv' := [(7, .long 0), (6, .int i_1), (4, .long i_2), (2, .long i_3), (0, .long a)]) B dX9_scaledRoot_38 (Nat.le_of_ble_eq_true rfl) rfl ?_
      refine z_ldc2 (v := 4) B (by decide +kernel) dX9_scaledRoot_40 ?_
      refine z_lload_n B dX9_scaledRoot_43 rfl 3 rfl ?_
      refine z_lmul B dX9_scaledRoot_44 ?_
      refine z_fl (fun v_3 => ?_)
      refine z_lconst (v := 1) B dX9_scaledRoot_45 rfl ?_
      refine z_ladd B dX9_scaledRoot_46 ?_
      refine z_fl (fun v_4 => ?_)
      refine z_lstore (lv' := [(9, .long v_4), (7, .long 0), (6, .int i_1), (4, .long i_2), (2, .long i_3), (0, .long a)]) B dX9_scaledRoot_47 (Nat.le_of_ble_eq_true rfl) rfl ?_
      refine z_ldc2 (v := 4) B (by decide +kernel) dX9_scaledRoot_49 ?_
      refine z_lload B dX9_scaledRoot_52 3 rfl ?_
      refine z_lmul B dX9_scaledRoot_54 ?_
      refine z_fl (fun v_5 => ?_)
      refine z_lload B dX9_scaledRoot_55 1 rfl ?_
      refine z_ladd B dX9_scaledRoot_57 ?_
      refine z_fl (fun v_6 => ?_)
      refine z_lstore (lv' := [(4, .long v_6), (9, .long v_4), (7, .long 0), (6, .int i_1), (2, .long i_3), (0, .long a)]) B dX9_scaledRoot_58 (Nat.le_of_ble_eq_true rfl) rfl ?_
      refine z_ldc2 (v := 2) B (by decide +kernel) dX9_scaledRoot_60 ?_
      refine z_lload_n B dX9_scaledRoot_63 rfl 4 rfl ?_
      refine z_lmul B dX9_scaledRoot_64 ?_
      refine z_fl (fun v_7 => ?_)
      refine z_lstore_n (lv' := [(2, .long v_7), (4, .long v_6), (9, .long v_4), (7, .long 0), (6, .int i_1), (0, .long a)]) B dX9_scaledRoot_65 rfl (Nat.le_of_ble_eq_true rfl) rfl ?_
      refine z_lload B dX9_scaledRoot_66 1 rfl ?_
      refine z_lload B dX9_scaledRoot_68 2 rfl ?_
      refine z_lcmp B dX9_scaledRoot_70 ?_
      refine z_fi (fun v_8 => ?_)
      refine z_if_lt (tgt := 85) B dX9_scaledRoot_71 rfl (fun c_4 => ?_) (fun c_4 => ?_)
      · refine z_iinc (k := 4) (v := i_1 + (-1)) (lv' := [(6, .int (i_1 + (-1))), (2, .long v_7), (4, .long v_6), (9, .long v_4), (7, .long 0), (0, .long a)]) B dX9_scaledRoot_85 rfl rfl (Nat.le_of_ble_eq_true rfl) rfl ?_
        refine z_goto (tgt := 9) B dX9_scaledRoot_88 rfl ?_
        refine z_lv [0, 2, 1, 5] rfl ?_
        exact ih1 (i_1 + (-1), v_6, v_7) Φl1 (down_dec c_1) ⟨hI1, (fun b9 h9 => ((hF1 b9 (fun j9 h8 h7 => (show False from h7).elim)).trans rfl)), trivial⟩
      · obtain ⟨n_2, e_3, rfl⟩ := nI_of c_4
        refine z_lload B dX9_scaledRoot_74 1 rfl ?_
        refine z_lload B dX9_scaledRoot_76 2 rfl ?_
        refine z_lsub B dX9_scaledRoot_78 ?_
        refine z_fl (fun v_9 => ?_)
        refine z_lstore (lv' := [(4, .long v_9), (2, .long v_7), (9, .long v_4), (7, .long 0), (6, .int i_1), (0, .long a)]) B dX9_scaledRoot_79 (Nat.le_of_ble_eq_true rfl) rfl ?_
        refine z_lload_n B dX9_scaledRoot_81 rfl 1 rfl ?_
        refine z_lconst (v := 1) B dX9_scaledRoot_82 rfl ?_
        refine z_ladd B dX9_scaledRoot_83 ?_
        refine z_fl (fun v_10 => ?_)
        refine z_lstore_n (lv' := [(2, .long v_10), (4, .long v_9), (9, .long v_4), (7, .long 0), (6, .int i_1), (0, .long a)]) B dX9_scaledRoot_84 rfl (Nat.le_of_ble_eq_true rfl) rfl ?_
        refine z_iinc (k := 4) (v := i_1 + (-1)) (lv' := [(6, .int (i_1 + (-1))), (2, .long v_10), (4, .long v_9), (9, .long v_4), (7, .long 0), (0, .long a)]) B dX9_scaledRoot_85 rfl rfl (Nat.le_of_ble_eq_true rfl) rfl ?_
        refine z_goto (tgt := 9) B dX9_scaledRoot_88 rfl ?_
        refine z_lv [0, 2, 1, 5] rfl ?_
        exact ih1 (i_1 + (-1), v_9, v_10) Φl1 (down_dec c_1) ⟨hI1, (fun b9 h9 => ((hF1 b9 (fun j9 h8 h7 => (show False from h7).elim)).trans rfl)), trivial⟩
    · refine z_lload_n B dX9_scaledRoot_21 rfl 3 rfl ?_
      refine z_iconst (v := 2) B dX9_scaledRoot_22 rfl ?_
      refine z_iload B dX9_scaledRoot_23 0 rfl ?_
      refine z_bipush (v := 26) B dX9_scaledRoot_25 rfl ?_
      refine z_isub B dX9_scaledRoot_27 ?_
      refine z_fi (fun v_11 => ?_)
      refine z_imul B dX9_scaledRoot_28 ?_
      refine z_fi (fun v_12 => ?_)
      refine z_lshr (v := a >>> ((v_12 : Int32).toInt64 &&& 63)) B dX9_scaledRoot_29 rfl ?_
      refine z_fl (fun v_13 => ?_)
      refine z_ldc2 (v := 3) B (by decide +kernel) dX9_scaledRoot_30 ?_
      refine z_land B dX9_scaledRoot_33 ?_
      refine z_fl (fun v_14 => ?_)
      refine z_goto (tgt := 38) B dX9_scaledRoot_34 rfl ?_
      refine z_lstore (lv' := [(7, .long v_14), (6, .int i_1), (4, .long i_2), (2, .long i_3), (0, .long a)]) B dX9_scaledRoot_38 (Nat.le_of_ble_eq_true rfl) rfl ?_
      refine z_ldc2 (v := 4) B (by decide +kernel) dX9_scaledRoot_40 ?_
      refine z_lload_n B dX9_scaledRoot_43 rfl 3 rfl ?_
      refine z_lmul B dX9_scaledRoot_44 ?_
      refine z_fl (fun v_15 => ?_)
      refine z_lconst (v := 1) B dX9_scaledRoot_45 rfl ?_
      refine z_ladd B dX9_scaledRoot_46 ?_
      refine z_fl (fun v_16 => ?_)
      refine z_lstore (lv' := [(9, .long v_16), (7, .long v_14), (6, .int i_1), (4, .long i_2), (2, .long i_3), (0, .long a)]) B dX9_scaledRoot_47 (Nat.le_of_ble_eq_true rfl) rfl ?_
      refine z_ldc2 (v := 4) B (by decide +kernel) dX9_scaledRoot_49 ?_
      refine z_lload B dX9_scaledRoot_52 3 rfl ?_
      refine z_lmul B dX9_scaledRoot_54 ?_
      refine z_fl (fun v_17 => ?_)
      refine z_lload B dX9_scaledRoot_55 1 rfl ?_
      refine z_ladd B dX9_scaledRoot_57 ?_
      refine z_fl (fun v_18 => ?_)
      refine z_lstore (lv' := [(4, .long v_18), (9, .long v_16), (7, .long v_14), (6, .int i_1), (2, .long i_3), (0, .long a)]) B dX9_scaledRoot_58 (Nat.le_of_ble_eq_true rfl) rfl ?_
      refine z_ldc2 (v := 2) B (by decide +kernel) dX9_scaledRoot_60 ?_
      refine z_lload_n B dX9_scaledRoot_63 rfl 4 rfl ?_
      refine z_lmul B dX9_scaledRoot_64 ?_
      refine z_fl (fun v_19 => ?_)
      refine z_lstore_n (lv' := [(2, .long v_19), (4, .long v_18), (9, .long v_16), (7, .long v_14), (6, .int i_1), (0, .long a)]) B dX9_scaledRoot_65 rfl (Nat.le_of_ble_eq_true rfl) rfl ?_
      refine z_lload B dX9_scaledRoot_66 1 rfl ?_
      refine z_lload B dX9_scaledRoot_68 2 rfl ?_
      refine z_lcmp B dX9_scaledRoot_70 ?_
      refine z_fi (fun v_20 => ?_)
      refine z_if_lt (tgt := 85) B dX9_scaledRoot_71 rfl (fun c_5 => ?_) (fun c_5 => ?_)
      · refine z_iinc (k := 4) (v := i_1 + (-1)) (lv' := [(6, .int (i_1 + (-1))), (2, .long v_19), (4, .long v_18), (9, .long v_16), (7, .long v_14), (0, .long a)]) B dX9_scaledRoot_85 rfl rfl (Nat.le_of_ble_eq_true rfl) rfl ?_
        refine z_goto (tgt := 9) B dX9_scaledRoot_88 rfl ?_
        refine z_lv [0, 2, 1, 5] rfl ?_
        exact ih1 (i_1 + (-1), v_18, v_19) Φl1 (down_dec c_1) ⟨hI1, (fun b9 h9 => ((hF1 b9 (fun j9 h8 h7 => (show False from h7).elim)).trans rfl)), trivial⟩
      · obtain ⟨n_3, e_4, rfl⟩ := nI_of c_5
        refine z_lload B dX9_scaledRoot_74 1 rfl ?_
        refine z_lload B dX9_scaledRoot_76 2 rfl ?_
        refine z_lsub B dX9_scaledRoot_78 ?_
        refine z_fl (fun v_21 => ?_)
        refine z_lstore (lv' := [(4, .long v_21), (2, .long v_19), (9, .long v_16), (7, .long v_14), (6, .int i_1), (0, .long a)]) B dX9_scaledRoot_79 (Nat.le_of_ble_eq_true rfl) rfl ?_
        refine z_lload_n B dX9_scaledRoot_81 rfl 1 rfl ?_
        refine z_lconst (v := 1) B dX9_scaledRoot_82 rfl ?_
        refine z_ladd B dX9_scaledRoot_83 ?_
        refine z_fl (fun v_22 => ?_)
        refine z_lstore_n (lv' := [(2, .long v_22), (4, .long v_21), (9, .long v_16), (7, .long v_14), (6, .int i_1), (0, .long a)]) B dX9_scaledRoot_84 rfl (Nat.le_of_ble_eq_true rfl) rfl ?_
        refine z_iinc (k := 4) (v := i_1 + (-1)) (lv' := [(6, .int (i_1 + (-1))), (2, .long v_22), (4, .long v_21), (9, .long v_16), (7, .long v_14), (0, .long a)]) B dX9_scaledRoot_85 rfl rfl (Nat.le_of_ble_eq_true rfl) rfl ?_
        refine z_goto (tgt := 9) B dX9_scaledRoot_88 rfl ?_
        refine z_lv [0, 2, 1, 5] rfl ?_
        exact ih1 (i_1 + (-1), v_21, v_22) Φl1 (down_dec c_1) ⟨hI1, (fun b9 h9 => ((hF1 b9 (fun j9 h8 h7 => (show False from h7).elim)).trans rfl)), trivial⟩

set_option maxHeartbeats 4000000 in
set_option maxRecDepth 100000 in
theorem s_X9_root (G : EnvG) (l : Launch) (Φ : Hm) (sz x ca : Nat) (a : UInt64) (hx : G.2.2.2 ≤ x) (hI : In G x ca Φ) (hnn : nn64 a) : Ct G l yX9_root wsX9_root ({ frames := 1, cells := 0, slots := 0, locals := 30 }) 0 0 [.double a] Φ sz (fun v Φ1 sz1 => (∃ r9 : UInt64, v = some (.double r9) ∧ nn64 r9) ∧ sz1 = sz ∧ In G x (ca) Φ1 ∧ Fr x (fun j9 => False) Φ Φ1) := by
  refine Ct.of (cc := cX9_root) (maxL := 6) (ret := (some .double)) (by decide) rfl (Nat.le_of_ble_eq_true rfl) ?_
  intro p9 e9 s9 m9 w9 t9 k9 B
  show Z p9 l e9 _ s9 m9 _ w9 t9 k9 _ G 6 0 [(0, .double a)] [] Φ sz 0 0
  refine z_dload_n B dX9_root_0 rfl 0 rfl ?_
  refine z_dconst0 B dX9_root_1 ?_
  refine z_dcmp B dX9_root_2 ?_
  refine z_fi (fun v_1 => ?_)
  refine z_if_gt (tgt := 8) B dX9_root_3 rfl (fun c_1 => ?_) (fun c_1 => ?_)
  · obtain ⟨n_1, e_2, e_1, rfl⟩ := nI_ofp (Int32.not_le.mpr c_1)
    refine z_dload_n B dX9_root_8 rfl 0 rfl ?_
    refine z_dstore_n (lv' := [(2, .double a), (0, .double a)]) B dX9_root_9 rfl (Nat.le_of_ble_eq_true rfl) rfl ?_
    refine z_iconst (v := 0) B dX9_root_10 rfl ?_
    refine z_istore (lv' := [(4, .int 0), (2, .double a), (0, .double a)]) B dX9_root_11 (Nat.le_of_ble_eq_true rfl) rfl ?_
    refine z_iconst (v := 0) B dX9_root_13 rfl ?_
    refine z_istore (lv' := [(5, .int 0), (4, .int 0), (2, .double a), (0, .double a)]) B dX9_root_14 (Nat.le_of_ble_eq_true rfl) rfl ?_
    refine z_lv [0, 1, 2, 3] rfl ?_
    refine z_loop (α := Nat × Int32 × UInt64) (fun (a9 : Nat × Int32 × UInt64) Φi => In G x (ca) Φi ∧ Fr x (fun j9 => False) Φ Φi ∧ (a9.1 ≤ 600) ∧ (nn64 a9.2.2) ∧ True) (fun a9 => [(5, .int (nI (a9.1))), (4, .int a9.2.1), (2, .double a9.2.2), (0, .double a)]) (fun a9 => 600 - a9.1) ?_ (0, 0, a) ⟨hI, fun _ _ => rfl, (show 0 ≤ 600 by omega), hnn, trivial⟩
    rintro ⟨i_1, i_2, i_3⟩ Φl1 ⟨hI1, hF1, b_1, b_2, -⟩ ih1
    replace hI1 : In G x (ca) Φl1 := hI1
    replace b_1 : i_1 ≤ 600 := b_1
    replace b_2 : nn64 i_3 := b_2
    show Z p9 l e9 _ s9 m9 _ w9 t9 k9 _ G 6 16 [(5, .int (nI i_1)), (4, .int i_2), (2, .double i_3), (0, .double a)] [] Φl1 _ _ _
    refine z_iload B dX9_root_16 0 rfl ?_
    refine z_sipush (v := 600) B dX9_root_18 rfl ?_
    refine z_icmp_ge (tgt := 47) B dX9_root_21 rfl (fun c_2 => ?_) (fun c_2 => ?_)
    · have e_3 : 600 ≤ i_1 := (nI_leI (a := 600) (b := i_1) (by omega) (by omega)).mp c_2
      refine z_iconst (v := 0) B dX9_root_47 rfl ?_
      refine z_istore (lv' := [(5, .int 0), (4, .int i_2), (2, .double i_3), (0, .double a)]) B dX9_root_48 (Nat.le_of_ble_eq_true rfl) rfl ?_
      refine z_lv [0, 1, 2, 3] rfl ?_
      refine z_loop (α := Nat × Int32 × UInt64) (fun (a9 : Nat × Int32 × UInt64) Φi => In G x (ca) Φi ∧ Fr x (fun j9 => False) Φl1 Φi ∧ (a9.1 ≤ 600) ∧ (nn64 a9.2.2) ∧ True) (fun a9 => [(5, .int (nI (a9.1))), (4, .int a9.2.1), (2, .double a9.2.2), (0, .double a)]) (fun a9 => 600 - a9.1) ?_ (0, i_2, i_3) ⟨hI1, fun _ _ => rfl, (show 0 ≤ 600 by omega), b_2, trivial⟩
      rintro ⟨i_4, i_5, i_6⟩ Φl2 ⟨hI2, hF2, b_3, b_4, -⟩ ih2
      replace hI2 : In G x (ca) Φl2 := hI2
      replace b_3 : i_4 ≤ 600 := b_3
      replace b_4 : nn64 i_6 := b_4
      show Z p9 l e9 _ s9 m9 _ w9 t9 k9 _ G 6 50 [(5, .int (nI i_4)), (4, .int i_5), (2, .double i_6), (0, .double a)] [] Φl2 _ _ _
      refine z_iload B dX9_root_50 0 rfl ?_
      refine z_sipush (v := 600) B dX9_root_52 rfl ?_
      refine z_icmp_ge (tgt := 81) B dX9_root_55 rfl (fun c_3 => ?_) (fun c_3 => ?_)
      · have e_4 : 600 ≤ i_4 := (nI_leI (a := 600) (b := i_4) (by omega) (by omega)).mp c_3
        refine z_dload_n B dX9_root_81 rfl 2 rfl ?_
        refine z_d2l B dX9_root_82 ?_
        refine z_fl (fun v_2 => ?_)
        refine z_callS (As := [.long v_2]) (rest := []) B (s_X9_scaledRoot G l Φl2 sz x (ca) v_2 hx hI2 ) (va_cwS 1 B.1.2.2.2.2 gX9_root_X9_scaledRoot rfl rfl rfl (by decide +kernel) ⟨Nat.le_of_ble_eq_true rfl, Nat.le_of_ble_eq_true rfl⟩) rfl rfl (Nat.le_of_ble_eq_true rfl) dX9_root_83 ⟨Nat.le_of_ble_eq_true rfl, Nat.le_of_ble_eq_true rfl⟩ (fun r_1 Φ1 sz1 st1 hp1 hs1 => ?_)
        obtain ⟨⟨v_3, rfl⟩, hq1, hI3, hF3⟩ := hp1
        subst sz1
        replace hs1 : st1 = [.long v_3] := hs1
        subst st1
        replace hI3 : In G x (ca) Φ1 := hI3
        refine z_iload B dX9_root_86 1 rfl ?_
        refine z_bipush (v := 26) B dX9_root_88 rfl ?_
        refine z_isub B dX9_root_90 ?_
        refine z_fi (fun v_4 => ?_)
        refine z_callS (As := [.long v_3, .int v_4]) (rest := []) B (s_X9_timesPowerOfTwo G l Φ1 sz x (ca) v_3 v_4 hx hI3 ) (va_cwS 2 B.1.2.2.2.2 gX9_root_X9_timesPowerOfTwo rfl rfl rfl (by decide +kernel) ⟨Nat.le_of_ble_eq_true rfl, Nat.le_of_ble_eq_true rfl⟩) rfl rfl (Nat.le_of_ble_eq_true rfl) dX9_root_91 ⟨Nat.le_of_ble_eq_true rfl, Nat.le_of_ble_eq_true rfl⟩ (fun r_2 Φ2 sz2 st2 hp2 hs2 => ?_)
        obtain ⟨⟨v_5, rfl, q_1⟩, hq2, hI4, hF4⟩ := hp2
        subst sz2
        replace hs2 : st2 = [.double v_5] := hs2
        subst st2
        replace hI4 : In G x (ca) Φ2 := hI4
        exact z_ret_d B dX9_root_94 ⟨⟨_, rfl, q_1⟩, rfl, hI4, (fun b9 h9 => ((hF4 b9 (fun j9 h8 h7 => (show False from h7).elim)).trans ((hF3 b9 (fun j9 h8 h7 => (show False from h7).elim)).trans ((hF2 b9 (fun j9 h8 h7 => (show False from h7).elim)).trans ((hF1 b9 (fun j9 h8 h7 => (show False from h7).elim)).trans rfl)))))⟩
      · have e_5 : ¬ (600 ≤ i_4) := fun h9 => c_3 ((nI_leI (a := 600) (b := i_4) (by omega) (by omega)).mpr h9)
        refine z_dload_n B dX9_root_58 rfl 2 rfl ?_
        refine z_ldc2d (v := 4841369599423283200) B (by decide +kernel) dX9_root_59 ?_
        refine z_dcmp B dX9_root_62 ?_
        refine z_fi (fun v_6 => ?_)
        refine z_if_ge (tgt := 81) B dX9_root_63 rfl (fun c_4 => ?_) (fun c_4 => ?_)
        · obtain ⟨n_2, e_6, rfl⟩ := nI_of (Int32.not_lt.mpr c_4)
          refine z_dload_n B dX9_root_81 rfl 2 rfl ?_
          refine z_d2l B dX9_root_82 ?_
          refine z_fl (fun v_7 => ?_)
          refine z_callS (As := [.long v_7]) (rest := []) B (s_X9_scaledRoot G l Φl2 sz x (ca) v_7 hx hI2 ) (va_cwS 1 B.1.2.2.2.2 gX9_root_X9_scaledRoot rfl rfl rfl (by decide +kernel) ⟨Nat.le_of_ble_eq_true rfl, Nat.le_of_ble_eq_true rfl⟩) rfl rfl (Nat.le_of_ble_eq_true rfl) dX9_root_83 ⟨Nat.le_of_ble_eq_true rfl, Nat.le_of_ble_eq_true rfl⟩ (fun r_3 Φ3 sz3 st3 hp3 hs3 => ?_)
          obtain ⟨⟨v_8, rfl⟩, hq3, hI5, hF5⟩ := hp3
          subst sz3
          replace hs3 : st3 = [.long v_8] := hs3
          subst st3
          replace hI5 : In G x (ca) Φ3 := hI5
          refine z_iload B dX9_root_86 1 rfl ?_
          refine z_bipush (v := 26) B dX9_root_88 rfl ?_
          refine z_isub B dX9_root_90 ?_
          refine z_fi (fun v_9 => ?_)
          refine z_callS (As := [.long v_8, .int v_9]) (rest := []) B (s_X9_timesPowerOfTwo G l Φ3 sz x (ca) v_8 v_9 hx hI5 ) (va_cwS 2 B.1.2.2.2.2 gX9_root_X9_timesPowerOfTwo rfl rfl rfl (by decide +kernel) ⟨Nat.le_of_ble_eq_true rfl, Nat.le_of_ble_eq_true rfl⟩) rfl rfl (Nat.le_of_ble_eq_true rfl) dX9_root_91 ⟨Nat.le_of_ble_eq_true rfl, Nat.le_of_ble_eq_true rfl⟩ (fun r_4 Φ4 sz4 st4 hp4 hs4 => ?_)
          obtain ⟨⟨v_10, rfl, q_2⟩, hq4, hI6, hF6⟩ := hp4
          subst sz4
          replace hs4 : st4 = [.double v_10] := hs4
          subst st4
          replace hI6 : In G x (ca) Φ4 := hI6
          exact z_ret_d B dX9_root_94 ⟨⟨_, rfl, q_2⟩, rfl, hI6, (fun b9 h9 => ((hF6 b9 (fun j9 h8 h7 => (show False from h7).elim)).trans ((hF5 b9 (fun j9 h8 h7 => (show False from h7).elim)).trans ((hF2 b9 (fun j9 h8 h7 => (show False from h7).elim)).trans ((hF1 b9 (fun j9 h8 h7 => (show False from h7).elim)).trans rfl)))))⟩
        · refine z_dload_n B dX9_root_66 rfl 2 rfl ?_
          refine z_ldc2d (v := 4616189618054758400) B (by decide +kernel) dX9_root_67 ?_
          have q_4 : nn64 (FP.dmul i_6 4616189618054758400) := (mul_nnw b_4 (w_of (u := 4616189618054758400) (s := false) (c := 4503599627370496) (q := -50) (by decide +kernel) (by decide)))
          refine z_dmul B dX9_root_70 (vf_of q_4) ?_
          refine z_fdq (P := fun u9 : UInt64 => nn64 u9) q_4 (fun v_11 q_6 => ?_)
          replace q_6 : nn64 v_11 := q_6
          refine z_dstore_n (lv' := [(2, .double v_11), (5, .int (nI i_4)), (4, .int i_5), (0, .double a)]) B dX9_root_71 rfl (Nat.le_of_ble_eq_true rfl) rfl ?_
          refine z_iinc (k := 2) (v := i_5 + (-1)) (lv' := [(4, .int (i_5 + (-1))), (2, .double v_11), (5, .int (nI i_4)), (0, .double a)]) B dX9_root_72 rfl rfl (Nat.le_of_ble_eq_true rfl) rfl ?_
          refine z_iinc (k := 2) (v := nI (i_4 + 1)) (lv' := [(5, .int (nI (i_4 + 1))), (4, .int (i_5 + (-1))), (2, .double v_11), (0, .double a)]) B dX9_root_75 rfl (nI_add i_4 1) (Nat.le_of_ble_eq_true rfl) rfl ?_
          refine z_goto (tgt := 50) B dX9_root_78 rfl ?_
          refine z_lv [0, 1, 2, 3] rfl ?_
          exact ih2 (i_4 + 1, i_5 + (-1), v_11) Φl2 (show 600 - (i_4 + 1) < 600 - i_4 by omega) ⟨hI2, (fun b9 h9 => ((hF2 b9 (fun j9 h8 h7 => (show False from h7).elim)).trans rfl)), (show (i_4 + 1) ≤ 600 by omega), q_6, trivial⟩
    · have e_7 : ¬ (600 ≤ i_1) := fun h9 => c_2 ((nI_leI (a := 600) (b := i_1) (by omega) (by omega)).mpr h9)
      refine z_dload_n B dX9_root_24 rfl 2 rfl ?_
      refine z_ldc2d (v := 4850376798678024192) B (by decide +kernel) dX9_root_25 ?_
      refine z_dcmp B dX9_root_28 ?_
      refine z_fi (fun v_12 => ?_)
      refine z_if_lt (tgt := 47) B dX9_root_29 rfl (fun c_5 => ?_) (fun c_5 => ?_)
      · refine z_iconst (v := 0) B dX9_root_47 rfl ?_
        refine z_istore (lv' := [(5, .int 0), (4, .int i_2), (2, .double i_3), (0, .double a)]) B dX9_root_48 (Nat.le_of_ble_eq_true rfl) rfl ?_
        refine z_lv [0, 1, 2, 3] rfl ?_
        refine z_loop (α := Nat × Int32 × UInt64) (fun (a9 : Nat × Int32 × UInt64) Φi => In G x (ca) Φi ∧ Fr x (fun j9 => False) Φl1 Φi ∧ (a9.1 ≤ 600) ∧ (nn64 a9.2.2) ∧ True) (fun a9 => [(5, .int (nI (a9.1))), (4, .int a9.2.1), (2, .double a9.2.2), (0, .double a)]) (fun a9 => 600 - a9.1) ?_ (0, i_2, i_3) ⟨hI1, fun _ _ => rfl, (show 0 ≤ 600 by omega), b_2, trivial⟩
        rintro ⟨i_7, i_8, i_9⟩ Φl3 ⟨hI7, hF7, b_5, b_6, -⟩ ih3
        replace hI7 : In G x (ca) Φl3 := hI7
        replace b_5 : i_7 ≤ 600 := b_5
        replace b_6 : nn64 i_9 := b_6
        show Z p9 l e9 _ s9 m9 _ w9 t9 k9 _ G 6 50 [(5, .int (nI i_7)), (4, .int i_8), (2, .double i_9), (0, .double a)] [] Φl3 _ _ _
        refine z_iload B dX9_root_50 0 rfl ?_
        refine z_sipush (v := 600) B dX9_root_52 rfl ?_
        refine z_icmp_ge (tgt := 81) B dX9_root_55 rfl (fun c_6 => ?_) (fun c_6 => ?_)
        · have e_8 : 600 ≤ i_7 := (nI_leI (a := 600) (b := i_7) (by omega) (by omega)).mp c_6
          refine z_dload_n B dX9_root_81 rfl 2 rfl ?_
          refine z_d2l B dX9_root_82 ?_
          refine z_fl (fun v_13 => ?_)
          refine z_callS (As := [.long v_13]) (rest := []) B (s_X9_scaledRoot G l Φl3 sz x (ca) v_13 hx hI7 ) (va_cwS 1 B.1.2.2.2.2 gX9_root_X9_scaledRoot rfl rfl rfl (by decide +kernel) ⟨Nat.le_of_ble_eq_true rfl, Nat.le_of_ble_eq_true rfl⟩) rfl rfl (Nat.le_of_ble_eq_true rfl) dX9_root_83 ⟨Nat.le_of_ble_eq_true rfl, Nat.le_of_ble_eq_true rfl⟩ (fun r_5 Φ5 sz5 st5 hp5 hs5 => ?_)
          obtain ⟨⟨v_14, rfl⟩, hq5, hI8, hF8⟩ := hp5
          subst sz5
          replace hs5 : st5 = [.long v_14] := hs5
          subst st5
          replace hI8 : In G x (ca) Φ5 := hI8
          refine z_iload B dX9_root_86 1 rfl ?_
          refine z_bipush (v := 26) B dX9_root_88 rfl ?_
          refine z_isub B dX9_root_90 ?_
          refine z_fi (fun v_15 => ?_)
          refine z_callS (As := [.long v_14, .int v_15]) (rest := []) B (s_X9_timesPowerOfTwo G l Φ5 sz x (ca) v_14 v_15 hx hI8 ) (va_cwS 2 B.1.2.2.2.2 gX9_root_X9_timesPowerOfTwo rfl rfl rfl (by decide +kernel) ⟨Nat.le_of_ble_eq_true rfl, Nat.le_of_ble_eq_true rfl⟩) rfl rfl (Nat.le_of_ble_eq_true rfl) dX9_root_91 ⟨Nat.le_of_ble_eq_true rfl, Nat.le_of_ble_eq_true rfl⟩ (fun r_6 Φ6 sz6 st6 hp6 hs6 => ?_)
          obtain ⟨⟨v_16, rfl, q_7⟩, hq6, hI9, hF9⟩ := hp6
          subst sz6
          replace hs6 : st6 = [.double v_16] := hs6
          subst st6
          replace hI9 : In G x (ca) Φ6 := hI9
          exact z_ret_d B dX9_root_94 ⟨⟨_, rfl, q_7⟩, rfl, hI9, (fun b9 h9 => ((hF9 b9 (fun j9 h8 h7 => (show False from h7).elim)).trans ((hF8 b9 (fun j9 h8 h7 => (show False from h7).elim)).trans ((hF7 b9 (fun j9 h8 h7 => (show False from h7).elim)).trans ((hF1 b9 (fun j9 h8 h7 => (show False from h7).elim)).trans rfl)))))⟩
        · have e_9 : ¬ (600 ≤ i_7) := fun h9 => c_6 ((nI_leI (a := 600) (b := i_7) (by omega) (by omega)).mpr h9)
          refine z_dload_n B dX9_root_58 rfl 2 rfl ?_
          refine z_ldc2d (v := 4841369599423283200) B (by decide +kernel) dX9_root_59 ?_
          refine z_dcmp B dX9_root_62 ?_
          refine z_fi (fun v_17 => ?_)
          refine z_if_ge (tgt := 81) B dX9_root_63 rfl (fun c_7 => ?_) (fun c_7 => ?_)
          · obtain ⟨n_3, e_10, rfl⟩ := nI_of (Int32.not_lt.mpr c_7)
            refine z_dload_n B dX9_root_81 rfl 2 rfl ?_
            refine z_d2l B dX9_root_82 ?_
            refine z_fl (fun v_18 => ?_)
            refine z_callS (As := [.long v_18]) (rest := []) B (s_X9_scaledRoot G l Φl3 sz x (ca) v_18 hx hI7 ) (va_cwS 1 B.1.2.2.2.2 gX9_root_X9_scaledRoot rfl rfl rfl (by decide +kernel) ⟨Nat.le_of_ble_eq_true rfl, Nat.le_of_ble_eq_true rfl⟩) rfl rfl (Nat.le_of_ble_eq_true rfl) dX9_root_83 ⟨Nat.le_of_ble_eq_true rfl, Nat.le_of_ble_eq_true rfl⟩ (fun r_7 Φ7 sz7 st7 hp7 hs7 => ?_)
            obtain ⟨⟨v_19, rfl⟩, hq7, hI10, hF10⟩ := hp7
            subst sz7
            replace hs7 : st7 = [.long v_19] := hs7
            subst st7
            replace hI10 : In G x (ca) Φ7 := hI10
            refine z_iload B dX9_root_86 1 rfl ?_
            refine z_bipush (v := 26) B dX9_root_88 rfl ?_
            refine z_isub B dX9_root_90 ?_
            refine z_fi (fun v_20 => ?_)
            refine z_callS (As := [.long v_19, .int v_20]) (rest := []) B (s_X9_timesPowerOfTwo G l Φ7 sz x (ca) v_19 v_20 hx hI10 ) (va_cwS 2 B.1.2.2.2.2 gX9_root_X9_timesPowerOfTwo rfl rfl rfl (by decide +kernel) ⟨Nat.le_of_ble_eq_true rfl, Nat.le_of_ble_eq_true rfl⟩) rfl rfl (Nat.le_of_ble_eq_true rfl) dX9_root_91 ⟨Nat.le_of_ble_eq_true rfl, Nat.le_of_ble_eq_true rfl⟩ (fun r_8 Φ8 sz8 st8 hp8 hs8 => ?_)
            obtain ⟨⟨v_21, rfl, q_8⟩, hq8, hI11, hF11⟩ := hp8
            subst sz8
            replace hs8 : st8 = [.double v_21] := hs8
            subst st8
            replace hI11 : In G x (ca) Φ8 := hI11
            exact z_ret_d B dX9_root_94 ⟨⟨_, rfl, q_8⟩, rfl, hI11, (fun b9 h9 => ((hF11 b9 (fun j9 h8 h7 => (show False from h7).elim)).trans ((hF10 b9 (fun j9 h8 h7 => (show False from h7).elim)).trans ((hF7 b9 (fun j9 h8 h7 => (show False from h7).elim)).trans ((hF1 b9 (fun j9 h8 h7 => (show False from h7).elim)).trans rfl)))))⟩
          · refine z_dload_n B dX9_root_66 rfl 2 rfl ?_
            refine z_ldc2d (v := 4616189618054758400) B (by decide +kernel) dX9_root_67 ?_
            have q_10 : nn64 (FP.dmul i_9 4616189618054758400) := (mul_nnw b_6 (w_of (u := 4616189618054758400) (s := false) (c := 4503599627370496) (q := -50) (by decide +kernel) (by decide)))
            refine z_dmul B dX9_root_70 (vf_of q_10) ?_
            refine z_fdq (P := fun u9 : UInt64 => nn64 u9) q_10 (fun v_22 q_12 => ?_)
            replace q_12 : nn64 v_22 := q_12
            refine z_dstore_n (lv' := [(2, .double v_22), (5, .int (nI i_7)), (4, .int i_8), (0, .double a)]) B dX9_root_71 rfl (Nat.le_of_ble_eq_true rfl) rfl ?_
            refine z_iinc (k := 2) (v := i_8 + (-1)) (lv' := [(4, .int (i_8 + (-1))), (2, .double v_22), (5, .int (nI i_7)), (0, .double a)]) B dX9_root_72 rfl rfl (Nat.le_of_ble_eq_true rfl) rfl ?_
            refine z_iinc (k := 2) (v := nI (i_7 + 1)) (lv' := [(5, .int (nI (i_7 + 1))), (4, .int (i_8 + (-1))), (2, .double v_22), (0, .double a)]) B dX9_root_75 rfl (nI_add i_7 1) (Nat.le_of_ble_eq_true rfl) rfl ?_
            refine z_goto (tgt := 50) B dX9_root_78 rfl ?_
            refine z_lv [0, 1, 2, 3] rfl ?_
            exact ih3 (i_7 + 1, i_8 + (-1), v_22) Φl3 (show 600 - (i_7 + 1) < 600 - i_7 by omega) ⟨hI7, (fun b9 h9 => ((hF7 b9 (fun j9 h8 h7 => (show False from h7).elim)).trans rfl)), (show (i_7 + 1) ≤ 600 by omega), q_12, trivial⟩
      · obtain ⟨n_4, e_11, rfl⟩ := nI_of c_5
        refine z_dload_n B dX9_root_32 rfl 2 rfl ?_
        refine z_ldc2d (v := 4616189618054758400) B (by decide +kernel) dX9_root_33 ?_
        have q_14 : nn64 (FP.ddiv i_3 4616189618054758400) := (div_nnw b_2 (w_of (u := 4616189618054758400) (s := false) (c := 4503599627370496) (q := -50) (by decide +kernel) (by decide)))
        refine z_ddiv B dX9_root_36 (vf_of q_14) ?_
        refine z_fdq (P := fun u9 : UInt64 => nn64 u9) q_14 (fun v_23 q_16 => ?_)
        replace q_16 : nn64 v_23 := q_16
        refine z_dstore_n (lv' := [(2, .double v_23), (5, .int (nI i_1)), (4, .int i_2), (0, .double a)]) B dX9_root_37 rfl (Nat.le_of_ble_eq_true rfl) rfl ?_
        refine z_iinc (k := 2) (v := i_2 + 1) (lv' := [(4, .int (i_2 + 1)), (2, .double v_23), (5, .int (nI i_1)), (0, .double a)]) B dX9_root_38 rfl rfl (Nat.le_of_ble_eq_true rfl) rfl ?_
        refine z_iinc (k := 2) (v := nI (i_1 + 1)) (lv' := [(5, .int (nI (i_1 + 1))), (4, .int (i_2 + 1)), (2, .double v_23), (0, .double a)]) B dX9_root_41 rfl (nI_add i_1 1) (Nat.le_of_ble_eq_true rfl) rfl ?_
        refine z_goto (tgt := 16) B dX9_root_44 rfl ?_
        refine z_lv [0, 1, 2, 3] rfl ?_
        exact ih1 (i_1 + 1, i_2 + 1, v_23) Φl1 (show 600 - (i_1 + 1) < 600 - i_1 by omega) ⟨hI1, (fun b9 h9 => ((hF1 b9 (fun j9 h8 h7 => (show False from h7).elim)).trans rfl)), (show (i_1 + 1) ≤ 600 by omega), q_16, trivial⟩
  · refine z_dconst0 B dX9_root_6 ?_
    exact z_ret_d B dX9_root_7 ⟨⟨_, rfl, (sm_nn sm_zero)⟩, rfl, hI, (fun b9 h9 => rfl)⟩

set_option maxHeartbeats 4000000 in
set_option maxRecDepth 100000 in
theorem s_X9_margin (G : EnvG) (l : Launch) (Φ : Hm) (sz x ca : Nat) (a : UInt64) (hx : G.2.2.2 ≤ x) (hI : In G x ca Φ) (hnn : nn64 a) : Ct G l yX9_margin wsX9_margin ({ frames := 2, cells := 0, slots := 0, locals := 55 }) 0 0 [.double a] Φ sz (fun v Φ1 sz1 => (∃ r9 : UInt64, v = some (.double r9) ∧ nn64 r9) ∧ sz1 = sz ∧ In G x (ca) Φ1 ∧ Fr x (fun j9 => False) Φ Φ1) := by
  refine Ct.of (cc := cX9_margin) (maxL := 2) (ret := (some .double)) (by decide) rfl (Nat.le_of_ble_eq_true rfl) ?_
  intro p9 e9 s9 m9 w9 t9 k9 B
  show Z p9 l e9 _ s9 m9 _ w9 t9 k9 _ G 2 0 [(0, .double a)] [] Φ sz 0 0
  refine z_ldc2d (v := 4611505874442293084) B (by decide +kernel) dX9_margin_0 ?_
  refine z_dload_n B dX9_margin_3 rfl 0 rfl ?_
  refine z_callS (As := [.double a]) (rest := [.double 4611505874442293084]) B (s_X9_root G l Φ sz x (ca) a hx hI hnn) (va_cwS 1 B.1.2.2.2.2 gX9_margin_X9_root rfl rfl rfl (by decide +kernel) ⟨Nat.le_of_ble_eq_true rfl, Nat.le_of_ble_eq_true rfl⟩) rfl rfl (Nat.le_of_ble_eq_true rfl) dX9_margin_4 ⟨Nat.le_of_ble_eq_true rfl, Nat.le_of_ble_eq_true rfl⟩ (fun r_1 Φ1 sz1 st1 hp1 hs1 => ?_)
  obtain ⟨⟨v_1, rfl, q_1⟩, hq1, hI1, hF1⟩ := hp1
  subst sz1
  replace hs1 : st1 = [.double v_1, .double 4611505874442293084] := hs1
  subst st1
  replace hI1 : In G x (ca) Φ1 := hI1
  have q_3 : nn64 (FP.dmul 4611505874442293084 v_1) := (mul_wnn (w_of (u := 4611505874442293084) (s := false) (c := 8827055269646172) (q := -52) (by decide +kernel) (by decide)) q_1)
  refine z_dmul B dX9_margin_7 (vf_of q_3) ?_
  refine z_fdq (P := fun u9 : UInt64 => nn64 u9) q_3 (fun v_2 q_5 => ?_)
  replace q_5 : nn64 v_2 := q_5
  exact z_ret_d B dX9_margin_8 ⟨⟨_, rfl, q_5⟩, rfl, hI1, (fun b9 h9 => ((hF1 b9 (fun j9 h8 h7 => (show False from h7).elim)).trans rfl))⟩

theorem hu_X9_lowerBound_X9 : ∀ w ∈ u_ws RX9 TX9 5, w ∈ wsX9_lowerBound := fun _ h => List.mem_cons_of_mem _ (List.mem_append_left _ (List.mem_append_right _ (h)))

theorem hv_X9_lowerBound_20 : Cond.fieldLink RX9 20 "FlowExporter$Sums" (TX9 2).2.1 (TX9 2).2.2.1 ∈ wsX9_lowerBound := List.mem_cons_of_mem _ (List.mem_append_left _ (List.mem_append_left _ (List.mem_of_getElem? (i := 0) rfl)))

theorem hv_X9_lowerBound_25 : Cond.fieldLink RX9 25 "FlowExporter$Sums" (TX9 3).2.1 (TX9 3).2.2.1 ∈ wsX9_lowerBound := List.mem_cons_of_mem _ (List.mem_append_left _ (List.mem_append_left _ (List.mem_of_getElem? (i := 1) rfl)))

theorem hv_X9_lowerBound_17 : Cond.fieldLink RX9 17 "FlowExporter$Sums" (TX9 1).2.1 (TX9 1).2.2.1 ∈ wsX9_lowerBound := List.mem_cons_of_mem _ (List.mem_append_left _ (List.mem_append_left _ (List.mem_of_getElem? (i := 2) rfl)))

set_option maxHeartbeats 4000000 in
set_option maxRecDepth 100000 in
theorem s_X9_lowerBound (G : EnvG) (l : Launch) (Φ : Hm) (sz x ca : Nat) (i : Nat) (w : Nat) (hx : G.2.2.2 ≤ x) (hI : In G x ca Φ) (hi : i < 24) (hw : w < 2) : Ct G l yX9_lowerBound wsX9_lowerBound ({ frames := 3, cells := 0, slots := 0, locals := 76 }) 0 0 [.ref (x + 121), .int (nI i), .int (nI w)] Φ sz (fun v Φ1 sz1 => (∃ r9 : UInt64, v = some (.double r9) ∧ nn64 r9) ∧ sz1 = sz ∧ In G x (ca) Φ1 ∧ Fr x (fun j9 => False) Φ Φ1) := by
  refine Ct.of (cc := cX9_lowerBound) (maxL := 7) (ret := (some .double)) (by decide) rfl (Nat.le_of_ble_eq_true rfl) ?_
  intro p9 e9 s9 m9 w9 t9 k9 B
  show Z p9 l e9 _ s9 m9 _ w9 t9 k9 _ G 7 0 [(0, .ref (x + 121)), (1, .int (nI i)), (2, .int (nI w))] [] Φ sz 0 0
  refine z_aload_n B dX9_lowerBound_0 rfl 0 rfl ?_
  obtain ⟨n_1, h_1, b_1⟩ := in20 (k := 121) hI rfl
  have h_2 : Φ (x + 121) = some (o_ 11 [.ref (x + 122), .ref (x + 123), .ref (x + 126), .ref (x + 129), .int (nI n_1)]) := h_1
  refine z_get (ref := "FlowExporter$Sums") (C := RX9) (T := TX9) (N := 5) (ci := 11) (v := .ref (x + 126)) B hu_X9_lowerBound_X9 rfl 2 (Nat.le_of_ble_eq_true rfl) hv_X9_lowerBound_20 rfl h_2 rfl dX9_lowerBound_1 ?_
  refine z_iload_n B dX9_lowerBound_4 rfl 2 rfl ?_
  obtain ⟨f_1, h_3, r_1⟩ := in22 (k := 126) hI rfl
  have h_4 : Φ (x + 126) = some (aq_ G 7 2 f_1) := h_3
  refine z_aaldA (b := x + (126 + 1 + w)) B rfl h_4 (vp_in_nI (by omega) (by omega)) ((congrArg f_1 (nI_clamp (by omega))).trans (r_1 w (by omega))) dX9_lowerBound_5 ?_
  refine z_iload_n B dX9_lowerBound_6 rfl 1 rfl ?_
  obtain ⟨f_2, h_5⟩ := in21 (k := 126 + 1 + w) hI (kd_2b (by omega))
  have h_6 : Φ (x + (126 + 1 + w)) = some (al_ G 24 f_2) := h_5
  refine z_lald B h_6 (vp_in_nI (by omega) (by omega)) dX9_lowerBound_7 ?_
  refine z_fl (fun v_1 => ?_)
  refine z_l2d B dX9_lowerBound_8 ?_
  refine z_fdq (P := fun u9 : UInt64 => sm64 12 u9) (l2d_sm v_1) (fun v_2 q_2 => ?_)
  replace q_2 : sm64 12 v_2 := q_2
  refine z_aload_n B dX9_lowerBound_9 rfl 0 rfl ?_
  refine z_get (ref := "FlowExporter$Sums") (C := RX9) (T := TX9) (N := 5) (ci := 11) (v := .ref (x + 129)) B hu_X9_lowerBound_X9 rfl 3 (Nat.le_of_ble_eq_true rfl) hv_X9_lowerBound_25 rfl h_2 rfl dX9_lowerBound_10 ?_
  refine z_iload_n B dX9_lowerBound_13 rfl 2 rfl ?_
  obtain ⟨f_3, h_7, r_2⟩ := in23 (k := 129) hI rfl
  have h_8 : Φ (x + 129) = some (aq_ G 8 2 f_3) := h_7
  refine z_aaldA (b := x + (129 + 1 + w)) B rfl h_8 (vp_in_nI (by omega) (by omega)) ((congrArg f_3 (nI_clamp (by omega))).trans (r_2 w (by omega))) dX9_lowerBound_14 ?_
  refine z_iload_n B dX9_lowerBound_15 rfl 1 rfl ?_
  obtain ⟨f_4, h_9, r_3⟩ := in24 (k := 129 + 1 + w) hI (kd_2c (by omega))
  have h_10 : Φ (x + (129 + 1 + w)) = some (ad_ G 24 f_4) := h_9
  refine z_dald B h_10 (vp_in_nI (by omega) (by omega)) dX9_lowerBound_16 ?_
  refine z_fdq (P := fun u9 : UInt64 => pd64 u9) (r_3 _) (fun v_4 q_4 => ?_)
  replace q_4 : pd64 v_4 := q_4
  refine z_callS (As := [.double v_4]) (rest := [.double v_2]) B (s_X9_margin G l Φ sz x (ca) v_4 hx hI (pd_nn q_4)) (va_cwS 1 B.1.2.2.2.2 gX9_lowerBound_X9_margin rfl rfl rfl (by decide +kernel) ⟨Nat.le_of_ble_eq_true rfl, Nat.le_of_ble_eq_true rfl⟩) rfl rfl (Nat.le_of_ble_eq_true rfl) dX9_lowerBound_17 ⟨Nat.le_of_ble_eq_true rfl, Nat.le_of_ble_eq_true rfl⟩ (fun r_4 Φ1 sz1 st1 hp1 hs1 => ?_)
  obtain ⟨⟨v_5, rfl, q_5⟩, hq1, hI1, hF1⟩ := hp1
  subst sz1
  replace hs1 : st1 = [.double v_5, .double v_2] := hs1
  subst st1
  replace hI1 : In G x (ca) Φ1 := hI1
  have q_7 : nn64 (FP.dsub v_2 v_5) := (sub_nn q_2 q_5)
  refine z_dsub B dX9_lowerBound_20 (vf_of q_7) ?_
  refine z_fdq (P := fun u9 : UInt64 => nn64 u9) q_7 (fun v_6 q_9 => ?_)
  replace q_9 : nn64 v_6 := q_9
  refine z_dstore_n (lv' := [(3, .double v_6), (0, .ref (x + 121)), (1, .int (nI i)), (2, .int (nI w))]) B dX9_lowerBound_21 rfl (Nat.le_of_ble_eq_true rfl) rfl ?_
  refine z_aload_n B dX9_lowerBound_22 rfl 1 rfl ?_
  have h_11 : Φ1 (x + 121) = some (o_ 11 [.ref (x + 122), .ref (x + 123), .ref (x + 126), .ref (x + 129), .int (nI n_1)]) := ((hF1 (x + 121) (fun j9 h8 h7 => (show False from h7).elim)).trans h_2)
  refine z_get (ref := "FlowExporter$Sums") (C := RX9) (T := TX9) (N := 5) (ci := 11) (v := .ref (x + 123)) B hu_X9_lowerBound_X9 rfl 1 (Nat.le_of_ble_eq_true rfl) hv_X9_lowerBound_17 rfl h_11 rfl dX9_lowerBound_23 ?_
  refine z_iload_n B dX9_lowerBound_26 rfl 3 rfl ?_
  obtain ⟨f_5, h_12, r_5⟩ := in22 (k := 123) hI1 rfl
  have h_13 : Φ1 (x + 123) = some (aq_ G 7 2 f_5) := h_12
  refine z_aaldA (b := x + (123 + 1 + w)) B rfl h_13 (vp_in_nI (by omega) (by omega)) ((congrArg f_5 (nI_clamp (by omega))).trans (r_5 w (by omega))) dX9_lowerBound_27 ?_
  refine z_iload_n B dX9_lowerBound_28 rfl 2 rfl ?_
  obtain ⟨f_6, h_14⟩ := in21 (k := 123 + 1 + w) hI1 (kd_2a (by omega))
  have h_15 : Φ1 (x + (123 + 1 + w)) = some (al_ G 24 f_6) := h_14
  refine z_lald B h_15 (vp_in_nI (by omega) (by omega)) dX9_lowerBound_29 ?_
  refine z_fl (fun v_7 => ?_)
  refine z_l2d B dX9_lowerBound_30 ?_
  refine z_fdq (P := fun u9 : UInt64 => sm64 12 u9) (l2d_sm v_7) (fun v_8 q_11 => ?_)
  replace q_11 : sm64 12 v_8 := q_11
  refine z_dstore (lv' := [(5, .double v_8), (3, .double v_6), (0, .ref (x + 121)), (1, .int (nI i)), (2, .int (nI w))]) B dX9_lowerBound_31 (Nat.le_of_ble_eq_true rfl) rfl ?_
  refine z_dload_n B dX9_lowerBound_33 rfl 1 rfl ?_
  refine z_dload B dX9_lowerBound_34 0 rfl ?_
  refine z_dcmp B dX9_lowerBound_36 ?_
  refine z_fi (fun v_9 => ?_)
  refine z_if_le (tgt := 44) B dX9_lowerBound_37 rfl (fun c_1 => ?_) (fun c_1 => ?_)
  · refine z_dload B dX9_lowerBound_44 0 rfl ?_
    exact z_ret_d B dX9_lowerBound_46 ⟨⟨_, rfl, (sm_nn q_11)⟩, rfl, hI1, (fun b9 h9 => ((hF1 b9 (fun j9 h8 h7 => (show False from h7).elim)).trans rfl))⟩
  · obtain ⟨n_2, e_2, e_1, rfl⟩ := nI_ofp c_1
    refine z_dload_n B dX9_lowerBound_40 rfl 1 rfl ?_
    refine z_goto (tgt := 46) B dX9_lowerBound_41 rfl ?_
    exact z_ret_d B dX9_lowerBound_46 ⟨⟨_, rfl, q_9⟩, rfl, hI1, (fun b9 h9 => ((hF1 b9 (fun j9 h8 h7 => (show False from h7).elim)).trans rfl))⟩

theorem hu_X9_upperBound_X9 : ∀ w ∈ u_ws RX9 TX9 5, w ∈ wsX9_upperBound := fun _ h => List.mem_cons_of_mem _ (List.mem_append_left _ (List.mem_append_right _ (h)))

theorem hv_X9_upperBound_20 : Cond.fieldLink RX9 20 "FlowExporter$Sums" (TX9 2).2.1 (TX9 2).2.2.1 ∈ wsX9_upperBound := List.mem_cons_of_mem _ (List.mem_append_left _ (List.mem_append_left _ (List.mem_of_getElem? (i := 0) rfl)))

theorem hv_X9_upperBound_25 : Cond.fieldLink RX9 25 "FlowExporter$Sums" (TX9 3).2.1 (TX9 3).2.2.1 ∈ wsX9_upperBound := List.mem_cons_of_mem _ (List.mem_append_left _ (List.mem_append_left _ (List.mem_of_getElem? (i := 1) rfl)))

set_option maxHeartbeats 4000000 in
set_option maxRecDepth 100000 in
theorem s_X9_upperBound (G : EnvG) (l : Launch) (Φ : Hm) (sz x ca : Nat) (i : Nat) (w : Nat) (hx : G.2.2.2 ≤ x) (hI : In G x ca Φ) (hi : i < 24) (hw : w < 2) : Ct G l yX9_upperBound wsX9_upperBound ({ frames := 3, cells := 0, slots := 0, locals := 76 }) 0 0 [.ref (x + 121), .int (nI i), .int (nI w)] Φ sz (fun v Φ1 sz1 => (∃ r9 : UInt64, v = some (.double r9) ∧ nn64 r9) ∧ sz1 = sz ∧ In G x (ca) Φ1 ∧ Fr x (fun j9 => False) Φ Φ1) := by
  refine Ct.of (cc := cX9_upperBound) (maxL := 3) (ret := (some .double)) (by decide) rfl (Nat.le_of_ble_eq_true rfl) ?_
  intro p9 e9 s9 m9 w9 t9 k9 B
  show Z p9 l e9 _ s9 m9 _ w9 t9 k9 _ G 3 0 [(0, .ref (x + 121)), (1, .int (nI i)), (2, .int (nI w))] [] Φ sz 0 0
  refine z_aload_n B dX9_upperBound_0 rfl 0 rfl ?_
  obtain ⟨n_1, h_1, b_1⟩ := in20 (k := 121) hI rfl
  have h_2 : Φ (x + 121) = some (o_ 11 [.ref (x + 122), .ref (x + 123), .ref (x + 126), .ref (x + 129), .int (nI n_1)]) := h_1
  refine z_get (ref := "FlowExporter$Sums") (C := RX9) (T := TX9) (N := 5) (ci := 11) (v := .ref (x + 126)) B hu_X9_upperBound_X9 rfl 2 (Nat.le_of_ble_eq_true rfl) hv_X9_upperBound_20 rfl h_2 rfl dX9_upperBound_1 ?_
  refine z_iload_n B dX9_upperBound_4 rfl 2 rfl ?_
  obtain ⟨f_1, h_3, r_1⟩ := in22 (k := 126) hI rfl
  have h_4 : Φ (x + 126) = some (aq_ G 7 2 f_1) := h_3
  refine z_aaldA (b := x + (126 + 1 + w)) B rfl h_4 (vp_in_nI (by omega) (by omega)) ((congrArg f_1 (nI_clamp (by omega))).trans (r_1 w (by omega))) dX9_upperBound_5 ?_
  refine z_iload_n B dX9_upperBound_6 rfl 1 rfl ?_
  obtain ⟨f_2, h_5⟩ := in21 (k := 126 + 1 + w) hI (kd_2b (by omega))
  have h_6 : Φ (x + (126 + 1 + w)) = some (al_ G 24 f_2) := h_5
  refine z_lald B h_6 (vp_in_nI (by omega) (by omega)) dX9_upperBound_7 ?_
  refine z_fl (fun v_1 => ?_)
  refine z_l2d B dX9_upperBound_8 ?_
  refine z_fdq (P := fun u9 : UInt64 => sm64 12 u9) (l2d_sm v_1) (fun v_2 q_2 => ?_)
  replace q_2 : sm64 12 v_2 := q_2
  refine z_aload_n B dX9_upperBound_9 rfl 0 rfl ?_
  refine z_get (ref := "FlowExporter$Sums") (C := RX9) (T := TX9) (N := 5) (ci := 11) (v := .ref (x + 129)) B hu_X9_upperBound_X9 rfl 3 (Nat.le_of_ble_eq_true rfl) hv_X9_upperBound_25 rfl h_2 rfl dX9_upperBound_10 ?_
  refine z_iload_n B dX9_upperBound_13 rfl 2 rfl ?_
  obtain ⟨f_3, h_7, r_2⟩ := in23 (k := 129) hI rfl
  have h_8 : Φ (x + 129) = some (aq_ G 8 2 f_3) := h_7
  refine z_aaldA (b := x + (129 + 1 + w)) B rfl h_8 (vp_in_nI (by omega) (by omega)) ((congrArg f_3 (nI_clamp (by omega))).trans (r_2 w (by omega))) dX9_upperBound_14 ?_
  refine z_iload_n B dX9_upperBound_15 rfl 1 rfl ?_
  obtain ⟨f_4, h_9, r_3⟩ := in24 (k := 129 + 1 + w) hI (kd_2c (by omega))
  have h_10 : Φ (x + (129 + 1 + w)) = some (ad_ G 24 f_4) := h_9
  refine z_dald B h_10 (vp_in_nI (by omega) (by omega)) dX9_upperBound_16 ?_
  refine z_fdq (P := fun u9 : UInt64 => pd64 u9) (r_3 _) (fun v_4 q_4 => ?_)
  replace q_4 : pd64 v_4 := q_4
  refine z_callS (As := [.double v_4]) (rest := [.double v_2]) B (s_X9_margin G l Φ sz x (ca) v_4 hx hI (pd_nn q_4)) (va_cwS 1 B.1.2.2.2.2 gX9_upperBound_X9_margin rfl rfl rfl (by decide +kernel) ⟨Nat.le_of_ble_eq_true rfl, Nat.le_of_ble_eq_true rfl⟩) rfl rfl (Nat.le_of_ble_eq_true rfl) dX9_upperBound_17 ⟨Nat.le_of_ble_eq_true rfl, Nat.le_of_ble_eq_true rfl⟩ (fun r_4 Φ1 sz1 st1 hp1 hs1 => ?_)
  obtain ⟨⟨v_5, rfl, q_5⟩, hq1, hI1, hF1⟩ := hp1
  subst sz1
  replace hs1 : st1 = [.double v_5, .double v_2] := hs1
  subst st1
  replace hI1 : In G x (ca) Φ1 := hI1
  have q_7 : nn64 (FP.dadd v_2 v_5) := (add_nn q_2 q_5)
  refine z_dadd B dX9_upperBound_20 (vf_of q_7) ?_
  refine z_fdq (P := fun u9 : UInt64 => nn64 u9) q_7 (fun v_6 q_9 => ?_)
  replace q_9 : nn64 v_6 := q_9
  exact z_ret_d B dX9_upperBound_21 ⟨⟨_, rfl, q_9⟩, rfl, hI1, (fun b9 h9 => ((hF1 b9 (fun j9 h8 h7 => (show False from h7).elim)).trans rfl))⟩

theorem hu_X9_marginOfAll_X9 : ∀ w ∈ u_ws RX9 TX9 5, w ∈ wsX9_marginOfAll := fun _ h => List.mem_cons_of_mem _ (List.mem_append_left _ (List.mem_append_right _ (h)))

theorem hv_X9_marginOfAll_28 : Cond.fieldLink RX9 28 "FlowExporter$Sums" (TX9 4).2.1 (TX9 4).2.2.1 ∈ wsX9_marginOfAll := List.mem_cons_of_mem _ (List.mem_append_left _ (List.mem_append_left _ (List.mem_of_getElem? (i := 0) rfl)))

theorem hv_X9_marginOfAll_25 : Cond.fieldLink RX9 25 "FlowExporter$Sums" (TX9 3).2.1 (TX9 3).2.2.1 ∈ wsX9_marginOfAll := List.mem_cons_of_mem _ (List.mem_append_left _ (List.mem_append_left _ (List.mem_of_getElem? (i := 1) rfl)))

set_option maxHeartbeats 4000000 in
set_option maxRecDepth 100000 in
theorem s_X9_marginOfAll (G : EnvG) (l : Launch) (Φ : Hm) (sz x ca : Nat) (w : Nat) (hx : G.2.2.2 ≤ x) (hI : In G x ca Φ) (hw : w < 2) : Ct G l yX9_marginOfAll wsX9_marginOfAll ({ frames := 3, cells := 0, slots := 0, locals := 76 }) 0 0 [.ref (x + 121), .int (nI w)] Φ sz (fun v Φ1 sz1 => (∃ r9 : UInt64, v = some (.double r9) ∧ nn64 r9) ∧ sz1 = sz ∧ In G x (ca) Φ1 ∧ Fr x (fun j9 => False) Φ Φ1) := by
  refine Ct.of (cc := cX9_marginOfAll) (maxL := 5) (ret := (some .double)) (by decide) rfl (Nat.le_of_ble_eq_true rfl) ?_
  intro p9 e9 s9 m9 w9 t9 k9 B
  show Z p9 l e9 _ s9 m9 _ w9 t9 k9 _ G 5 0 [(0, .ref (x + 121)), (1, .int (nI w))] [] Φ sz 0 0
  refine z_dconst0 B dX9_marginOfAll_0 ?_
  refine z_dstore_n (lv' := [(2, .double FP.dconst0), (0, .ref (x + 121)), (1, .int (nI w))]) B dX9_marginOfAll_1 rfl (Nat.le_of_ble_eq_true rfl) rfl ?_
  refine z_iconst (v := 0) B dX9_marginOfAll_2 rfl ?_
  refine z_istore (lv' := [(4, .int 0), (2, .double FP.dconst0), (0, .ref (x + 121)), (1, .int (nI w))]) B dX9_marginOfAll_3 (Nat.le_of_ble_eq_true rfl) rfl ?_
  refine z_lv [0, 1, 2, 3] rfl ?_
  refine z_loop (α := Nat × UInt64) (fun (a9 : Nat × UInt64) Φi => In G x (ca) Φi ∧ Fr x (fun j9 => False) Φ Φi ∧ (a9.1 ≤ 24) ∧ (pd64 a9.2) ∧ True) (fun a9 => [(4, .int (nI (a9.1))), (2, .double a9.2), (0, .ref (x + 121)), (1, .int (nI w))]) (fun a9 => 24 - a9.1) ?_ (0, FP.dconst0) ⟨hI, fun _ _ => rfl, (show 0 ≤ 24 by omega), pd_zero, trivial⟩
  rintro ⟨i_1, i_2⟩ Φl1 ⟨hI1, hF1, b_1, b_2, -⟩ ih1
  replace hI1 : In G x (ca) Φl1 := hI1
  replace b_1 : i_1 ≤ 24 := b_1
  replace b_2 : pd64 i_2 := b_2
  show Z p9 l e9 _ s9 m9 _ w9 t9 k9 _ G 5 5 [(4, .int (nI i_1)), (2, .double i_2), (0, .ref (x + 121)), (1, .int (nI w))] [] Φl1 _ _ _
  refine z_iload B dX9_marginOfAll_5 0 rfl ?_
  refine z_aload_n B dX9_marginOfAll_7 rfl 2 rfl ?_
  obtain ⟨n_1, h_1, b_3⟩ := in20 (k := 121) hI1 rfl
  have h_2 : Φl1 (x + 121) = some (o_ 11 [.ref (x + 122), .ref (x + 123), .ref (x + 126), .ref (x + 129), .int (nI n_1)]) := h_1
  refine z_get (ref := "FlowExporter$Sums") (C := RX9) (T := TX9) (N := 5) (ci := 11) (v := .int (nI n_1)) B hu_X9_marginOfAll_X9 rfl 4 (Nat.le_of_ble_eq_true rfl) hv_X9_marginOfAll_28 rfl h_2 rfl dX9_marginOfAll_8 ?_
  refine z_icmp_ge (tgt := 32) B dX9_marginOfAll_11 rfl (fun c_1 => ?_) (fun c_1 => ?_)
  · have e_1 : n_1 ≤ i_1 := (nI_leI (a := n_1) (b := i_1) (by omega) (by omega)).mp c_1
    refine z_dload_n B dX9_marginOfAll_32 rfl 1 rfl ?_
    refine z_callS (As := [.double i_2]) (rest := []) B (s_X9_margin G l Φl1 sz x (ca) i_2 hx hI1 (pd_nn b_2)) (va_cwS 1 B.1.2.2.2.2 gX9_marginOfAll_X9_margin rfl rfl rfl (by decide +kernel) ⟨Nat.le_of_ble_eq_true rfl, Nat.le_of_ble_eq_true rfl⟩) rfl rfl (Nat.le_of_ble_eq_true rfl) dX9_marginOfAll_33 ⟨Nat.le_of_ble_eq_true rfl, Nat.le_of_ble_eq_true rfl⟩ (fun r_1 Φ1 sz1 st1 hp1 hs1 => ?_)
    obtain ⟨⟨v_1, rfl, q_1⟩, hq1, hI2, hF2⟩ := hp1
    subst sz1
    replace hs1 : st1 = [.double v_1] := hs1
    subst st1
    replace hI2 : In G x (ca) Φ1 := hI2
    exact z_ret_d B dX9_marginOfAll_36 ⟨⟨_, rfl, q_1⟩, rfl, hI2, (fun b9 h9 => ((hF2 b9 (fun j9 h8 h7 => (show False from h7).elim)).trans ((hF1 b9 (fun j9 h8 h7 => (show False from h7).elim)).trans rfl)))⟩
  · have e_2 : ¬ (n_1 ≤ i_1) := fun h9 => c_1 ((nI_leI (a := n_1) (b := i_1) (by omega) (by omega)).mpr h9)
    refine z_dload_n B dX9_marginOfAll_14 rfl 1 rfl ?_
    refine z_aload_n B dX9_marginOfAll_15 rfl 2 rfl ?_
    refine z_get (ref := "FlowExporter$Sums") (C := RX9) (T := TX9) (N := 5) (ci := 11) (v := .ref (x + 129)) B hu_X9_marginOfAll_X9 rfl 3 (Nat.le_of_ble_eq_true rfl) hv_X9_marginOfAll_25 rfl h_2 rfl dX9_marginOfAll_16 ?_
    refine z_iload_n B dX9_marginOfAll_19 rfl 3 rfl ?_
    obtain ⟨f_1, h_3, r_2⟩ := in23 (k := 129) hI1 rfl
    have h_4 : Φl1 (x + 129) = some (aq_ G 8 2 f_1) := h_3
    refine z_aaldA (b := x + (129 + 1 + w)) B rfl h_4 (vp_in_nI (by omega) (by omega)) ((congrArg f_1 (nI_clamp (by omega))).trans (r_2 w (by omega))) dX9_marginOfAll_20 ?_
    refine z_iload B dX9_marginOfAll_21 0 rfl ?_
    obtain ⟨f_2, h_5, r_3⟩ := in24 (k := 129 + 1 + w) hI1 (kd_2c (by omega))
    have h_6 : Φl1 (x + (129 + 1 + w)) = some (ad_ G 24 f_2) := h_5
    refine z_dald B h_6 (vp_in_nI (by omega) (by omega)) dX9_marginOfAll_23 ?_
    refine z_fdq (P := fun u9 : UInt64 => pd64 u9) (r_3 _) (fun v_3 q_3 => ?_)
    replace q_3 : pd64 v_3 := q_3
    have q_5 : pd64 (FP.dadd i_2 v_3) := (pd_add b_2 q_3)
    refine z_dadd B dX9_marginOfAll_24 (vf_of (pd_nn q_5)) ?_
    refine z_fdq (P := fun u9 : UInt64 => pd64 u9) q_5 (fun v_4 q_7 => ?_)
    replace q_7 : pd64 v_4 := q_7
    refine z_dstore_n (lv' := [(2, .double v_4), (4, .int (nI i_1)), (0, .ref (x + 121)), (1, .int (nI w))]) B dX9_marginOfAll_25 rfl (Nat.le_of_ble_eq_true rfl) rfl ?_
    refine z_iinc (k := 1) (v := nI (i_1 + 1)) (lv' := [(4, .int (nI (i_1 + 1))), (2, .double v_4), (0, .ref (x + 121)), (1, .int (nI w))]) B dX9_marginOfAll_26 rfl (nI_add i_1 1) (Nat.le_of_ble_eq_true rfl) rfl ?_
    refine z_goto (tgt := 5) B dX9_marginOfAll_29 rfl ?_
    refine z_lv [0, 1, 2, 3] rfl ?_
    exact ih1 (i_1 + 1, v_4) Φl1 (show 24 - (i_1 + 1) < 24 - i_1 by omega) ⟨hI1, (fun b9 h9 => ((hF1 b9 (fun j9 h8 h7 => (show False from h7).elim)).trans rfl)), (show (i_1 + 1) ≤ 24 by omega), q_7, trivial⟩

theorem hu_X9_estimateOfAll_X9 : ∀ w ∈ u_ws RX9 TX9 5, w ∈ wsX9_estimateOfAll := fun _ h => List.mem_cons_of_mem _ (List.mem_append_left _ (List.mem_append_right _ (h)))

theorem hv_X9_estimateOfAll_28 : Cond.fieldLink RX9 28 "FlowExporter$Sums" (TX9 4).2.1 (TX9 4).2.2.1 ∈ wsX9_estimateOfAll := List.mem_cons_of_mem _ (List.mem_append_left _ (List.mem_append_left _ (List.mem_of_getElem? (i := 0) rfl)))

theorem hv_X9_estimateOfAll_20 : Cond.fieldLink RX9 20 "FlowExporter$Sums" (TX9 2).2.1 (TX9 2).2.2.1 ∈ wsX9_estimateOfAll := List.mem_cons_of_mem _ (List.mem_append_left _ (List.mem_append_left _ (List.mem_of_getElem? (i := 1) rfl)))

set_option maxHeartbeats 4000000 in
set_option maxRecDepth 100000 in
theorem s_X9_estimateOfAll (G : EnvG) (l : Launch) (Φ : Hm) (sz x ca : Nat) (w : Nat) (hx : G.2.2.2 ≤ x) (hI : In G x ca Φ) (hw : w < 2) : Ct G l yX9_estimateOfAll wsX9_estimateOfAll ({ frames := 0, cells := 0, slots := 0, locals := 0 }) 0 0 [.ref (x + 121), .int (nI w)] Φ sz (fun v Φ1 sz1 => (∃ r9 : Int64, v = some (.long r9)) ∧ sz1 = sz ∧ In G x (ca) Φ1 ∧ Fr x (fun j9 => False) Φ Φ1) := by
  refine Ct.of (cc := cX9_estimateOfAll) (maxL := 5) (ret := (some .long)) (by decide) rfl (Nat.le_of_ble_eq_true rfl) ?_
  intro p9 e9 s9 m9 w9 t9 k9 B
  show Z p9 l e9 _ s9 m9 _ w9 t9 k9 _ G 5 0 [(0, .ref (x + 121)), (1, .int (nI w))] [] Φ sz 0 0
  refine z_lconst (v := 0) B dX9_estimateOfAll_0 rfl ?_
  refine z_lstore_n (lv' := [(2, .long 0), (0, .ref (x + 121)), (1, .int (nI w))]) B dX9_estimateOfAll_1 rfl (Nat.le_of_ble_eq_true rfl) rfl ?_
  refine z_iconst (v := 0) B dX9_estimateOfAll_2 rfl ?_
  refine z_istore (lv' := [(4, .int 0), (2, .long 0), (0, .ref (x + 121)), (1, .int (nI w))]) B dX9_estimateOfAll_3 (Nat.le_of_ble_eq_true rfl) rfl ?_
  refine z_lv [0, 1, 2, 3] rfl ?_
  refine z_loop (α := Nat × Int64) (fun (a9 : Nat × Int64) Φi => In G x (ca) Φi ∧ Fr x (fun j9 => False) Φ Φi ∧ (a9.1 ≤ 24) ∧ True) (fun a9 => [(4, .int (nI (a9.1))), (2, .long a9.2), (0, .ref (x + 121)), (1, .int (nI w))]) (fun a9 => 24 - a9.1) ?_ (0, 0) ⟨hI, fun _ _ => rfl, (show 0 ≤ 24 by omega), trivial⟩
  rintro ⟨i_1, i_2⟩ Φl1 ⟨hI1, hF1, b_1, -⟩ ih1
  replace hI1 : In G x (ca) Φl1 := hI1
  replace b_1 : i_1 ≤ 24 := b_1
  show Z p9 l e9 _ s9 m9 _ w9 t9 k9 _ G 5 5 [(4, .int (nI i_1)), (2, .long i_2), (0, .ref (x + 121)), (1, .int (nI w))] [] Φl1 _ _ _
  refine z_iload B dX9_estimateOfAll_5 0 rfl ?_
  refine z_aload_n B dX9_estimateOfAll_7 rfl 2 rfl ?_
  obtain ⟨n_1, h_1, b_2⟩ := in20 (k := 121) hI1 rfl
  have h_2 : Φl1 (x + 121) = some (o_ 11 [.ref (x + 122), .ref (x + 123), .ref (x + 126), .ref (x + 129), .int (nI n_1)]) := h_1
  refine z_get (ref := "FlowExporter$Sums") (C := RX9) (T := TX9) (N := 5) (ci := 11) (v := .int (nI n_1)) B hu_X9_estimateOfAll_X9 rfl 4 (Nat.le_of_ble_eq_true rfl) hv_X9_estimateOfAll_28 rfl h_2 rfl dX9_estimateOfAll_8 ?_
  refine z_icmp_ge (tgt := 32) B dX9_estimateOfAll_11 rfl (fun c_1 => ?_) (fun c_1 => ?_)
  · have e_1 : n_1 ≤ i_1 := (nI_leI (a := n_1) (b := i_1) (by omega) (by omega)).mp c_1
    refine z_lload_n B dX9_estimateOfAll_32 rfl 1 rfl ?_
    exact z_ret_l B dX9_estimateOfAll_33 ⟨⟨_, rfl⟩, rfl, hI1, (fun b9 h9 => ((hF1 b9 (fun j9 h8 h7 => (show False from h7).elim)).trans rfl))⟩
  · have e_2 : ¬ (n_1 ≤ i_1) := fun h9 => c_1 ((nI_leI (a := n_1) (b := i_1) (by omega) (by omega)).mpr h9)
    refine z_lload_n B dX9_estimateOfAll_14 rfl 1 rfl ?_
    refine z_aload_n B dX9_estimateOfAll_15 rfl 2 rfl ?_
    refine z_get (ref := "FlowExporter$Sums") (C := RX9) (T := TX9) (N := 5) (ci := 11) (v := .ref (x + 126)) B hu_X9_estimateOfAll_X9 rfl 2 (Nat.le_of_ble_eq_true rfl) hv_X9_estimateOfAll_20 rfl h_2 rfl dX9_estimateOfAll_16 ?_
    refine z_iload_n B dX9_estimateOfAll_19 rfl 3 rfl ?_
    obtain ⟨f_1, h_3, r_1⟩ := in22 (k := 126) hI1 rfl
    have h_4 : Φl1 (x + 126) = some (aq_ G 7 2 f_1) := h_3
    refine z_aaldA (b := x + (126 + 1 + w)) B rfl h_4 (vp_in_nI (by omega) (by omega)) ((congrArg f_1 (nI_clamp (by omega))).trans (r_1 w (by omega))) dX9_estimateOfAll_20 ?_
    refine z_iload B dX9_estimateOfAll_21 0 rfl ?_
    obtain ⟨f_2, h_5⟩ := in21 (k := 126 + 1 + w) hI1 (kd_2b (by omega))
    have h_6 : Φl1 (x + (126 + 1 + w)) = some (al_ G 24 f_2) := h_5
    refine z_lald B h_6 (vp_in_nI (by omega) (by omega)) dX9_estimateOfAll_23 ?_
    refine z_fl (fun v_1 => ?_)
    refine z_ladd B dX9_estimateOfAll_24 ?_
    refine z_fl (fun v_2 => ?_)
    refine z_lstore_n (lv' := [(2, .long v_2), (4, .int (nI i_1)), (0, .ref (x + 121)), (1, .int (nI w))]) B dX9_estimateOfAll_25 rfl (Nat.le_of_ble_eq_true rfl) rfl ?_
    refine z_iinc (k := 1) (v := nI (i_1 + 1)) (lv' := [(4, .int (nI (i_1 + 1))), (2, .long v_2), (0, .ref (x + 121)), (1, .int (nI w))]) B dX9_estimateOfAll_26 rfl (nI_add i_1 1) (Nat.le_of_ble_eq_true rfl) rfl ?_
    refine z_goto (tgt := 5) B dX9_estimateOfAll_29 rfl ?_
    refine z_lv [0, 1, 2, 3] rfl ?_
    exact ih1 (i_1 + 1, v_2) Φl1 (show 24 - (i_1 + 1) < 24 - i_1 by omega) ⟨hI1, (fun b9 h9 => ((hF1 b9 (fun j9 h8 h7 => (show False from h7).elim)).trans rfl)), (show (i_1 + 1) ≤ 24 by omega), trivial⟩

theorem hu_X9_rankOf_X9 : ∀ w ∈ u_ws RX9 TX9 5, w ∈ wsX9_rankOf := fun _ h => List.mem_cons_of_mem _ (List.mem_append_left _ (List.mem_append_right _ (h)))

theorem hv_X9_rankOf_20 : Cond.fieldLink RX9 20 "FlowExporter$Sums" (TX9 2).2.1 (TX9 2).2.2.1 ∈ wsX9_rankOf := List.mem_cons_of_mem _ (List.mem_append_left _ (List.mem_append_left _ (List.mem_of_getElem? (i := 0) rfl)))

theorem hv_X9_rankOf_28 : Cond.fieldLink RX9 28 "FlowExporter$Sums" (TX9 4).2.1 (TX9 4).2.2.1 ∈ wsX9_rankOf := List.mem_cons_of_mem _ (List.mem_append_left _ (List.mem_append_left _ (List.mem_of_getElem? (i := 1) rfl)))

set_option maxHeartbeats 4000000 in
set_option maxRecDepth 100000 in
theorem s_X9_rankOf (G : EnvG) (l : Launch) (Φ : Hm) (sz x ca : Nat) (i : Nat) (w : Nat) (hx : G.2.2.2 ≤ x) (hI : In G x ca Φ) (hi : i < 24) (hw : w < 2) : Ct G l yX9_rankOf wsX9_rankOf ({ frames := 0, cells := 0, slots := 0, locals := 0 }) 0 0 [.ref (x + 121), .int (nI i), .int (nI w)] Φ sz (fun v Φ1 sz1 => (∃ r9 : Int32, v = some (.int r9)) ∧ sz1 = sz ∧ In G x (ca) Φ1 ∧ Fr x (fun j9 => False) Φ Φ1) := by
  refine Ct.of (cc := cX9_rankOf) (maxL := 9) (ret := (some .int)) (by decide) rfl (Nat.le_of_ble_eq_true rfl) ?_
  intro p9 e9 s9 m9 w9 t9 k9 B
  show Z p9 l e9 _ s9 m9 _ w9 t9 k9 _ G 9 0 [(0, .ref (x + 121)), (1, .int (nI i)), (2, .int (nI w))] [] Φ sz 0 0
  refine z_aload_n B dX9_rankOf_0 rfl 0 rfl ?_
  obtain ⟨n_1, h_1, b_1⟩ := in20 (k := 121) hI rfl
  have h_2 : Φ (x + 121) = some (o_ 11 [.ref (x + 122), .ref (x + 123), .ref (x + 126), .ref (x + 129), .int (nI n_1)]) := h_1
  refine z_get (ref := "FlowExporter$Sums") (C := RX9) (T := TX9) (N := 5) (ci := 11) (v := .ref (x + 126)) B hu_X9_rankOf_X9 rfl 2 (Nat.le_of_ble_eq_true rfl) hv_X9_rankOf_20 rfl h_2 rfl dX9_rankOf_1 ?_
  refine z_iload_n B dX9_rankOf_4 rfl 2 rfl ?_
  obtain ⟨f_1, h_3, r_1⟩ := in22 (k := 126) hI rfl
  have h_4 : Φ (x + 126) = some (aq_ G 7 2 f_1) := h_3
  refine z_aaldA (b := x + (126 + 1 + w)) B rfl h_4 (vp_in_nI (by omega) (by omega)) ((congrArg f_1 (nI_clamp (by omega))).trans (r_1 w (by omega))) dX9_rankOf_5 ?_
  refine z_iload_n B dX9_rankOf_6 rfl 1 rfl ?_
  obtain ⟨f_2, h_5⟩ := in21 (k := 126 + 1 + w) hI (kd_2b (by omega))
  have h_6 : Φ (x + (126 + 1 + w)) = some (al_ G 24 f_2) := h_5
  refine z_lald B h_6 (vp_in_nI (by omega) (by omega)) dX9_rankOf_7 ?_
  refine z_fl (fun v_1 => ?_)
  refine z_lstore_n (lv' := [(3, .long v_1), (0, .ref (x + 121)), (1, .int (nI i)), (2, .int (nI w))]) B dX9_rankOf_8 rfl (Nat.le_of_ble_eq_true rfl) rfl ?_
  refine z_iconst (v := 0) B dX9_rankOf_9 rfl ?_
  refine z_istore (lv' := [(5, .int 0), (3, .long v_1), (0, .ref (x + 121)), (1, .int (nI i)), (2, .int (nI w))]) B dX9_rankOf_10 (Nat.le_of_ble_eq_true rfl) rfl ?_
  refine z_iconst (v := 0) B dX9_rankOf_12 rfl ?_
  refine z_istore (lv' := [(6, .int 0), (5, .int 0), (3, .long v_1), (0, .ref (x + 121)), (1, .int (nI i)), (2, .int (nI w))]) B dX9_rankOf_13 (Nat.le_of_ble_eq_true rfl) rfl ?_
  refine z_lv [0, 1, 2, 3, 4, 5] rfl ?_
  refine z_loop (α := Nat × Int32) (fun (a9 : Nat × Int32) Φi => In G x (ca) Φi ∧ Fr x (fun j9 => False) Φ Φi ∧ (a9.1 ≤ 24) ∧ True) (fun a9 => [(6, .int (nI (a9.1))), (5, .int a9.2), (3, .long v_1), (0, .ref (x + 121)), (1, .int (nI i)), (2, .int (nI w))]) (fun a9 => 24 - a9.1) ?_ (0, 0) ⟨hI, fun _ _ => rfl, (show 0 ≤ 24 by omega), trivial⟩
  rintro ⟨i_1, i_2⟩ Φl1 ⟨hI1, hF1, b_2, -⟩ ih1
  replace hI1 : In G x (ca) Φl1 := hI1
  replace b_2 : i_1 ≤ 24 := b_2
  show Z p9 l e9 _ s9 m9 _ w9 t9 k9 _ G 9 15 [(6, .int (nI i_1)), (5, .int i_2), (3, .long v_1), (0, .ref (x + 121)), (1, .int (nI i)), (2, .int (nI w))] [] Φl1 _ _ _
  refine z_iload B dX9_rankOf_15 0 rfl ?_
  refine z_aload_n B dX9_rankOf_17 rfl 3 rfl ?_
  have h_7 : Φl1 (x + 121) = some (o_ 11 [.ref (x + 122), .ref (x + 123), .ref (x + 126), .ref (x + 129), .int (nI n_1)]) := ((hF1 (x + 121) (fun j9 h8 h7 => (show False from h7).elim)).trans h_2)
  refine z_get (ref := "FlowExporter$Sums") (C := RX9) (T := TX9) (N := 5) (ci := 11) (v := .int (nI n_1)) B hu_X9_rankOf_X9 rfl 4 (Nat.le_of_ble_eq_true rfl) hv_X9_rankOf_28 rfl h_7 rfl dX9_rankOf_18 ?_
  refine z_icmp_ge (tgt := 64) B dX9_rankOf_21 rfl (fun c_1 => ?_) (fun c_1 => ?_)
  · have e_1 : n_1 ≤ i_1 := (nI_leI (a := n_1) (b := i_1) (by omega) (by omega)).mp c_1
    refine z_iload B dX9_rankOf_64 1 rfl ?_
    exact z_ret_i B dX9_rankOf_66 ⟨⟨_, rfl⟩, rfl, hI1, (fun b9 h9 => ((hF1 b9 (fun j9 h8 h7 => (show False from h7).elim)).trans rfl))⟩
  · have e_2 : ¬ (n_1 ≤ i_1) := fun h9 => c_1 ((nI_leI (a := n_1) (b := i_1) (by omega) (by omega)).mpr h9)
    refine z_aload_n B dX9_rankOf_24 rfl 3 rfl ?_
    refine z_get (ref := "FlowExporter$Sums") (C := RX9) (T := TX9) (N := 5) (ci := 11) (v := .ref (x + 126)) B hu_X9_rankOf_X9 rfl 2 (Nat.le_of_ble_eq_true rfl) hv_X9_rankOf_20 rfl h_7 rfl dX9_rankOf_25 ?_
    refine z_iload_n B dX9_rankOf_28 rfl 5 rfl ?_
    have h_8 : Φl1 (x + 126) = some (aq_ G 7 2 f_1) := ((hF1 (x + 126) (fun j9 h8 h7 => (show False from h7).elim)).trans h_4)
    refine z_aaldA (b := x + (126 + 1 + w)) B rfl h_8 (vp_in_nI (by omega) (by omega)) ((congrArg f_1 (nI_clamp (by omega))).trans (r_1 w (by omega))) dX9_rankOf_29 ?_
    refine z_iload B dX9_rankOf_30 0 rfl ?_
    have h_9 : Φl1 (x + (126 + 1 + w)) = some (al_ G 24 f_2) := ((hF1 (x + (126 + 1 + w)) (fun j9 h8 h7 => (show False from h7).elim)).trans h_6)
    refine z_lald B h_9 (vp_in_nI (by omega) (by omega)) dX9_rankOf_32 ?_
    refine z_fl (fun v_2 => ?_)
    refine z_lstore (lv' := [(7, .long v_2), (6, .int (nI i_1)), (5, .int i_2), (3, .long v_1), (0, .ref (x + 121)), (1, .int (nI i)), (2, .int (nI w))]) B dX9_rankOf_33 (Nat.le_of_ble_eq_true rfl) rfl ?_
    refine z_lload B dX9_rankOf_35 0 rfl ?_
    refine z_lload_n B dX9_rankOf_37 rfl 3 rfl ?_
    refine z_lcmp B dX9_rankOf_38 ?_
    refine z_fi (fun v_3 => ?_)
    refine z_if_gt (tgt := 55) B dX9_rankOf_39 rfl (fun c_2 => ?_) (fun c_2 => ?_)
    · obtain ⟨n_2, e_4, e_3, rfl⟩ := nI_ofp (Int32.not_le.mpr c_2)
      refine z_iinc (k := 2) (v := i_2 + 1) (lv' := [(5, .int (i_2 + 1)), (7, .long v_2), (6, .int (nI i_1)), (3, .long v_1), (0, .ref (x + 121)), (1, .int (nI i)), (2, .int (nI w))]) B dX9_rankOf_55 rfl rfl (Nat.le_of_ble_eq_true rfl) rfl ?_
      refine z_iinc (k := 2) (v := nI (i_1 + 1)) (lv' := [(6, .int (nI (i_1 + 1))), (5, .int (i_2 + 1)), (7, .long v_2), (3, .long v_1), (0, .ref (x + 121)), (1, .int (nI i)), (2, .int (nI w))]) B dX9_rankOf_58 rfl (nI_add i_1 1) (Nat.le_of_ble_eq_true rfl) rfl ?_
      refine z_goto (tgt := 15) B dX9_rankOf_61 rfl ?_
      refine z_lv [0, 1, 3, 4, 5, 6] rfl ?_
      exact ih1 (i_1 + 1, i_2 + 1) Φl1 (show 24 - (i_1 + 1) < 24 - i_1 by omega) ⟨hI1, (fun b9 h9 => ((hF1 b9 (fun j9 h8 h7 => (show False from h7).elim)).trans rfl)), (show (i_1 + 1) ≤ 24 by omega), trivial⟩
    · refine z_lload B dX9_rankOf_42 0 rfl ?_
      refine z_lload_n B dX9_rankOf_44 rfl 3 rfl ?_
      refine z_lcmp B dX9_rankOf_45 ?_
      refine z_fi (fun v_4 => ?_)
      refine z_if_ne (tgt := 58) B dX9_rankOf_46 rfl (fun c_3 => ?_) (fun c_3 => ?_)
      · refine z_iinc (k := 1) (v := nI (i_1 + 1)) (lv' := [(6, .int (nI (i_1 + 1))), (7, .long v_2), (5, .int i_2), (3, .long v_1), (0, .ref (x + 121)), (1, .int (nI i)), (2, .int (nI w))]) B dX9_rankOf_58 rfl (nI_add i_1 1) (Nat.le_of_ble_eq_true rfl) rfl ?_
        refine z_goto (tgt := 15) B dX9_rankOf_61 rfl ?_
        refine z_lv [0, 2, 3, 4, 5, 6] rfl ?_
        exact ih1 (i_1 + 1, i_2) Φl1 (show 24 - (i_1 + 1) < 24 - i_1 by omega) ⟨hI1, (fun b9 h9 => ((hF1 b9 (fun j9 h8 h7 => (show False from h7).elim)).trans rfl)), (show (i_1 + 1) ≤ 24 by omega), trivial⟩
      · refine z_iload B dX9_rankOf_49 1 rfl ?_
        refine z_iload_n B dX9_rankOf_51 rfl 5 rfl ?_
        refine z_icmp_ge (tgt := 58) B dX9_rankOf_52 rfl (fun c_4 => ?_) (fun c_4 => ?_)
        · have e_5 : i ≤ i_1 := (nI_leI (a := i) (b := i_1) (by omega) (by omega)).mp c_4
          refine z_iinc (k := 1) (v := nI (i_1 + 1)) (lv' := [(6, .int (nI (i_1 + 1))), (7, .long v_2), (5, .int i_2), (3, .long v_1), (0, .ref (x + 121)), (1, .int (nI i)), (2, .int (nI w))]) B dX9_rankOf_58 rfl (nI_add i_1 1) (Nat.le_of_ble_eq_true rfl) rfl ?_
          refine z_goto (tgt := 15) B dX9_rankOf_61 rfl ?_
          refine z_lv [0, 2, 3, 4, 5, 6] rfl ?_
          exact ih1 (i_1 + 1, i_2) Φl1 (show 24 - (i_1 + 1) < 24 - i_1 by omega) ⟨hI1, (fun b9 h9 => ((hF1 b9 (fun j9 h8 h7 => (show False from h7).elim)).trans rfl)), (show (i_1 + 1) ≤ 24 by omega), trivial⟩
        · have e_6 : ¬ (i ≤ i_1) := fun h9 => c_4 ((nI_leI (a := i) (b := i_1) (by omega) (by omega)).mpr h9)
          refine z_iinc (k := 2) (v := i_2 + 1) (lv' := [(5, .int (i_2 + 1)), (7, .long v_2), (6, .int (nI i_1)), (3, .long v_1), (0, .ref (x + 121)), (1, .int (nI i)), (2, .int (nI w))]) B dX9_rankOf_55 rfl rfl (Nat.le_of_ble_eq_true rfl) rfl ?_
          refine z_iinc (k := 2) (v := nI (i_1 + 1)) (lv' := [(6, .int (nI (i_1 + 1))), (5, .int (i_2 + 1)), (7, .long v_2), (3, .long v_1), (0, .ref (x + 121)), (1, .int (nI i)), (2, .int (nI w))]) B dX9_rankOf_58 rfl (nI_add i_1 1) (Nat.le_of_ble_eq_true rfl) rfl ?_
          refine z_goto (tgt := 15) B dX9_rankOf_61 rfl ?_
          refine z_lv [0, 1, 3, 4, 5, 6] rfl ?_
          exact ih1 (i_1 + 1, i_2 + 1) Φl1 (show 24 - (i_1 + 1) < 24 - i_1 by omega) ⟨hI1, (fun b9 h9 => ((hF1 b9 (fun j9 h8 h7 => (show False from h7).elim)).trans rfl)), (show (i_1 + 1) ≤ 24 by omega), trivial⟩

theorem hu_X9_indexWithRank_X9 : ∀ w ∈ u_ws RX9 TX9 5, w ∈ wsX9_indexWithRank := fun _ h => List.mem_cons_of_mem _ (List.mem_append_left _ (List.mem_append_right _ (h)))

theorem hv_X9_indexWithRank_28 : Cond.fieldLink RX9 28 "FlowExporter$Sums" (TX9 4).2.1 (TX9 4).2.2.1 ∈ wsX9_indexWithRank := List.mem_cons_of_mem _ (List.mem_append_left _ (List.mem_append_left _ (List.mem_of_getElem? (i := 0) rfl)))

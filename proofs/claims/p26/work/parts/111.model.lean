set_option maxRecDepth 20000 in
theorem ggX12_readSets_X12_get : GoodIn wsX12_readSets wsX12_get := goodIn_ca ((goodIn_ca (goodIn_r _ [9, 10] rfl (by decide +kernel)) (goodIn_sub (fun _ h => List.mem_cons_of_mem _ (List.mem_append_left _ (List.mem_append_right _ h))) gw_wsX120))) (goodIn_sub (fun _ h => List.mem_cons_of_mem _ (List.mem_append_right _ h)) (all_fg _))
set_option maxRecDepth 20000 in
theorem gX12_readSets_X12_get : GoodIn wsX12_readSets (wsV RX12 339 RX12 yX12_get wsX12_get) := goodIn_app (goodIn_m (mem_cA (List.mem_cons_of_mem _ (List.mem_append_left _ (List.mem_append_left _ (List.mem_append_left _ (List.mem_of_getElem? (i := 4) rfl))))) (mem_cA (List.mem_cons_of_mem _ (List.mem_append_left _ (List.mem_append_left _ (List.mem_append_left _ (List.mem_of_getElem? (i := 5) rfl))))) (mem_cA (List.mem_cons_of_mem _ (List.mem_append_left _ (List.mem_append_left _ (List.mem_append_left _ (List.mem_of_getElem? (i := 6) rfl))))) (mem_cA (List.mem_cons_of_mem _ (List.mem_append_left _ (List.mem_append_left _ (List.mem_append_left _ (List.mem_of_getElem? (i := 7) rfl))))) mem_cZ)))) (by decide +kernel)) ggX12_readSets_X12_get
set_option maxRecDepth 20000 in
theorem ggX12_readSets_X12_readTemplates : GoodIn wsX12_readSets wsX12_readTemplates := goodIn_ca ((goodIn_ca (goodIn_r _ [14, 3, 4, 15, 16, 17, 18, 19, 20, 5, 6, 7, 8, 9, 10, 21, 22, 23, 24, 25, 26, 27, 28, 29, 30, 31] rfl (by decide +kernel)) (goodIn_sub (fun _ h => List.mem_cons_of_mem _ (List.mem_append_left _ (List.mem_append_right _ h))) gw_wsX120))) (goodIn_sub (fun _ h => List.mem_cons_of_mem _ (List.mem_append_right _ h)) (all_fg _))
set_option maxRecDepth 20000 in
theorem gX12_readSets_X12_readTemplates : GoodIn wsX12_readSets (wsV RX12 355 RX12 yX12_readTemplates wsX12_readTemplates) := goodIn_app (goodIn_m (mem_cA (List.mem_cons_of_mem _ (List.mem_append_left _ (List.mem_append_left _ (List.mem_append_left _ (List.mem_of_getElem? (i := 10) rfl))))) (mem_cA (List.mem_cons_of_mem _ (List.mem_append_left _ (List.mem_append_left _ (List.mem_append_left _ (List.mem_of_getElem? (i := 11) rfl))))) (mem_cA (List.mem_cons_of_mem _ (List.mem_append_left _ (List.mem_append_left _ (List.mem_append_left _ (List.mem_of_getElem? (i := 12) rfl))))) (mem_cA (List.mem_cons_of_mem _ (List.mem_append_left _ (List.mem_append_left _ (List.mem_append_left _ (List.mem_of_getElem? (i := 7) rfl))))) mem_cZ)))) (by decide +kernel)) ggX12_readSets_X12_readTemplates
set_option maxRecDepth 20000 in
theorem ggX12_readSets_X12_inRange : GoodIn wsX12_readSets wsX12_inRange := (goodIn_r _ [23] rfl (by decide +kernel))
set_option maxRecDepth 20000 in
theorem gX12_readSets_X12_inRange : GoodIn wsX12_readSets (va_wsS RX12 169 yX12_inRange wsX12_inRange) := goodIn_app (goodIn_m (mem_cA (List.mem_cons_of_mem _ (List.mem_append_left _ (List.mem_append_left _ (List.mem_append_left _ (List.mem_of_getElem? (i := 20) rfl))))) (mem_cA (List.mem_cons_of_mem _ (List.mem_append_left _ (List.mem_append_left _ (List.mem_append_left _ (List.mem_of_getElem? (i := 21) rfl))))) (mem_cA (List.mem_cons_of_mem _ (List.mem_append_left _ (List.mem_append_left _ (List.mem_append_left _ (List.mem_of_getElem? (i := 7) rfl))))) mem_cZ))) (by decide +kernel)) ggX12_readSets_X12_inRange
set_option maxRecDepth 20000 in
theorem ggX12_readSets_X12_readData : GoodIn wsX12_readSets wsX12_readData := goodIn_ca ((goodIn_ca (goodIn_r _ [35, 2, 16, 19, 36, 37, 38, 8, 39, 18, 17, 40, 29, 30, 31, 41, 42, 43, 44, 45, 46, 47, 48, 49, 5, 6, 7, 9, 10, 50, 51, 52, 53, 54, 55, 56, 57, 58, 59, 60, 61, 62, 63, 64, 65, 66, 67, 68, 69, 70] rfl (by decide +kernel)) (goodIn_sub (fun _ h => List.mem_cons_of_mem _ (List.mem_append_left _ (List.mem_append_right _ h))) gw_wsX120))) (goodIn_sub (fun _ h => List.mem_cons_of_mem _ (List.mem_append_right _ h)) (all_fg _))
set_option maxRecDepth 20000 in
theorem gX12_readSets_X12_readData : GoodIn wsX12_readSets (wsV RX12 362 RX12 yX12_readData wsX12_readData) := goodIn_app (goodIn_m (mem_cA (List.mem_cons_of_mem _ (List.mem_append_left _ (List.mem_append_left _ (List.mem_append_right _ (List.mem_append_left _ (List.mem_of_getElem? (i := 7) rfl)))))) (mem_cA (List.mem_cons_of_mem _ (List.mem_append_left _ (List.mem_append_left _ (List.mem_append_right _ (List.mem_append_left _ (List.mem_of_getElem? (i := 8) rfl)))))) (mem_cA (List.mem_cons_of_mem _ (List.mem_append_left _ (List.mem_append_left _ (List.mem_append_right _ (List.mem_append_left _ (List.mem_of_getElem? (i := 9) rfl)))))) (mem_cA (List.mem_cons_of_mem _ (List.mem_append_left _ (List.mem_append_left _ (List.mem_append_left _ (List.mem_of_getElem? (i := 7) rfl))))) mem_cZ)))) (by decide +kernel)) ggX12_readSets_X12_readData
theorem dX12_readSets_0 : decode cX12_readSets 0 = .ok (.bipush 16, 2) := by decide +kernel
theorem dX12_readSets_2 : decode cX12_readSets 2 = .ok (.istore_n 1, 1) := by decide +kernel
theorem dX12_readSets_3 : decode cX12_readSets 3 = .ok (.iconst 0, 1) := by decide +kernel
theorem dX12_readSets_4 : decode cX12_readSets 4 = .ok (.istore_n 2, 1) := by decide +kernel
theorem dX12_readSets_5 : decode cX12_readSets 5 = .ok (.aload_n 0, 1) := by decide +kernel
theorem dX12_readSets_6 : decode cX12_readSets 6 = .ok (.getfield 280, 3) := by decide +kernel
theorem dX12_readSets_9 : decode cX12_readSets 9 = .ok (.iload_n 1, 1) := by decide +kernel
theorem dX12_readSets_10 : decode cX12_readSets 10 = .ok (.isub, 1) := by decide +kernel
theorem dX12_readSets_11 : decode cX12_readSets 11 = .ok (.iconst 4, 1) := by decide +kernel
theorem dX12_readSets_12 : decode cX12_readSets 12 = .ok (.if_icmp .lt 108, 3) := by decide +kernel
theorem dX12_readSets_15 : decode cX12_readSets 15 = .ok (.aload_n 0, 1) := by decide +kernel
theorem dX12_readSets_16 : decode cX12_readSets 16 = .ok (.iload_n 1, 1) := by decide +kernel
theorem dX12_readSets_17 : decode cX12_readSets 17 = .ok (.iconst 2, 1) := by decide +kernel
theorem dX12_readSets_18 : decode cX12_readSets 18 = .ok (.invokevirtual 339, 3) := by decide +kernel
theorem dX12_readSets_21 : decode cX12_readSets 21 = .ok (.l2i, 1) := by decide +kernel
theorem dX12_readSets_22 : decode cX12_readSets 22 = .ok (.istore_n 3, 1) := by decide +kernel
theorem dX12_readSets_23 : decode cX12_readSets 23 = .ok (.aload_n 0, 1) := by decide +kernel
theorem dX12_readSets_24 : decode cX12_readSets 24 = .ok (.iload_n 1, 1) := by decide +kernel
theorem dX12_readSets_25 : decode cX12_readSets 25 = .ok (.iconst 2, 1) := by decide +kernel
theorem dX12_readSets_26 : decode cX12_readSets 26 = .ok (.iadd, 1) := by decide +kernel
theorem dX12_readSets_27 : decode cX12_readSets 27 = .ok (.iconst 2, 1) := by decide +kernel
theorem dX12_readSets_28 : decode cX12_readSets 28 = .ok (.invokevirtual 339, 3) := by decide +kernel
theorem dX12_readSets_31 : decode cX12_readSets 31 = .ok (.l2i, 1) := by decide +kernel
theorem dX12_readSets_32 : decode cX12_readSets 32 = .ok (.istore 4, 2) := by decide +kernel
theorem dX12_readSets_34 : decode cX12_readSets 34 = .ok (.iload 4, 2) := by decide +kernel
theorem dX12_readSets_36 : decode cX12_readSets 36 = .ok (.iconst 4, 1) := by decide +kernel
theorem dX12_readSets_37 : decode cX12_readSets 37 = .ok (.if_icmp .lt 14, 3) := by decide +kernel
theorem dX12_readSets_40 : decode cX12_readSets 40 = .ok (.iload 4, 2) := by decide +kernel
theorem dX12_readSets_42 : decode cX12_readSets 42 = .ok (.aload_n 0, 1) := by decide +kernel
theorem dX12_readSets_43 : decode cX12_readSets 43 = .ok (.getfield 280, 3) := by decide +kernel
theorem dX12_readSets_46 : decode cX12_readSets 46 = .ok (.iload_n 1, 1) := by decide +kernel
theorem dX12_readSets_47 : decode cX12_readSets 47 = .ok (.isub, 1) := by decide +kernel
theorem dX12_readSets_48 : decode cX12_readSets 48 = .ok (.if_icmp .le 15, 3) := by decide +kernel
theorem dX12_readSets_51 : decode cX12_readSets 51 = .ok (.aload_n 0, 1) := by decide +kernel
theorem dX12_readSets_52 : decode cX12_readSets 52 = .ok (.getfield 45, 3) := by decide +kernel
theorem dX12_readSets_55 : decode cX12_readSets 55 = .ok (.iconst 4, 1) := by decide +kernel
theorem dX12_readSets_56 : decode cX12_readSets 56 = .ok (.dup2, 1) := by decide +kernel
theorem dX12_readSets_57 : decode cX12_readSets 57 = .ok (.laload, 1) := by decide +kernel
theorem dX12_readSets_58 : decode cX12_readSets 58 = .ok (.lconst 1, 1) := by decide +kernel
theorem dX12_readSets_59 : decode cX12_readSets 59 = .ok (.ladd, 1) := by decide +kernel
theorem dX12_readSets_60 : decode cX12_readSets 60 = .ok (.lastore, 1) := by decide +kernel
theorem dX12_readSets_61 : decode cX12_readSets 61 = .ok (.iload_n 2, 1) := by decide +kernel
theorem dX12_readSets_62 : decode cX12_readSets 62 = .ok (.ireturn, 1) := by decide +kernel
theorem dX12_readSets_63 : decode cX12_readSets 63 = .ok (.iload_n 3, 1) := by decide +kernel
theorem dX12_readSets_64 : decode cX12_readSets 64 = .ok (.iconst 2, 1) := by decide +kernel
theorem dX12_readSets_65 : decode cX12_readSets 65 = .ok (.if_icmp .ne 14, 3) := by decide +kernel
theorem dX12_readSets_68 : decode cX12_readSets 68 = .ok (.aload_n 0, 1) := by decide +kernel
theorem dX12_readSets_69 : decode cX12_readSets 69 = .ok (.iload_n 1, 1) := by decide +kernel
theorem dX12_readSets_70 : decode cX12_readSets 70 = .ok (.iconst 4, 1) := by decide +kernel
theorem dX12_readSets_71 : decode cX12_readSets 71 = .ok (.iadd, 1) := by decide +kernel
theorem dX12_readSets_72 : decode cX12_readSets 72 = .ok (.iload_n 1, 1) := by decide +kernel
theorem dX12_readSets_73 : decode cX12_readSets 73 = .ok (.iload 4, 2) := by decide +kernel
theorem dX12_readSets_75 : decode cX12_readSets 75 = .ok (.iadd, 1) := by decide +kernel
theorem dX12_readSets_76 : decode cX12_readSets 76 = .ok (.invokevirtual 355, 3) := by decide +kernel
theorem dX12_readSets_79 : decode cX12_readSets 79 = .ok (.iload_n 3, 1) := by decide +kernel
theorem dX12_readSets_80 : decode cX12_readSets 80 = .ok (.i2l, 1) := by decide +kernel
theorem dX12_readSets_81 : decode cX12_readSets 81 = .ok (.ldc2_w 358, 3) := by decide +kernel
theorem dX12_readSets_84 : decode cX12_readSets 84 = .ok (.ldc2_w 360, 3) := by decide +kernel
theorem dX12_readSets_87 : decode cX12_readSets 87 = .ok (.invokestatic 169, 3) := by decide +kernel
theorem dX12_readSets_90 : decode cX12_readSets 90 = .ok (.ifCond .eq 22, 3) := by decide +kernel
theorem dX12_readSets_93 : decode cX12_readSets 93 = .ok (.iload_n 2, 1) := by decide +kernel
theorem dX12_readSets_94 : decode cX12_readSets 94 = .ok (.aload_n 0, 1) := by decide +kernel
theorem dX12_readSets_95 : decode cX12_readSets 95 = .ok (.iload_n 3, 1) := by decide +kernel
theorem dX12_readSets_96 : decode cX12_readSets 96 = .ok (.sipush 256, 3) := by decide +kernel
theorem dX12_readSets_99 : decode cX12_readSets 99 = .ok (.isub, 1) := by decide +kernel
theorem dX12_readSets_100 : decode cX12_readSets 100 = .ok (.iload_n 1, 1) := by decide +kernel
theorem dX12_readSets_101 : decode cX12_readSets 101 = .ok (.iconst 4, 1) := by decide +kernel
theorem dX12_readSets_102 : decode cX12_readSets 102 = .ok (.iadd, 1) := by decide +kernel
theorem dX12_readSets_103 : decode cX12_readSets 103 = .ok (.iload_n 1, 1) := by decide +kernel
theorem dX12_readSets_104 : decode cX12_readSets 104 = .ok (.iload 4, 2) := by decide +kernel
theorem dX12_readSets_106 : decode cX12_readSets 106 = .ok (.iadd, 1) := by decide +kernel
theorem dX12_readSets_107 : decode cX12_readSets 107 = .ok (.invokevirtual 362, 3) := by decide +kernel
theorem dX12_readSets_110 : decode cX12_readSets 110 = .ok (.iadd, 1) := by decide +kernel
theorem dX12_readSets_111 : decode cX12_readSets 111 = .ok (.istore_n 2, 1) := by decide +kernel
theorem dX12_readSets_112 : decode cX12_readSets 112 = .ok (.iload_n 1, 1) := by decide +kernel
theorem dX12_readSets_113 : decode cX12_readSets 113 = .ok (.iload 4, 2) := by decide +kernel
theorem dX12_readSets_115 : decode cX12_readSets 115 = .ok (.iadd, 1) := by decide +kernel
theorem dX12_readSets_116 : decode cX12_readSets 116 = .ok (.istore_n 1, 1) := by decide +kernel
theorem dX12_readSets_117 : decode cX12_readSets 117 = .ok (.goto (-112), 3) := by decide +kernel
theorem dX12_readSets_120 : decode cX12_readSets 120 = .ok (.iload_n 1, 1) := by decide +kernel
theorem dX12_readSets_121 : decode cX12_readSets 121 = .ok (.aload_n 0, 1) := by decide +kernel
theorem dX12_readSets_122 : decode cX12_readSets 122 = .ok (.getfield 280, 3) := by decide +kernel
theorem dX12_readSets_125 : decode cX12_readSets 125 = .ok (.if_icmp .ge 13, 3) := by decide +kernel
theorem dX12_readSets_128 : decode cX12_readSets 128 = .ok (.aload_n 0, 1) := by decide +kernel
theorem dX12_readSets_129 : decode cX12_readSets 129 = .ok (.getfield 45, 3) := by decide +kernel
theorem dX12_readSets_132 : decode cX12_readSets 132 = .ok (.iconst 4, 1) := by decide +kernel
theorem dX12_readSets_133 : decode cX12_readSets 133 = .ok (.dup2, 1) := by decide +kernel
theorem dX12_readSets_134 : decode cX12_readSets 134 = .ok (.laload, 1) := by decide +kernel
theorem dX12_readSets_135 : decode cX12_readSets 135 = .ok (.lconst 1, 1) := by decide +kernel
theorem dX12_readSets_136 : decode cX12_readSets 136 = .ok (.ladd, 1) := by decide +kernel
theorem dX12_readSets_137 : decode cX12_readSets 137 = .ok (.lastore, 1) := by decide +kernel
theorem dX12_readSets_138 : decode cX12_readSets 138 = .ok (.iload_n 2, 1) := by decide +kernel
theorem dX12_readSets_139 : decode cX12_readSets 139 = .ok (.ireturn, 1) := by decide +kernel
set_option maxRecDepth 20000 in
theorem ggX12_readData_X12_isKnown : GoodIn wsX12_readData wsX12_isKnown := goodIn_ca ((goodIn_ca (goodIn_r _ [8, 2, 9, 10, 11] rfl (by decide +kernel)) (goodIn_sub (fun _ h => List.mem_cons_of_mem _ (List.mem_append_left _ (List.mem_append_right _ h))) gw_wsX120))) (goodIn_sub (fun _ h => List.mem_cons_of_mem _ (List.mem_append_right _ h)) (all_fg _))
set_option maxRecDepth 20000 in
theorem gX12_readData_X12_isKnown : GoodIn wsX12_readData (wsV RX12 334 RX12 yX12_isKnown wsX12_isKnown) := goodIn_app (goodIn_m (mem_cA (List.mem_cons_of_mem _ (List.mem_append_left _ (List.mem_append_left _ (List.mem_append_left _ (List.mem_of_getElem? (i := 3) rfl))))) (mem_cA (List.mem_cons_of_mem _ (List.mem_append_left _ (List.mem_append_left _ (List.mem_append_left _ (List.mem_of_getElem? (i := 4) rfl))))) (mem_cA (List.mem_cons_of_mem _ (List.mem_append_left _ (List.mem_append_left _ (List.mem_append_left _ (List.mem_of_getElem? (i := 5) rfl))))) (mem_cA (List.mem_cons_of_mem _ (List.mem_append_left _ (List.mem_append_left _ (List.mem_append_left _ (List.mem_of_getElem? (i := 6) rfl))))) mem_cZ)))) (by decide +kernel)) ggX12_readData_X12_isKnown
set_option maxRecDepth 20000 in
theorem ggX12_readData_X12_lengthOf : GoodIn wsX12_readData wsX12_lengthOf := (goodIn_r _ [14] rfl (by decide +kernel))
set_option maxRecDepth 20000 in
theorem gX12_readData_X12_lengthOf : GoodIn wsX12_readData (va_wsS RX12 195 yX12_lengthOf wsX12_lengthOf) := goodIn_app (goodIn_m (mem_cA (List.mem_cons_of_mem _ (List.mem_append_left _ (List.mem_append_left _ (List.mem_append_left _ (List.mem_of_getElem? (i := 11) rfl))))) (mem_cA (List.mem_cons_of_mem _ (List.mem_append_left _ (List.mem_append_left _ (List.mem_append_left _ (List.mem_of_getElem? (i := 12) rfl))))) (mem_cA (List.mem_cons_of_mem _ (List.mem_append_left _ (List.mem_append_left _ (List.mem_append_left _ (List.mem_of_getElem? (i := 6) rfl))))) mem_cZ))) (by decide +kernel)) ggX12_readData_X12_lengthOf
set_option maxRecDepth 20000 in
theorem ggX12_readData_X12_decode : GoodIn wsX12_readData wsX12_decode := goodIn_ca ((goodIn_ca (goodIn_r _ [18, 19, 11, 2, 3, 20, 21, 22, 23, 1, 12, 13, 7, 14, 24, 25, 26, 27, 28, 29, 30, 31, 32, 33, 34, 35, 36, 37, 38, 39, 40, 41, 42, 43, 44, 45, 46, 47, 48, 49] rfl (by decide +kernel)) (goodIn_sub (fun _ h => List.mem_cons_of_mem _ (List.mem_append_left _ (List.mem_append_right _ h))) gw_wsX120))) (goodIn_sub (fun _ h => List.mem_cons_of_mem _ (List.mem_append_right _ h)) (all_fg _))
set_option maxRecDepth 20000 in
theorem gX12_readData_X12_decode : GoodIn wsX12_readData (wsV RX12 372 RX12 yX12_decode wsX12_decode) := goodIn_app (goodIn_m (mem_cA (List.mem_cons_of_mem _ (List.mem_append_left _ (List.mem_append_left _ (List.mem_append_left _ (List.mem_of_getElem? (i := 14) rfl))))) (mem_cA (List.mem_cons_of_mem _ (List.mem_append_left _ (List.mem_append_left _ (List.mem_append_left _ (List.mem_of_getElem? (i := 15) rfl))))) (mem_cA (List.mem_cons_of_mem _ (List.mem_append_left _ (List.mem_append_left _ (List.mem_append_left _ (List.mem_of_getElem? (i := 16) rfl))))) (mem_cA (List.mem_cons_of_mem _ (List.mem_append_left _ (List.mem_append_left _ (List.mem_append_left _ (List.mem_of_getElem? (i := 6) rfl))))) mem_cZ)))) (by decide +kernel)) ggX12_readData_X12_decode
theorem dX12_readData_0 : decode cX12_readData 0 = .ok (.aload_n 0, 1) := by decide +kernel
theorem dX12_readData_1 : decode cX12_readData 1 = .ok (.iload_n 1, 1) := by decide +kernel
theorem dX12_readData_2 : decode cX12_readData 2 = .ok (.invokevirtual 334, 3) := by decide +kernel
theorem dX12_readData_5 : decode cX12_readData 5 = .ok (.ifCond .ne 15, 3) := by decide +kernel
theorem dX12_readData_8 : decode cX12_readData 8 = .ok (.aload_n 0, 1) := by decide +kernel
theorem dX12_readData_9 : decode cX12_readData 9 = .ok (.getfield 45, 3) := by decide +kernel
theorem dX12_readData_12 : decode cX12_readData 12 = .ok (.iconst 3, 1) := by decide +kernel
theorem dX12_readData_13 : decode cX12_readData 13 = .ok (.dup2, 1) := by decide +kernel
theorem dX12_readData_14 : decode cX12_readData 14 = .ok (.laload, 1) := by decide +kernel
theorem dX12_readData_15 : decode cX12_readData 15 = .ok (.lconst 1, 1) := by decide +kernel
theorem dX12_readData_16 : decode cX12_readData 16 = .ok (.ladd, 1) := by decide +kernel
theorem dX12_readData_17 : decode cX12_readData 17 = .ok (.lastore, 1) := by decide +kernel
theorem dX12_readData_18 : decode cX12_readData 18 = .ok (.iconst 0, 1) := by decide +kernel
theorem dX12_readData_19 : decode cX12_readData 19 = .ok (.ireturn, 1) := by decide +kernel
theorem dX12_readData_20 : decode cX12_readData 20 = .ok (.iconst 0, 1) := by decide +kernel
theorem dX12_readData_21 : decode cX12_readData 21 = .ok (.istore 4, 2) := by decide +kernel
theorem dX12_readData_23 : decode cX12_readData 23 = .ok (.iconst 0, 1) := by decide +kernel
theorem dX12_readData_24 : decode cX12_readData 24 = .ok (.istore 5, 2) := by decide +kernel
theorem dX12_readData_26 : decode cX12_readData 26 = .ok (.iload 5, 2) := by decide +kernel
theorem dX12_readData_28 : decode cX12_readData 28 = .ok (.aload_n 0, 1) := by decide +kernel
theorem dX12_readData_29 : decode cX12_readData 29 = .ok (.getfield 48, 3) := by decide +kernel
theorem dX12_readData_32 : decode cX12_readData 32 = .ok (.iload_n 1, 1) := by decide +kernel
theorem dX12_readData_33 : decode cX12_readData 33 = .ok (.iaload, 1) := by decide +kernel
theorem dX12_readData_34 : decode cX12_readData 34 = .ok (.if_icmp .ge 29, 3) := by decide +kernel
theorem dX12_readData_37 : decode cX12_readData 37 = .ok (.iload 4, 2) := by decide +kernel
theorem dX12_readData_39 : decode cX12_readData 39 = .ok (.aload_n 0, 1) := by decide +kernel
theorem dX12_readData_40 : decode cX12_readData 40 = .ok (.getfield 51, 3) := by decide +kernel
theorem dX12_readData_43 : decode cX12_readData 43 = .ok (.bipush 9, 2) := by decide +kernel
theorem dX12_readData_45 : decode cX12_readData 45 = .ok (.iload_n 1, 1) := by decide +kernel
theorem dX12_readData_46 : decode cX12_readData 46 = .ok (.imul, 1) := by decide +kernel
theorem dX12_readData_47 : decode cX12_readData 47 = .ok (.iload 5, 2) := by decide +kernel
theorem dX12_readData_49 : decode cX12_readData 49 = .ok (.iadd, 1) := by decide +kernel
theorem dX12_readData_50 : decode cX12_readData 50 = .ok (.iaload, 1) := by decide +kernel
theorem dX12_readData_51 : decode cX12_readData 51 = .ok (.invokestatic 195, 3) := by decide +kernel
theorem dX12_readData_54 : decode cX12_readData 54 = .ok (.iadd, 1) := by decide +kernel
theorem dX12_readData_55 : decode cX12_readData 55 = .ok (.istore 4, 2) := by decide +kernel
theorem dX12_readData_57 : decode cX12_readData 57 = .ok (.iinc 5 1, 3) := by decide +kernel
theorem dX12_readData_60 : decode cX12_readData 60 = .ok (.goto (-34), 3) := by decide +kernel
theorem dX12_readData_63 : decode cX12_readData 63 = .ok (.iconst 0, 1) := by decide +kernel
theorem dX12_readData_64 : decode cX12_readData 64 = .ok (.istore 5, 2) := by decide +kernel
theorem dX12_readData_66 : decode cX12_readData 66 = .ok (.iload_n 2, 1) := by decide +kernel
theorem dX12_readData_67 : decode cX12_readData 67 = .ok (.istore 6, 2) := by decide +kernel
theorem dX12_readData_69 : decode cX12_readData 69 = .ok (.iload_n 3, 1) := by decide +kernel
theorem dX12_readData_70 : decode cX12_readData 70 = .ok (.iload 6, 2) := by decide +kernel
theorem dX12_readData_72 : decode cX12_readData 72 = .ok (.isub, 1) := by decide +kernel
theorem dX12_readData_73 : decode cX12_readData 73 = .ok (.iload 4, 2) := by decide +kernel
theorem dX12_readData_75 : decode cX12_readData 75 = .ok (.if_icmp .lt 23, 3) := by decide +kernel
theorem dX12_readData_78 : decode cX12_readData 78 = .ok (.aload_n 0, 1) := by decide +kernel
theorem dX12_readData_79 : decode cX12_readData 79 = .ok (.iload_n 1, 1) := by decide +kernel
theorem dX12_readData_80 : decode cX12_readData 80 = .ok (.iload 6, 2) := by decide +kernel
theorem dX12_readData_82 : decode cX12_readData 82 = .ok (.invokevirtual 372, 3) := by decide +kernel
theorem dX12_readData_85 : decode cX12_readData 85 = .ok (.iinc 5 1, 3) := by decide +kernel
theorem dX12_readData_88 : decode cX12_readData 88 = .ok (.iload 6, 2) := by decide +kernel
theorem dX12_readData_90 : decode cX12_readData 90 = .ok (.iload 4, 2) := by decide +kernel
theorem dX12_readData_92 : decode cX12_readData 92 = .ok (.iadd, 1) := by decide +kernel
theorem dX12_readData_93 : decode cX12_readData 93 = .ok (.istore 6, 2) := by decide +kernel
theorem dX12_readData_95 : decode cX12_readData 95 = .ok (.goto (-26), 3) := by decide +kernel
theorem dX12_readData_98 : decode cX12_readData 98 = .ok (.iload 5, 2) := by decide +kernel
theorem dX12_readData_100 : decode cX12_readData 100 = .ok (.ireturn, 1) := by decide +kernel
set_option maxHeartbeats 4000000 in
set_option maxRecDepth 100000 in
theorem r_readData (G : EnvG) (l : Launch) (Φ : Hm) (sz x : Nat) (rd : (Nat → Int32) → Prop) (nw : (Nat → Int32) → Prop) (cr : (Nat → Int64) → Prop) (tp : (Nat → Int32) → Prop) (tt : (Nat → Int64) → Prop) (sI : (Nat → Int32) → Prop) (sT : (Nat → Int32) → Prop) (pt : (Nat → Int32) → Prop) (ql : (Nat → Int32) → Prop) (fl : Nat) (pe : Nat) (le : Nat) (nx : Nat) (il : Nat) (qu : Nat) (kn : Int32) (ec : Int32) (nu : Int32) (va : Int64) (st : Nat) (ep : Int32) (ti : Int32) (ad : Int32) (ob : Int64) (ra : Int32) (rt : Nat) (ex : Int32) (sa : Int64) (us : Int64) (tk : Nat) (th : Int32) (me : Int32) (dr : Int32) (se : Int64) (sn : Int64) (t : Nat) (f : Nat) (g : Nat) (hx : G.2.2.2 ≤ x) (hI : Im G x (rd, nw, cr, tp, tt, sI, sT, pt, ql, fl, pe, le, nx, il, qu, kn, ec, nu, va, st, ep, ti, ad, ob, ra, rt, ex, sa, us, tk, th, me, dr, se, sn) Φ) (ht : t < 4) (hf : f ≤ g) (hg : g ≤ 700) (hnw : ∀ f9 : Nat → Int32, nw f9 → NN f9) : CtD G l yX12_readData wsX12_readData ({ frames := 4, cells := 0, slots := 0, locals := 110 }) 0 0 [.ref x, .int (nI t), .int (nI f), .int (nI g)] Φ sz (fun v Φ1 sz1 => (∃ r9 : Int32, v = some (.int r9)) ∧ sz1 = sz ∧ (Im G x (rd, nw, cr, tp, tt, sI, sT, pt, ql, fl, pe, le, nx, il, qu, kn, ec, nu, va, st, ep, ti, ad, ob, ra, rt, ex, sa, us, tk, th, me, dr, se, sn) Φ1) ∧ Fr x (fun j9 => j9 = 0 ∨ j9 = 11 ∨ j9 = 18 ∨ j9 = 19 ∨ j9 = 20 ∨ j9 = 21 ∨ j9 = 22) Φ Φ1) := by
  refine CtD.of (cc := cX12_readData) (maxL := 7) (ret := (some .int)) (by decide) rfl (Nat.le_of_ble_eq_true rfl) ?_
  intro p9 e9 s9 m9 w9 t9 k9 d9 hd9 B
  show Z p9 l e9 _ (s9.setDrawn d9) m9 _ w9 t9 k9 _ G 7 0 [(0, .ref x), (1, .int (nI t)), (2, .int (nI f)), (3, .int (nI g))] [] Φ sz 0 0
  obtain ⟨f_1, h_1, r_1⟩ := imk (k := 12) hI
  replace r_1 : Rw 9 f_1 := r_1
  have h_2 : Φ (x + 12) = some (ai_ G 4 f_1) := h_1
  obtain ⟨f_2, h_3, r_2⟩ := imk (k := 13) hI
  replace r_2 : Rw 8 f_2 := r_2
  have h_4 : Φ (x + 13) = some (ai_ G 36 f_2) := h_3
  refine z_aload_n B dX12_readData_0 rfl 0 rfl ?_
  refine z_iload_n B dX12_readData_1 rfl 1 rfl ?_
  obtain ⟨n_1, v_1, n_2, h_5, b_13, b_1, b_2, b_3, b_4, b_5, b_6, b_7, b_8, b_9, b_10, b_11, b_12⟩ := im0 hI
  replace b_1 : 1 ≤ rt := b_1
  replace b_2 : rt ≤ 1024 := b_2
  replace b_3 : fl ≤ 12 := b_3
  replace b_4 : pe ≤ 24 := b_4
  replace b_5 : le ≤ 700 := b_5
  replace b_6 : qu ≤ 12 := b_6
  replace b_7 : n_1 ≤ 8 := b_7
  replace b_8 : n_2 ≤ 24 := b_8
  replace b_9 : tk ≤ 24 := b_9
  replace b_10 : il ≤ 700 := b_10
  replace b_11 : nx ≤ 701 := b_11
  replace b_12 : st ≤ 701 := b_12
  have h_6 : Φ x = some (o_ 14 [.int th, .ref (x + 1), .ref (x + 2), .int ti, .int ra, .int (nI rt), .int ex, .int ad, .ref (x + 3), .ref (x + 4), .int me, .long se, .ref (x + 5), .int (nI fl), .int dr, .long ob, .long sa, .long sn, .long us, .ref (x + 6), .ref (x + 7), .int (nI pe), .ref (x + 8), .int (nI le), .ref (x + 9), .ref (x + 10), .int (nI qu), .ref (x + 11), .ref (x + 12), .ref (x + 13), .ref (x + 14), .ref (x + 15), .ref (x + 16), .int (nI n_1), .long v_1, .ref (x + 17), .ref (x + 18), .ref (x + 19), .ref (x + 20), .ref (x + 21), .ref (x + 22), .int (nI n_2), .ref (x + 23), .ref (x + 24), .int (nI tk), .ref (x + 25), .int (nI il), .int (nI nx), .int ec, .int ep, .int kn, .int (nI st), .int nu, .long va]) := h_5
  refine z_callV (As := [.int (nI t)]) (rest := []) B (r_isKnownE G l Φ sz x rd nw cr tp tt sI sT pt ql fl pe le nx il qu kn ec nu va st ep ti ad ob ra rt ex sa us tk th me dr se sn f_1 t hx hI h_2 (show t < 4 by omega) r_1 hnw) (cwV 1 B.1.2.2.2.2 gX12_readData_X12_isKnown rfl rfl rfl (by decide +kernel) ⟨Nat.le_of_ble_eq_true rfl, Nat.le_of_ble_eq_true rfl⟩) h_6 rfl rfl rfl rfl (Nat.le_of_ble_eq_true rfl) dX12_readData_2 ⟨Nat.le_of_ble_eq_true rfl, Nat.le_of_ble_eq_true rfl⟩ (fun r_3 Φ1 sz1 st1 hp1 hs1 => ?_)
  obtain ⟨ha1, hq1, hI1, hF1⟩ := hp1
  subst sz1
  replace hI1 : Im G x (rd, nw, cr, tp, tt, sI, sT, pt, ql, fl, pe, le, nx, il, qu, kn, ec, nu, va, st, ep, ti, ad, ob, ra, rt, ex, sa, us, tk, th, me, dr, se, sn) Φ1 := hI1
  rcases ha1 with rfl | ⟨rfl, n_3, b_14, b_15, b_16⟩
  · replace hs1 : st1 = [.int 0] := hs1
    subst st1
    refine z_if_ne (tgt := 20) B dX12_readData_5 rfl (fun h9 => absurd (by decide) h9) (fun c_1 => ?_)
    refine z_aload_n B dX12_readData_8 rfl 0 rfl ?_
    have h_7 : Φ1 x = some (o_ 14 [.int th, .ref (x + 1), .ref (x + 2), .int ti, .int ra, .int (nI rt), .int ex, .int ad, .ref (x + 3), .ref (x + 4), .int me, .long se, .ref (x + 5), .int (nI fl), .int dr, .long ob, .long sa, .long sn, .long us, .ref (x + 6), .ref (x + 7), .int (nI pe), .ref (x + 8), .int (nI le), .ref (x + 9), .ref (x + 10), .int (nI qu), .ref (x + 11), .ref (x + 12), .ref (x + 13), .ref (x + 14), .ref (x + 15), .ref (x + 16), .int (nI n_1), .long v_1, .ref (x + 17), .ref (x + 18), .ref (x + 19), .ref (x + 20), .ref (x + 21), .ref (x + 22), .int (nI n_2), .ref (x + 23), .ref (x + 24), .int (nI tk), .ref (x + 25), .int (nI il), .int (nI nx), .int ec, .int ep, .int kn, .int (nI st), .int nu, .long va]) := ((hF1 x (fun j9 h8 h7 => (show False from h7).elim)).trans h_6)
    refine z_get (ref := "FlowExporterModel") (C := RX12) (T := TX12) (N := 54) (ci := 14) (v := .ref (x + 11)) B hu_X12_readData_X12 rfl 27 (Nat.le_of_ble_eq_true rfl) hv_X12_readData_45 rfl h_7 rfl dX12_readData_9 ?_
    refine z_iconst (v := 3) B dX12_readData_12 rfl ?_
    refine z_dup2_11 B dX12_readData_13 rfl rfl ?_
    obtain ⟨f_3, h_8⟩ := imk (k := 11) hI1
    have h_9 : Φ1 (x + 11) = some (al_ G 9 f_3) := h_8
    refine z_lald B h_9 (vin rfl) dX12_readData_14 ?_
    refine z_fl (fun v_2 => ?_)
    refine z_lconst (v := 1) B dX12_readData_15 rfl ?_
    refine z_ladd B dX12_readData_16 ?_
    refine z_fl (fun v_3 => ?_)
    refine z_last B h_9 (Nat.le_trans hx (Nat.le_add_right x 11)) (vin rfl) dX12_readData_17 (fun Φ2 hΦ1 => ?_)
    have h_10 : Φ2 (x + 11) = some (al_ G 9 (vp_updL f_3 (3 : Int32).toNatClampNeg v_3)) := fset_at hΦ1
    have hI2 : Im G x (rd, nw, cr, tp, tt, sI, sT, pt, ql, fl, pe, le, nx, il, qu, kn, ec, nu, va, st, ep, ti, ad, ob, ra, rt, ex, sa, us, tk, th, me, dr, se, sn) Φ2 := Im.put (k := 11) hI1 hΦ1 ⟨_, rfl⟩
    refine z_iconst (v := 0) B dX12_readData_18 rfl ?_
    exact zd_end hd9 (z_ret_i B dX12_readData_19 ⟨⟨_, rfl⟩, rfl, hI2, (fun b9 h9 => ((fset_fr hΦ1 (fun h8 => h9 (11) h8 (show 11 = 0 ∨ 11 = 11 ∨ 11 = 18 ∨ 11 = 19 ∨ 11 = 20 ∨ 11 = 21 ∨ 11 = 22 by decide))).trans ((hF1 b9 (fun j9 h8 h7 => (show False from h7).elim)).trans rfl)))⟩)
  · replace hs1 : st1 = [.int 1] := hs1
    subst st1
    replace b_14 : 1 ≤ n_3 := b_14
    replace b_15 : n_3 ≤ 9 := b_15
    replace b_16 : f_1 t = nI n_3 := b_16
    refine z_if_ne (tgt := 20) B dX12_readData_5 rfl (fun c_2 => ?_) (fun h9 => absurd h9 (by decide))
    refine z_iconst (v := 0) B dX12_readData_20 rfl ?_
    refine z_istore (lv' := [(4, .int 0), (0, .ref x), (1, .int (nI t)), (2, .int (nI f)), (3, .int (nI g))]) B dX12_readData_21 (Nat.le_of_ble_eq_true rfl) rfl ?_
    refine z_iconst (v := 0) B dX12_readData_23 rfl ?_
    refine z_istore (lv' := [(5, .int 0), (4, .int 0), (0, .ref x), (1, .int (nI t)), (2, .int (nI f)), (3, .int (nI g))]) B dX12_readData_24 (Nat.le_of_ble_eq_true rfl) rfl ?_
    refine z_lv [0, 1, 2, 3, 4, 5] rfl ?_
    refine z_loopD (s0 := s9) (α := Nat × Nat) (fun (a9 : Nat × Nat) Φi => Im G x (rd, nw, cr, tp, tt, sI, sT, pt, ql, fl, pe, le, nx, il, qu, kn, ec, nu, va, st, ep, ti, ad, ob, ra, rt, ex, sa, us, tk, th, me, dr, se, sn) Φi ∧ Fr x (fun j9 => False) Φ1 Φi ∧ (a9.1 ≤ n_3) ∧ (a9.2 = lsm f_2 (9 * t) a9.1) ∧ True) (fun a9 => [(5, .int (nI (a9.1))), (4, .int (nI (a9.2))), (0, .ref x), (1, .int (nI t)), (2, .int (nI f)), (3, .int (nI g))]) (fun a9 => n_3 - a9.1) ?_ hd9 (0, 0) ⟨hI1, fun _ _ => rfl, (show 0 ≤ n_3 by omega), (show 0 = lsm f_2 (9 * t) 0 from rfl), trivial⟩
    intro d_1 hdr1
    have B : Bd p9 (s9.setDrawn d_1) m9 _ t9 k9 G _ _ _ _ _ _ := Bd.drawn B d_1
    rintro ⟨i_1, i_2⟩ Φl1 ⟨hI3, hF2, b_17, b_18, -⟩ ih1
    replace hI3 : Im G x (rd, nw, cr, tp, tt, sI, sT, pt, ql, fl, pe, le, nx, il, qu, kn, ec, nu, va, st, ep, ti, ad, ob, ra, rt, ex, sa, us, tk, th, me, dr, se, sn) Φl1 := hI3
    replace b_17 : i_1 ≤ n_3 := b_17
    replace b_18 : i_2 = lsm f_2 (9 * t) i_1 := b_18
    show Z p9 l e9 _ (s9.setDrawn d_1) m9 _ w9 t9 k9 _ G 7 26 [(5, .int (nI i_1)), (4, .int (nI i_2)), (0, .ref x), (1, .int (nI t)), (2, .int (nI f)), (3, .int (nI g))] [] Φl1 _ _ _
    refine z_iload B dX12_readData_26 0 rfl ?_
    refine z_aload_n B dX12_readData_28 rfl 2 rfl ?_
    have h_11 : Φl1 x = some (o_ 14 [.int th, .ref (x + 1), .ref (x + 2), .int ti, .int ra, .int (nI rt), .int ex, .int ad, .ref (x + 3), .ref (x + 4), .int me, .long se, .ref (x + 5), .int (nI fl), .int dr, .long ob, .long sa, .long sn, .long us, .ref (x + 6), .ref (x + 7), .int (nI pe), .ref (x + 8), .int (nI le), .ref (x + 9), .ref (x + 10), .int (nI qu), .ref (x + 11), .ref (x + 12), .ref (x + 13), .ref (x + 14), .ref (x + 15), .ref (x + 16), .int (nI n_1), .long v_1, .ref (x + 17), .ref (x + 18), .ref (x + 19), .ref (x + 20), .ref (x + 21), .ref (x + 22), .int (nI n_2), .ref (x + 23), .ref (x + 24), .int (nI tk), .ref (x + 25), .int (nI il), .int (nI nx), .int ec, .int ep, .int kn, .int (nI st), .int nu, .long va]) := ((hF2 x (fun j9 h8 h7 => (show False from h7).elim)).trans ((hF1 x (fun j9 h8 h7 => (show False from h7).elim)).trans h_6))
    refine z_get (ref := "FlowExporterModel") (C := RX12) (T := TX12) (N := 54) (ci := 14) (v := .ref (x + 12)) B hu_X12_readData_X12 rfl 28 (Nat.le_of_ble_eq_true rfl) hv_X12_readData_48 rfl h_11 rfl dX12_readData_29 ?_
    refine z_iload_n B dX12_readData_32 rfl 3 rfl ?_
    have h_12 : Φl1 (x + 12) = some (ai_ G 4 f_1) := ((hF2 (x + 12) (fun j9 h8 h7 => (show False from h7).elim)).trans ((hF1 (x + 12) (fun j9 h8 h7 => (show False from h7).elim)).trans h_2))
    refine z_iald B h_12 (vp_in_nI (by omega) (by omega)) dX12_readData_33 ?_
    refine z_top (st1 := [.int (nI n_3), .int (nI i_1)]) (congrArg (fun w9 : Int32 => ([.int w9, .int (nI i_1)] : List Value)) ((congrArg f_1 (nI_clamp (by omega))).trans b_16)) ?_
    refine z_icmp_ge (tgt := 63) B dX12_readData_34 rfl (fun c_3 => ?_) (fun c_3 => ?_)
    · have e_1 : n_3 ≤ i_1 := (nI_leI (a := n_3) (b := i_1) (by omega) (by omega)).mp c_3
      have b_19 := lsm_ge (f := f_2) (b := 9 * t) n_3
      have b_20 := lsm_le8 (f := f_2) (b := 9 * t) n_3
      have e_2 : i_1 = n_3 := by omega
      subst i_1
      refine z_iconst (v := 0) B dX12_readData_63 rfl ?_
      refine z_istore (lv' := [(5, .int 0), (4, .int (nI i_2)), (0, .ref x), (1, .int (nI t)), (2, .int (nI f)), (3, .int (nI g))]) B dX12_readData_64 (Nat.le_of_ble_eq_true rfl) rfl ?_
      refine z_iload_n B dX12_readData_66 rfl 4 rfl ?_
      refine z_istore (lv' := [(6, .int (nI f)), (5, .int 0), (4, .int (nI i_2)), (0, .ref x), (1, .int (nI t)), (2, .int (nI f)), (3, .int (nI g))]) B dX12_readData_67 (Nat.le_of_ble_eq_true rfl) rfl ?_
      refine z_lv [0, 1, 2, 3, 4, 5, 6] rfl ?_
      refine z_loopD (s0 := s9) (α := Nat × Int32) (fun (a9 : Nat × Int32) Φi => Im G x (rd, nw, cr, tp, tt, sI, sT, pt, ql, fl, pe, le, nx, il, qu, kn, ec, nu, va, st, ep, ti, ad, ob, ra, rt, ex, sa, us, tk, th, me, dr, se, sn) Φi ∧ Fr x (fun j9 => j9 = 0 ∨ j9 = 11 ∨ j9 = 18 ∨ j9 = 19 ∨ j9 = 20 ∨ j9 = 21 ∨ j9 = 22) Φl1 Φi ∧ (a9.1 ≤ g) ∧ True) (fun a9 => [(6, .int (nI (a9.1))), (5, .int a9.2), (4, .int (nI i_2)), (0, .ref x), (1, .int (nI t)), (2, .int (nI f)), (3, .int (nI g))]) (fun a9 => g - a9.1) ?_ hdr1 (f, 0) ⟨hI3, fun _ _ => rfl, (show f ≤ g by omega), trivial⟩
      intro d_2 hdr3
      have B : Bd p9 (s9.setDrawn d_2) m9 _ t9 k9 G _ _ _ _ _ _ := Bd.drawn B d_2
      rintro ⟨i_3, i_4⟩ Φl2 ⟨hI4, hF3, b_21, -⟩ ih2
      replace hI4 : Im G x (rd, nw, cr, tp, tt, sI, sT, pt, ql, fl, pe, le, nx, il, qu, kn, ec, nu, va, st, ep, ti, ad, ob, ra, rt, ex, sa, us, tk, th, me, dr, se, sn) Φl2 := hI4
      replace b_21 : i_3 ≤ g := b_21
      show Z p9 l e9 _ (s9.setDrawn d_2) m9 _ w9 t9 k9 _ G 7 69 [(6, .int (nI i_3)), (5, .int i_4), (4, .int (nI i_2)), (0, .ref x), (1, .int (nI t)), (2, .int (nI f)), (3, .int (nI g))] [] Φl2 _ _ _
      refine z_iload_n B dX12_readData_69 rfl 6 rfl ?_
      refine z_iload B dX12_readData_70 0 rfl ?_
      refine z_isub B dX12_readData_72 ?_
      refine z_top (st1 := [.int (nI (g - i_3))]) (congrArg (fun w9 : Int32 => ([.int w9] : List Value)) (nI_sub (show i_3 ≤ g by omega))) ?_
      refine z_iload B dX12_readData_73 2 rfl ?_
      refine z_icmp_lt (tgt := 98) B dX12_readData_75 rfl (fun c_4 => ?_) (fun c_4 => ?_)
      · have e_3 : g - i_3 < i_2 := (nI_ltI (a := g - i_3) (b := i_2) (by omega) (by omega)).mp c_4
        refine z_iload B dX12_readData_98 1 rfl ?_
        exact zd_end hdr3 (z_ret_i B dX12_readData_100 ⟨⟨_, rfl⟩, rfl, hI4, (fun b9 h9 => ((hF3 b9 h9).trans ((hF2 b9 (fun j9 h8 h7 => (show False from h7).elim)).trans ((hF1 b9 (fun j9 h8 h7 => (show False from h7).elim)).trans rfl))))⟩)
      · have e_4 : ¬ (g - i_3 < i_2) := fun h9 => c_4 ((nI_ltI (a := g - i_3) (b := i_2) (by omega) (by omega)).mpr h9)
        refine z_aload_n B dX12_readData_78 rfl 3 rfl ?_
        refine z_iload_n B dX12_readData_79 rfl 4 rfl ?_
        refine z_iload B dX12_readData_80 0 rfl ?_
        obtain ⟨n_4, v_4, n_5, h_13, b_34, b_22, b_23, b_24, b_25, b_26, b_27, b_28, b_29, b_30, b_31, b_32, b_33⟩ := im0 hI4
        replace b_22 : 1 ≤ rt := b_22
        replace b_23 : rt ≤ 1024 := b_23
        replace b_24 : fl ≤ 12 := b_24
        replace b_25 : pe ≤ 24 := b_25
        replace b_26 : le ≤ 700 := b_26
        replace b_27 : qu ≤ 12 := b_27
        replace b_28 : n_4 ≤ 8 := b_28
        replace b_29 : n_5 ≤ 24 := b_29
        replace b_30 : tk ≤ 24 := b_30
        replace b_31 : il ≤ 700 := b_31
        replace b_32 : nx ≤ 701 := b_32
        replace b_33 : st ≤ 701 := b_33
        have h_14 : Φl2 x = some (o_ 14 [.int th, .ref (x + 1), .ref (x + 2), .int ti, .int ra, .int (nI rt), .int ex, .int ad, .ref (x + 3), .ref (x + 4), .int me, .long se, .ref (x + 5), .int (nI fl), .int dr, .long ob, .long sa, .long sn, .long us, .ref (x + 6), .ref (x + 7), .int (nI pe), .ref (x + 8), .int (nI le), .ref (x + 9), .ref (x + 10), .int (nI qu), .ref (x + 11), .ref (x + 12), .ref (x + 13), .ref (x + 14), .ref (x + 15), .ref (x + 16), .int (nI n_4), .long v_4, .ref (x + 17), .ref (x + 18), .ref (x + 19), .ref (x + 20), .ref (x + 21), .ref (x + 22), .int (nI n_5), .ref (x + 23), .ref (x + 24), .int (nI tk), .ref (x + 25), .int (nI il), .int (nI nx), .int ec, .int ep, .int kn, .int (nI st), .int nu, .long va]) := h_13
        have h_15 : Φl2 (x + 12) = some (ai_ G 4 f_1) := ((hF3 (x + 12) fq_1296).trans h_12)
        have h_16 : Φl2 (x + 13) = some (ai_ G 36 f_2) := ((hF3 (x + 13) fq_1297).trans ((hF2 (x + 13) (fun j9 h8 h7 => (show False from h7).elim)).trans ((hF1 (x + 13) (fun j9 h8 h7 => (show False from h7).elim)).trans h_4)))
        refine zd_callV (As := [.int (nI t), .int (nI i_3)]) (rest := []) B (r_decode G l Φl2 sz x rd nw cr tp tt sI sT pt ql fl pe le nx il qu kn ec nu va st ep ti ad ob ra rt ex sa us tk th me dr se sn f_1 f_2 n_3 t i_3 hx hI4 h_15 h_16 (show t < 4 by omega) r_2 b_16 (show n_3 ≤ 9 by omega) (show i_3 + lsm f_2 (9 * t) n_3 ≤ 700 by omega) hnw) (cwV 2 B.1.2.2.2.2 gX12_readData_X12_decode rfl rfl rfl (by decide +kernel) ⟨Nat.le_of_ble_eq_true rfl, Nat.le_of_ble_eq_true rfl⟩) h_14 rfl rfl rfl rfl (Nat.le_of_ble_eq_true rfl) dX12_readData_82 ⟨Nat.le_of_ble_eq_true rfl, Nat.le_of_ble_eq_true rfl⟩ (fun d_3 hdr5 r_5 Φ3 sz2 st2 hp2 hs2 => ?_)
        have hdr6 := Drawn.sameBut.trans hdr3 hdr5
        have B : Bd p9 (s9.setDrawn d_3) m9 _ t9 k9 G _ _ _ _ _ _ := Bd.drawn B d_3
        show Z p9 l e9 _ (s9.setDrawn d_3) m9 _ w9 t9 k9 _ G _ _ _ _ _ _ _ _
        obtain ⟨rfl, hq2, hI5, hF4⟩ := hp2
        subst sz2
        replace hs2 : st2 = [] := hs2
        subst st2
        replace hI5 : Im G x (rd, nw, cr, tp, tt, sI, sT, pt, ql, fl, pe, le, nx, il, qu, kn, ec, nu, va, st, ep, ti, ad, ob, ra, rt, ex, sa, us, tk, th, me, dr, se, sn) Φ3 := hI5
        refine z_iinc (k := 1) (v := i_4 + 1) (lv' := [(5, .int (i_4 + 1)), (6, .int (nI i_3)), (4, .int (nI i_2)), (0, .ref x), (1, .int (nI t)), (2, .int (nI f)), (3, .int (nI g))]) B dX12_readData_85 rfl rfl (Nat.le_of_ble_eq_true rfl) rfl ?_
        refine z_iload B dX12_readData_88 1 rfl ?_
        refine z_iload B dX12_readData_90 2 rfl ?_
        refine z_iadd B dX12_readData_92 ?_
        refine z_top (st1 := [.int (nI (i_3 + i_2))]) (congrArg (fun w9 : Int32 => ([.int w9] : List Value)) (nI_add i_3 i_2)) ?_
        refine z_istore (lv' := [(6, .int (nI (i_3 + i_2))), (5, .int (i_4 + 1)), (4, .int (nI i_2)), (0, .ref x), (1, .int (nI t)), (2, .int (nI f)), (3, .int (nI g))]) B dX12_readData_93 (Nat.le_of_ble_eq_true rfl) rfl ?_
        refine z_goto (tgt := 69) B dX12_readData_95 rfl ?_
        refine z_lv [0, 1, 2, 3, 4, 5, 6] rfl ?_
        exact ih2 d_3 hdr6 (i_3 + i_2, i_4 + 1) Φ3 (show g - (i_3 + i_2) < g - i_3 by omega) ⟨hI5, (fun b9 h9 => ((hF4 b9 h9).trans ((hF3 b9 h9).trans rfl))), (show (i_3 + i_2) ≤ g by omega), trivial⟩
    · have e_5 : ¬ (n_3 ≤ i_1) := fun h9 => c_3 ((nI_leI (a := n_3) (b := i_1) (by omega) (by omega)).mpr h9)
      refine z_iload B dX12_readData_37 1 rfl ?_
      refine z_aload_n B dX12_readData_39 rfl 2 rfl ?_
      refine z_get (ref := "FlowExporterModel") (C := RX12) (T := TX12) (N := 54) (ci := 14) (v := .ref (x + 13)) B hu_X12_readData_X12 rfl 29 (Nat.le_of_ble_eq_true rfl) hv_X12_readData_51 rfl h_11 rfl dX12_readData_40 ?_
      refine z_bipush (v := 9) B dX12_readData_43 rfl ?_
      refine z_iload_n B dX12_readData_45 rfl 3 rfl ?_
      refine z_imul B dX12_readData_46 ?_
      refine z_top (st1 := [.int (nI (9 * t)), .ref (x + 13), .int (nI i_2)]) (congrArg (fun w9 : Int32 => ([.int w9, .ref (x + 13), .int (nI i_2)] : List Value)) (nI_mul 9 t)) ?_
      refine z_iload B dX12_readData_47 0 rfl ?_
      refine z_iadd B dX12_readData_49 ?_
      refine z_top (st1 := [.int (nI (9 * t + i_1)), .ref (x + 13), .int (nI i_2)]) (congrArg (fun w9 : Int32 => ([.int w9, .ref (x + 13), .int (nI i_2)] : List Value)) (nI_add (9 * t) i_1)) ?_
      have h_17 : Φl1 (x + 13) = some (ai_ G 36 f_2) := ((hF2 (x + 13) (fun j9 h8 h7 => (show False from h7).elim)).trans ((hF1 (x + 13) (fun j9 h8 h7 => (show False from h7).elim)).trans h_4))
      refine z_iald B h_17 (vp_in_nI (by omega) (by omega)) dX12_readData_50 ?_
      obtain ⟨n_6, b_35, e_6⟩ := r_2 (9 * t + i_1)
      refine z_top (st1 := [.int (nI n_6), .int (nI i_2)]) (congrArg (fun w9 : Int32 => ([.int w9, .int (nI i_2)] : List Value)) ((congrArg f_2 (nI_clamp (by omega))).trans e_6)) ?_
      have e_7 := lsm_s (f := f_2) (b := 9 * t) (q := i_1) (n := n_6) e_6 (by omega)
      have b_36 := lsm_mono (f := f_2) (b := 9 * t) (show i_1 + 1 ≤ n_3 by omega)
      refine z_callS (As := [.int (nI n_6)]) (rest := [.int (nI i_2)]) B (r_lengthOf G l Φl1 sz x rd nw cr tp tt sI sT pt ql fl pe le nx il qu kn ec nu va st ep ti ad ob ra rt ex sa us tk th me dr se sn n_6 hx hI3 (show n_6 < 2 ^ 31 by omega) hnw) (va_cwS 1 B.1.2.2.2.2 gX12_readData_X12_lengthOf rfl rfl rfl (by decide +kernel) ⟨Nat.le_of_ble_eq_true rfl, Nat.le_of_ble_eq_true rfl⟩) rfl rfl (Nat.le_of_ble_eq_true rfl) dX12_readData_51 ⟨Nat.le_of_ble_eq_true rfl, Nat.le_of_ble_eq_true rfl⟩ (fun r_6 Φ4 sz3 st3 hp3 hs3 => ?_)
      obtain ⟨rfl, hq3, hI6, hF5⟩ := hp3
      subst sz3
      replace hs3 : st3 = [.int (nI (lnN n_6)), .int (nI i_2)] := hs3
      subst st3
      have b_37 := lnN_pos n_6
      have b_38 := lnN_le n_6
      replace hI6 : Im G x (rd, nw, cr, tp, tt, sI, sT, pt, ql, fl, pe, le, nx, il, qu, kn, ec, nu, va, st, ep, ti, ad, ob, ra, rt, ex, sa, us, tk, th, me, dr, se, sn) Φ4 := hI6
      refine z_iadd B dX12_readData_54 ?_
      refine z_top (st1 := [.int (nI (i_2 + lnN n_6))]) (congrArg (fun w9 : Int32 => ([.int w9] : List Value)) (nI_add i_2 (lnN n_6))) ?_
      refine z_istore (lv' := [(4, .int (nI (i_2 + lnN n_6))), (5, .int (nI i_1)), (0, .ref x), (1, .int (nI t)), (2, .int (nI f)), (3, .int (nI g))]) B dX12_readData_55 (Nat.le_of_ble_eq_true rfl) rfl ?_
      refine z_iinc (k := 1) (v := nI (i_1 + 1)) (lv' := [(5, .int (nI (i_1 + 1))), (4, .int (nI (i_2 + lnN n_6))), (0, .ref x), (1, .int (nI t)), (2, .int (nI f)), (3, .int (nI g))]) B dX12_readData_57 rfl (nI_add i_1 1) (Nat.le_of_ble_eq_true rfl) rfl ?_
      refine z_goto (tgt := 26) B dX12_readData_60 rfl ?_
      refine z_lv [0, 1, 2, 3, 4, 5] rfl ?_
      exact ih1 d_1 hdr1 (i_1 + 1, i_2 + lnN n_6) Φ4 (show n_3 - (i_1 + 1) < n_3 - i_1 by omega) ⟨hI6, (fun b9 h9 => ((hF5 b9 (fun j9 h8 h7 => (show False from h7).elim)).trans ((hF2 b9 (fun j9 h8 h7 => (show False from h7).elim)).trans rfl))), (show (i_1 + 1) ≤ n_3 by omega), (show (i_2 + lnN n_6) = lsm f_2 (9 * t) (i_1 + 1) by omega), trivial⟩

theorem hu_X12_readSets_X12 : ∀ w ∈ u_ws RX12 TX12 54, w ∈ wsX12_readSets := fun _ h => List.mem_cons_of_mem _ (List.mem_append_left _ (List.mem_append_right _ (h)))

theorem hv_X12_readSets_280 : Cond.fieldLink RX12 280 "FlowExporterModel" (TX12 23).2.1 (TX12 23).2.2.1 ∈ wsX12_readSets := List.mem_cons_of_mem _ (List.mem_append_left _ (List.mem_append_left _ (List.mem_append_left _ (List.mem_of_getElem? (i := 0) rfl))))

theorem hv_X12_readSets_45 : Cond.fieldLink RX12 45 "FlowExporterModel" (TX12 27).2.1 (TX12 27).2.2.1 ∈ wsX12_readSets := List.mem_cons_of_mem _ (List.mem_append_left _ (List.mem_append_left _ (List.mem_append_left _ (List.mem_of_getElem? (i := 1) rfl))))

theorem fq_1302 : ∀ j9 : Nat, (j9 = 0 ∨ j9 = 11 ∨ j9 = 18 ∨ j9 = 19 ∨ j9 = 20 ∨ j9 = 21 ∨ j9 = 22) → (j9 = 0 ∨ j9 = 11 ∨ j9 = 12 ∨ j9 = 13 ∨ j9 = 14 ∨ j9 = 17 ∨ j9 = 18 ∨ j9 = 19 ∨ j9 = 20 ∨ j9 = 21 ∨ j9 = 22) := by
  intro j9 h
  omega

theorem fq_1303 {x : Nat} : ∀ j9 : Nat, x = x + j9 → (j9 = 12 ∨ j9 = 13 ∨ j9 = 14 ∨ j9 = 17) → False := by
  intro j9 h1 h2
  omega

theorem fq_1304 : ∀ j9 : Nat, (j9 = 12 ∨ j9 = 13 ∨ j9 = 14 ∨ j9 = 17) → (j9 = 0 ∨ j9 = 11 ∨ j9 = 12 ∨ j9 = 13 ∨ j9 = 14 ∨ j9 = 17 ∨ j9 = 18 ∨ j9 = 19 ∨ j9 = 20 ∨ j9 = 21 ∨ j9 = 22) := by
  intro j9 h
  omega

set_option maxHeartbeats 4000000 in
set_option maxRecDepth 100000 in
theorem r_readSets (G : EnvG) (l : Launch) (Φ : Hm) (sz x : Nat) (rd : (Nat → Int32) → Prop) (nw : (Nat → Int32) → Prop) (cr : (Nat → Int64) → Prop) (tp : (Nat → Int32) → Prop) (tt : (Nat → Int64) → Prop) (sI : (Nat → Int32) → Prop) (sT : (Nat → Int32) → Prop) (pt : (Nat → Int32) → Prop) (ql : (Nat → Int32) → Prop) (fl : Nat) (pe : Nat) (le : Nat) (nx : Nat) (il : Nat) (qu : Nat) (kn : Int32) (ec : Int32) (nu : Int32) (va : Int64) (st : Nat) (ep : Int32) (ti : Int32) (ad : Int32) (ob : Int64) (ra : Int32) (rt : Nat) (ex : Int32) (sa : Int64) (us : Int64) (tk : Nat) (th : Int32) (me : Int32) (dr : Int32) (se : Int64) (sn : Int64)  (hx : G.2.2.2 ≤ x) (hI : Im G x (rd, nw, cr, tp, tt, sI, sT, pt, ql, fl, pe, le, nx, il, qu, kn, ec, nu, va, st, ep, ti, ad, ob, ra, rt, ex, sa, us, tk, th, me, dr, se, sn) Φ) (hl : 16 ≤ le) (hnw : ∀ f9 : Nat → Int32, nw f9 → NN f9) : CtD G l yX12_readSets wsX12_readSets ({ frames := 5, cells := 0, slots := 0, locals := 136 }) 0 0 [.ref x] Φ sz (fun v Φ1 sz1 => (∃ r9 : Int32, v = some (.int r9)) ∧ sz1 = sz ∧ (Im G x (rd, nw, cr, tp, tt, sI, sT, pt, ql, fl, pe, le, nx, il, qu, kn, ec, nu, va, st, ep, ti, ad, ob, ra, rt, ex, sa, us, tk, th, me, dr, se, sn) Φ1) ∧ Fr x (fun j9 => j9 = 0 ∨ j9 = 11 ∨ j9 = 12 ∨ j9 = 13 ∨ j9 = 14 ∨ j9 = 17 ∨ j9 = 18 ∨ j9 = 19 ∨ j9 = 20 ∨ j9 = 21 ∨ j9 = 22) Φ Φ1) := by
  refine CtD.of (cc := cX12_readSets) (maxL := 5) (ret := (some .int)) (by decide) rfl (Nat.le_of_ble_eq_true rfl) ?_
  intro p9 e9 s9 m9 w9 t9 k9 d9 hd9 B
  show Z p9 l e9 _ (s9.setDrawn d9) m9 _ w9 t9 k9 _ G 5 0 [(0, .ref x)] [] Φ sz 0 0
  refine z_bipush (v := 16) B dX12_readSets_0 rfl ?_
  refine z_istore_n (lv' := [(1, .int 16), (0, .ref x)]) B dX12_readSets_2 rfl (Nat.le_of_ble_eq_true rfl) rfl ?_
  refine z_iconst (v := 0) B dX12_readSets_3 rfl ?_
  refine z_istore_n (lv' := [(2, .int 0), (1, .int 16), (0, .ref x)]) B dX12_readSets_4 rfl (Nat.le_of_ble_eq_true rfl) rfl ?_
  refine z_lv [0, 1, 2] rfl ?_
  refine z_loopD (s0 := s9) (α := Int32 × Nat) (fun (a9 : Int32 × Nat) Φi => Im G x (rd, nw, cr, tp, tt, sI, sT, pt, ql, fl, pe, le, nx, il, qu, kn, ec, nu, va, st, ep, ti, ad, ob, ra, rt, ex, sa, us, tk, th, me, dr, se, sn) Φi ∧ Fr x (fun j9 => j9 = 0 ∨ j9 = 11 ∨ j9 = 12 ∨ j9 = 13 ∨ j9 = 14 ∨ j9 = 17 ∨ j9 = 18 ∨ j9 = 19 ∨ j9 = 20 ∨ j9 = 21 ∨ j9 = 22) Φ Φi ∧ (a9.2 ≤ le) ∧ True) (fun a9 => [(2, .int a9.1), (1, .int (nI (a9.2))), (0, .ref x)]) (fun a9 => 701 - a9.2) ?_ hd9 (0, 16) ⟨hI, fun _ _ => rfl, (show 16 ≤ le by omega), trivial⟩
  intro d_1 hdr1
  have B : Bd p9 (s9.setDrawn d_1) m9 _ t9 k9 G _ _ _ _ _ _ := Bd.drawn B d_1
  rintro ⟨i_1, i_2⟩ Φl1 ⟨hI1, hF1, b_1, -⟩ ih1
  replace hI1 : Im G x (rd, nw, cr, tp, tt, sI, sT, pt, ql, fl, pe, le, nx, il, qu, kn, ec, nu, va, st, ep, ti, ad, ob, ra, rt, ex, sa, us, tk, th, me, dr, se, sn) Φl1 := hI1
  replace b_1 : i_2 ≤ le := b_1
  show Z p9 l e9 _ (s9.setDrawn d_1) m9 _ w9 t9 k9 _ G 5 5 [(2, .int i_1), (1, .int (nI i_2)), (0, .ref x)] [] Φl1 _ _ _
  refine z_aload_n B dX12_readSets_5 rfl 2 rfl ?_
  obtain ⟨n_1, v_1, n_2, h_1, b_14, b_2, b_3, b_4, b_5, b_6, b_7, b_8, b_9, b_10, b_11, b_12, b_13⟩ := im0 hI1
  replace b_2 : 1 ≤ rt := b_2
  replace b_3 : rt ≤ 1024 := b_3
  replace b_4 : fl ≤ 12 := b_4
  replace b_5 : pe ≤ 24 := b_5
  replace b_6 : le ≤ 700 := b_6
  replace b_7 : qu ≤ 12 := b_7
  replace b_8 : n_1 ≤ 8 := b_8
  replace b_9 : n_2 ≤ 24 := b_9
  replace b_10 : tk ≤ 24 := b_10
  replace b_11 : il ≤ 700 := b_11
  replace b_12 : nx ≤ 701 := b_12
  replace b_13 : st ≤ 701 := b_13
  have h_2 : Φl1 x = some (o_ 14 [.int th, .ref (x + 1), .ref (x + 2), .int ti, .int ra, .int (nI rt), .int ex, .int ad, .ref (x + 3), .ref (x + 4), .int me, .long se, .ref (x + 5), .int (nI fl), .int dr, .long ob, .long sa, .long sn, .long us, .ref (x + 6), .ref (x + 7), .int (nI pe), .ref (x + 8), .int (nI le), .ref (x + 9), .ref (x + 10), .int (nI qu), .ref (x + 11), .ref (x + 12), .ref (x + 13), .ref (x + 14), .ref (x + 15), .ref (x + 16), .int (nI n_1), .long v_1, .ref (x + 17), .ref (x + 18), .ref (x + 19), .ref (x + 20), .ref (x + 21), .ref (x + 22), .int (nI n_2), .ref (x + 23), .ref (x + 24), .int (nI tk), .ref (x + 25), .int (nI il), .int (nI nx), .int ec, .int ep, .int kn, .int (nI st), .int nu, .long va]) := h_1
  refine z_get (ref := "FlowExporterModel") (C := RX12) (T := TX12) (N := 54) (ci := 14) (v := .int (nI le)) B hu_X12_readSets_X12 rfl 23 (Nat.le_of_ble_eq_true rfl) hv_X12_readSets_280 rfl h_2 rfl dX12_readSets_6 ?_
  refine z_iload_n B dX12_readSets_9 rfl 1 rfl ?_
  refine z_isub B dX12_readSets_10 ?_
  refine z_top (st1 := [.int (nI (le - i_2))]) (congrArg (fun w9 : Int32 => ([.int w9] : List Value)) (nI_sub (show i_2 ≤ le by omega))) ?_
  refine z_iconst (v := 4) B dX12_readSets_11 rfl ?_
  refine z_icmp_lt (tgt := 120) B dX12_readSets_12 rfl (fun c_1 => ?_) (fun c_1 => ?_)
  · have e_1 : le - i_2 < 4 := (nI_ltI (a := le - i_2) (b := 4) (by omega) (by omega)).mp c_1
    refine z_iload_n B dX12_readSets_120 rfl 1 rfl ?_
    refine z_aload_n B dX12_readSets_121 rfl 2 rfl ?_
    refine z_get (ref := "FlowExporterModel") (C := RX12) (T := TX12) (N := 54) (ci := 14) (v := .int (nI le)) B hu_X12_readSets_X12 rfl 23 (Nat.le_of_ble_eq_true rfl) hv_X12_readSets_280 rfl h_2 rfl dX12_readSets_122 ?_
    refine z_icmp_ge (tgt := 138) B dX12_readSets_125 rfl (fun c_2 => ?_) (fun c_2 => ?_)
    · have e_2 : le ≤ i_2 := (nI_leI (a := le) (b := i_2) (by omega) (by omega)).mp c_2
      refine z_iload_n B dX12_readSets_138 rfl 0 rfl ?_
      exact zd_end hdr1 (z_ret_i B dX12_readSets_139 ⟨⟨_, rfl⟩, rfl, hI1, (fun b9 h9 => ((hF1 b9 h9).trans rfl))⟩)
    · have e_3 : ¬ (le ≤ i_2) := fun h9 => c_2 ((nI_leI (a := le) (b := i_2) (by omega) (by omega)).mpr h9)
      refine z_aload_n B dX12_readSets_128 rfl 2 rfl ?_
      refine z_get (ref := "FlowExporterModel") (C := RX12) (T := TX12) (N := 54) (ci := 14) (v := .ref (x + 11)) B hu_X12_readSets_X12 rfl 27 (Nat.le_of_ble_eq_true rfl) hv_X12_readSets_45 rfl h_2 rfl dX12_readSets_129 ?_
      refine z_iconst (v := 4) B dX12_readSets_132 rfl ?_
      refine z_dup2_11 B dX12_readSets_133 rfl rfl ?_
      obtain ⟨f_1, h_3⟩ := imk (k := 11) hI1
      have h_4 : Φl1 (x + 11) = some (al_ G 9 f_1) := h_3
      refine z_lald B h_4 (vin rfl) dX12_readSets_134 ?_
      refine z_fl (fun v_2 => ?_)
      refine z_lconst (v := 1) B dX12_readSets_135 rfl ?_
      refine z_ladd B dX12_readSets_136 ?_
      refine z_fl (fun v_3 => ?_)
      refine z_last B h_4 (Nat.le_trans hx (Nat.le_add_right x 11)) (vin rfl) dX12_readSets_137 (fun Φ1 hΦ1 => ?_)
      have h_5 : Φ1 (x + 11) = some (al_ G 9 (vp_updL f_1 (4 : Int32).toNatClampNeg v_3)) := fset_at hΦ1
      have hI2 : Im G x (rd, nw, cr, tp, tt, sI, sT, pt, ql, fl, pe, le, nx, il, qu, kn, ec, nu, va, st, ep, ti, ad, ob, ra, rt, ex, sa, us, tk, th, me, dr, se, sn) Φ1 := Im.put (k := 11) hI1 hΦ1 ⟨_, rfl⟩
      refine z_iload_n B dX12_readSets_138 rfl 0 rfl ?_
      exact zd_end hdr1 (z_ret_i B dX12_readSets_139 ⟨⟨_, rfl⟩, rfl, hI2, (fun b9 h9 => ((fset_fr hΦ1 (fun h8 => h9 (11) h8 (show 11 = 0 ∨ 11 = 11 ∨ 11 = 12 ∨ 11 = 13 ∨ 11 = 14 ∨ 11 = 17 ∨ 11 = 18 ∨ 11 = 19 ∨ 11 = 20 ∨ 11 = 21 ∨ 11 = 22 by decide))).trans ((hF1 b9 h9).trans rfl)))⟩)
  · have e_4 : ¬ (le - i_2 < 4) := fun h9 => c_1 ((nI_ltI (a := le - i_2) (b := 4) (by omega) (by omega)).mpr h9)
    refine z_aload_n B dX12_readSets_15 rfl 2 rfl ?_
    refine z_iload_n B dX12_readSets_16 rfl 1 rfl ?_
    refine z_iconst (v := 2) B dX12_readSets_17 rfl ?_
    refine z_callV (As := [.int (nI i_2), .int 2]) (rest := []) B (r_get G l Φl1 sz x rd nw cr tp tt sI sT pt ql fl pe le nx il qu kn ec nu va st ep ti ad ob ra rt ex sa us tk th me dr se sn i_2 2 hx hI1 (show 2 ≤ 8 by omega) (show i_2 + 2 ≤ 700 by omega) hnw) (cwV 2 B.1.2.2.2.2 gX12_readSets_X12_get rfl rfl rfl (by decide +kernel) ⟨Nat.le_of_ble_eq_true rfl, Nat.le_of_ble_eq_true rfl⟩) h_2 rfl rfl rfl rfl (Nat.le_of_ble_eq_true rfl) dX12_readSets_18 ⟨Nat.le_of_ble_eq_true rfl, Nat.le_of_ble_eq_true rfl⟩ (fun r_2 Φ2 sz1 st1 hp1 hs1 => ?_)
    obtain ⟨⟨v_4, rfl, q_1⟩, hq1, hI3, hF2⟩ := hp1
    subst sz1
    replace hs1 : st1 = [.long v_4] := hs1
    subst st1
    replace q_1 : np 2 v_4 := q_1
    replace hI3 : Im G x (rd, nw, cr, tp, tt, sI, sT, pt, ql, fl, pe, le, nx, il, qu, kn, ec, nu, va, st, ep, ti, ad, ob, ra, rt, ex, sa, us, tk, th, me, dr, se, sn) Φ2 := hI3
    refine z_l2i (v := v_4.toInt32) B dX12_readSets_21 rfl ?_
    obtain ⟨n_3, b_15, e_5, -⟩ := np2 q_1
    refine z_top (st1 := [.int (nI n_3)]) (congrArg (fun w9 : Int32 => ([.int w9] : List Value)) (e_5)) ?_
    refine z_istore_n (lv' := [(3, .int (nI n_3)), (2, .int i_1), (1, .int (nI i_2)), (0, .ref x)]) B dX12_readSets_22 rfl (Nat.le_of_ble_eq_true rfl) rfl ?_
    refine z_aload_n B dX12_readSets_23 rfl 3 rfl ?_
    refine z_iload_n B dX12_readSets_24 rfl 2 rfl ?_
    refine z_iconst (v := 2) B dX12_readSets_25 rfl ?_
    refine z_iadd B dX12_readSets_26 ?_
    refine z_top (st1 := [.int (nI (i_2 + 2)), .ref x]) (congrArg (fun w9 : Int32 => ([.int w9, .ref x] : List Value)) (nI_add i_2 2)) ?_
    refine z_iconst (v := 2) B dX12_readSets_27 rfl ?_
    have h_6 : Φ2 x = some (o_ 14 [.int th, .ref (x + 1), .ref (x + 2), .int ti, .int ra, .int (nI rt), .int ex, .int ad, .ref (x + 3), .ref (x + 4), .int me, .long se, .ref (x + 5), .int (nI fl), .int dr, .long ob, .long sa, .long sn, .long us, .ref (x + 6), .ref (x + 7), .int (nI pe), .ref (x + 8), .int (nI le), .ref (x + 9), .ref (x + 10), .int (nI qu), .ref (x + 11), .ref (x + 12), .ref (x + 13), .ref (x + 14), .ref (x + 15), .ref (x + 16), .int (nI n_1), .long v_1, .ref (x + 17), .ref (x + 18), .ref (x + 19), .ref (x + 20), .ref (x + 21), .ref (x + 22), .int (nI n_2), .ref (x + 23), .ref (x + 24), .int (nI tk), .ref (x + 25), .int (nI il), .int (nI nx), .int ec, .int ep, .int kn, .int (nI st), .int nu, .long va]) := ((hF2 x (fun j9 h8 h7 => (show False from h7).elim)).trans h_2)
    refine z_callV (As := [.int (nI (i_2 + 2)), .int 2]) (rest := []) B (r_get G l Φ2 sz x rd nw cr tp tt sI sT pt ql fl pe le nx il qu kn ec nu va st ep ti ad ob ra rt ex sa us tk th me dr se sn (i_2 + 2) 2 hx hI3 (show 2 ≤ 8 by omega) (show (i_2 + 2) + 2 ≤ 700 by omega) hnw) (cwV 2 B.1.2.2.2.2 gX12_readSets_X12_get rfl rfl rfl (by decide +kernel) ⟨Nat.le_of_ble_eq_true rfl, Nat.le_of_ble_eq_true rfl⟩) h_6 rfl rfl rfl rfl (Nat.le_of_ble_eq_true rfl) dX12_readSets_28 ⟨Nat.le_of_ble_eq_true rfl, Nat.le_of_ble_eq_true rfl⟩ (fun r_3 Φ3 sz2 st2 hp2 hs2 => ?_)
    obtain ⟨⟨v_5, rfl, q_2⟩, hq2, hI4, hF3⟩ := hp2
    subst sz2
    replace hs2 : st2 = [.long v_5] := hs2
    subst st2
    replace q_2 : np 2 v_5 := q_2
    replace hI4 : Im G x (rd, nw, cr, tp, tt, sI, sT, pt, ql, fl, pe, le, nx, il, qu, kn, ec, nu, va, st, ep, ti, ad, ob, ra, rt, ex, sa, us, tk, th, me, dr, se, sn) Φ3 := hI4
    refine z_l2i (v := v_5.toInt32) B dX12_readSets_31 rfl ?_
    obtain ⟨n_4, b_16, e_6, -⟩ := np2 q_2
    refine z_top (st1 := [.int (nI n_4)]) (congrArg (fun w9 : Int32 => ([.int w9] : List Value)) (e_6)) ?_
    refine z_istore (lv' := [(4, .int (nI n_4)), (3, .int (nI n_3)), (2, .int i_1), (1, .int (nI i_2)), (0, .ref x)]) B dX12_readSets_32 (Nat.le_of_ble_eq_true rfl) rfl ?_
    refine z_iload B dX12_readSets_34 0 rfl ?_
    refine z_iconst (v := 4) B dX12_readSets_36 rfl ?_
    refine z_icmp_lt (tgt := 51) B dX12_readSets_37 rfl (fun c_3 => ?_) (fun c_3 => ?_)
    · have e_7 : n_4 < 4 := (nI_ltI (a := n_4) (b := 4) (by omega) (by omega)).mp c_3
      refine z_aload_n B dX12_readSets_51 rfl 4 rfl ?_
      have h_7 : Φ3 x = some (o_ 14 [.int th, .ref (x + 1), .ref (x + 2), .int ti, .int ra, .int (nI rt), .int ex, .int ad, .ref (x + 3), .ref (x + 4), .int me, .long se, .ref (x + 5), .int (nI fl), .int dr, .long ob, .long sa, .long sn, .long us, .ref (x + 6), .ref (x + 7), .int (nI pe), .ref (x + 8), .int (nI le), .ref (x + 9), .ref (x + 10), .int (nI qu), .ref (x + 11), .ref (x + 12), .ref (x + 13), .ref (x + 14), .ref (x + 15), .ref (x + 16), .int (nI n_1), .long v_1, .ref (x + 17), .ref (x + 18), .ref (x + 19), .ref (x + 20), .ref (x + 21), .ref (x + 22), .int (nI n_2), .ref (x + 23), .ref (x + 24), .int (nI tk), .ref (x + 25), .int (nI il), .int (nI nx), .int ec, .int ep, .int kn, .int (nI st), .int nu, .long va]) := ((hF3 x (fun j9 h8 h7 => (show False from h7).elim)).trans h_6)
      refine z_get (ref := "FlowExporterModel") (C := RX12) (T := TX12) (N := 54) (ci := 14) (v := .ref (x + 11)) B hu_X12_readSets_X12 rfl 27 (Nat.le_of_ble_eq_true rfl) hv_X12_readSets_45 rfl h_7 rfl dX12_readSets_52 ?_
      refine z_iconst (v := 4) B dX12_readSets_55 rfl ?_
      refine z_dup2_11 B dX12_readSets_56 rfl rfl ?_
      obtain ⟨f_2, h_8⟩ := imk (k := 11) hI4
      have h_9 : Φ3 (x + 11) = some (al_ G 9 f_2) := h_8
      refine z_lald B h_9 (vin rfl) dX12_readSets_57 ?_
      refine z_fl (fun v_6 => ?_)
      refine z_lconst (v := 1) B dX12_readSets_58 rfl ?_
      refine z_ladd B dX12_readSets_59 ?_
      refine z_fl (fun v_7 => ?_)
      refine z_last B h_9 (Nat.le_trans hx (Nat.le_add_right x 11)) (vin rfl) dX12_readSets_60 (fun Φ4 hΦ2 => ?_)
      have h_10 : Φ4 (x + 11) = some (al_ G 9 (vp_updL f_2 (4 : Int32).toNatClampNeg v_7)) := fset_at hΦ2
      have hI5 : Im G x (rd, nw, cr, tp, tt, sI, sT, pt, ql, fl, pe, le, nx, il, qu, kn, ec, nu, va, st, ep, ti, ad, ob, ra, rt, ex, sa, us, tk, th, me, dr, se, sn) Φ4 := Im.put (k := 11) hI4 hΦ2 ⟨_, rfl⟩
      refine z_iload_n B dX12_readSets_61 rfl 2 rfl ?_
      exact zd_end hdr1 (z_ret_i B dX12_readSets_62 ⟨⟨_, rfl⟩, rfl, hI5, (fun b9 h9 => ((fset_fr hΦ2 (fun h8 => h9 (11) h8 (show 11 = 0 ∨ 11 = 11 ∨ 11 = 12 ∨ 11 = 13 ∨ 11 = 14 ∨ 11 = 17 ∨ 11 = 18 ∨ 11 = 19 ∨ 11 = 20 ∨ 11 = 21 ∨ 11 = 22 by decide))).trans ((hF3 b9 (fun j9 h8 h7 => (show False from h7).elim)).trans ((hF2 b9 (fun j9 h8 h7 => (show False from h7).elim)).trans ((hF1 b9 h9).trans rfl)))))⟩)
    · have e_8 : ¬ (n_4 < 4) := fun h9 => c_3 ((nI_ltI (a := n_4) (b := 4) (by omega) (by omega)).mpr h9)
      refine z_iload B dX12_readSets_40 0 rfl ?_
      refine z_aload_n B dX12_readSets_42 rfl 4 rfl ?_
      have h_11 : Φ3 x = some (o_ 14 [.int th, .ref (x + 1), .ref (x + 2), .int ti, .int ra, .int (nI rt), .int ex, .int ad, .ref (x + 3), .ref (x + 4), .int me, .long se, .ref (x + 5), .int (nI fl), .int dr, .long ob, .long sa, .long sn, .long us, .ref (x + 6), .ref (x + 7), .int (nI pe), .ref (x + 8), .int (nI le), .ref (x + 9), .ref (x + 10), .int (nI qu), .ref (x + 11), .ref (x + 12), .ref (x + 13), .ref (x + 14), .ref (x + 15), .ref (x + 16), .int (nI n_1), .long v_1, .ref (x + 17), .ref (x + 18), .ref (x + 19), .ref (x + 20), .ref (x + 21), .ref (x + 22), .int (nI n_2), .ref (x + 23), .ref (x + 24), .int (nI tk), .ref (x + 25), .int (nI il), .int (nI nx), .int ec, .int ep, .int kn, .int (nI st), .int nu, .long va]) := ((hF3 x (fun j9 h8 h7 => (show False from h7).elim)).trans h_6)
      refine z_get (ref := "FlowExporterModel") (C := RX12) (T := TX12) (N := 54) (ci := 14) (v := .int (nI le)) B hu_X12_readSets_X12 rfl 23 (Nat.le_of_ble_eq_true rfl) hv_X12_readSets_280 rfl h_11 rfl dX12_readSets_43 ?_
      refine z_iload_n B dX12_readSets_46 rfl 3 rfl ?_
      refine z_isub B dX12_readSets_47 ?_
      refine z_top (st1 := [.int (nI (le - i_2)), .int (nI n_4)]) (congrArg (fun w9 : Int32 => ([.int w9, .int (nI n_4)] : List Value)) (nI_sub (show i_2 ≤ le by omega))) ?_
      refine z_icmp_le (tgt := 63) B dX12_readSets_48 rfl (fun c_4 => ?_) (fun c_4 => ?_)
      · have e_9 : n_4 ≤ le - i_2 := (nI_leI (a := n_4) (b := le - i_2) (by omega) (by omega)).mp c_4
        refine z_iload_n B dX12_readSets_63 rfl 1 rfl ?_
        refine z_iconst (v := 2) B dX12_readSets_64 rfl ?_
        refine z_icmp_ne (tgt := 79) B dX12_readSets_65 rfl (fun c_5 => ?_) (fun c_5 => ?_)
        · have e_10 : ¬ (n_3 = 2) := fun h9 => c_5 ((nI_eq (a := n_3) (b := 2) (by omega) (by omega)).mpr h9)
          refine z_iload_n B dX12_readSets_79 rfl 1 rfl ?_
          refine z_i2l (v := (nI n_3).toInt64) B dX12_readSets_80 rfl ?_
          refine z_ldc2 (v := 256) B (by decide +kernel) dX12_readSets_81 ?_
          refine z_ldc2 (v := 259) B (by decide +kernel) dX12_readSets_84 ?_
          by_cases hR1 : inP ((nI n_3).toInt64) 256 259
          · have e_11 := (in_nat (m := n_3) (L := 256) (H := 259) (by decide) (by decide) (by omega)).mp hR1
            refine z_callS (As := [.long ((nI n_3).toInt64), .long 256, .long 259]) (rest := []) B (c_inR1 G l Φ3 sz ((nI n_3).toInt64) 256 259 hR1 (fun v8 Φ8 sz8 => v8 = some (.int 1) ∧ sz8 = sz ∧ Im G x (rd, nw, cr, tp, tt, sI, sT, pt, ql, fl, pe, le, nx, il, qu, kn, ec, nu, va, st, ep, ti, ad, ob, ra, rt, ex, sa, us, tk, th, me, dr, se, sn) Φ8 ∧ Fr x (fun j9 => False) Φ3 Φ8) ⟨rfl, rfl, hI4, fun _ _ => rfl⟩) (va_cwS 3 B.1.2.2.2.2 gX12_readSets_X12_inRange rfl rfl rfl (by decide +kernel) ⟨Nat.le_of_ble_eq_true rfl, Nat.le_of_ble_eq_true rfl⟩) rfl rfl (Nat.le_of_ble_eq_true rfl) dX12_readSets_87 ⟨Nat.le_of_ble_eq_true rfl, Nat.le_of_ble_eq_true rfl⟩ (fun r_5 Φ5 sz3 st3 hp3 hs3 => ?_)
            obtain ⟨rfl, hq3, hI6, hF4⟩ := hp3
            subst sz3
            replace hs3 : st3 = [.int 1] := hs3
            subst st3
            refine z_if_eq (tgt := 112) B dX12_readSets_90 rfl (fun h9 => absurd h9 (by decide)) (fun c_6 => ?_)
            refine z_iload_n B dX12_readSets_93 rfl 2 rfl ?_
            refine z_aload_n B dX12_readSets_94 rfl 4 rfl ?_
            refine z_iload_n B dX12_readSets_95 rfl 1 rfl ?_
            refine z_sipush (v := 256) B dX12_readSets_96 rfl ?_
            refine z_isub B dX12_readSets_99 ?_
            refine z_top (st1 := [.int (nI (n_3 - 256)), .ref x, .int i_1]) (congrArg (fun w9 : Int32 => ([.int w9, .ref x, .int i_1] : List Value)) (nI_sub (show 256 ≤ n_3 by omega))) ?_
            refine z_iload_n B dX12_readSets_100 rfl 3 rfl ?_
            refine z_iconst (v := 4) B dX12_readSets_101 rfl ?_
            refine z_iadd B dX12_readSets_102 ?_
            refine z_top (st1 := [.int (nI (i_2 + 4)), .int (nI (n_3 - 256)), .ref x, .int i_1]) (congrArg (fun w9 : Int32 => ([.int w9, .int (nI (n_3 - 256)), .ref x, .int i_1] : List Value)) (nI_add i_2 4)) ?_
            refine z_iload_n B dX12_readSets_103 rfl 3 rfl ?_
            refine z_iload B dX12_readSets_104 0 rfl ?_
            refine z_iadd B dX12_readSets_106 ?_
            refine z_top (st1 := [.int (nI (i_2 + n_4)), .int (nI (i_2 + 4)), .int (nI (n_3 - 256)), .ref x, .int i_1]) (congrArg (fun w9 : Int32 => ([.int w9, .int (nI (i_2 + 4)), .int (nI (n_3 - 256)), .ref x, .int i_1] : List Value)) (nI_add i_2 n_4)) ?_
            have h_12 : Φ5 x = some (o_ 14 [.int th, .ref (x + 1), .ref (x + 2), .int ti, .int ra, .int (nI rt), .int ex, .int ad, .ref (x + 3), .ref (x + 4), .int me, .long se, .ref (x + 5), .int (nI fl), .int dr, .long ob, .long sa, .long sn, .long us, .ref (x + 6), .ref (x + 7), .int (nI pe), .ref (x + 8), .int (nI le), .ref (x + 9), .ref (x + 10), .int (nI qu), .ref (x + 11), .ref (x + 12), .ref (x + 13), .ref (x + 14), .ref (x + 15), .ref (x + 16), .int (nI n_1), .long v_1, .ref (x + 17), .ref (x + 18), .ref (x + 19), .ref (x + 20), .ref (x + 21), .ref (x + 22), .int (nI n_2), .ref (x + 23), .ref (x + 24), .int (nI tk), .ref (x + 25), .int (nI il), .int (nI nx), .int ec, .int ep, .int kn, .int (nI st), .int nu, .long va]) := ((hF4 x (fun j9 h8 h7 => (show False from h7).elim)).trans h_11)
            refine zd_callV (As := [.int (nI (n_3 - 256)), .int (nI (i_2 + 4)), .int (nI (i_2 + n_4))]) (rest := [.int i_1]) B (r_readData G l Φ5 sz x rd nw cr tp tt sI sT pt ql fl pe le nx il qu kn ec nu va st ep ti ad ob ra rt ex sa us tk th me dr se sn (n_3 - 256) (i_2 + 4) (i_2 + n_4) hx hI6 (show (n_3 - 256) < 4 by omega) (show (i_2 + 4) ≤ (i_2 + n_4) by omega) hg hnw) (cwV 3 B.1.2.2.2.2 gX12_readSets_X12_readData rfl rfl rfl (by decide +kernel) ⟨Nat.le_of_ble_eq_true rfl, Nat.le_of_ble_eq_true rfl⟩) h_12 rfl rfl rfl rfl (Nat.le_of_ble_eq_true rfl) dX12_readSets_107 ⟨Nat.le_of_ble_eq_true rfl, Nat.le_of_ble_eq_true rfl⟩ (fun d_2 hdr3 r_6 Φ6 sz4 st4 hp4 hs4 => ?_)
            have hdr4 := Drawn.sameBut.trans hdr1 hdr3
            have B : Bd p9 (s9.setDrawn d_2) m9 _ t9 k9 G _ _ _ _ _ _ := Bd.drawn B d_2
            show Z p9 l e9 _ (s9.setDrawn d_2) m9 _ w9 t9 k9 _ G _ _ _ _ _ _ _ _
            obtain ⟨⟨v_8, rfl⟩, hq4, hI7, hF5⟩ := hp4
            subst sz4
            replace hs4 : st4 = [.int v_8, .int i_1] := hs4
            subst st4
            replace hI7 : Im G x (rd, nw, cr, tp, tt, sI, sT, pt, ql, fl, pe, le, nx, il, qu, kn, ec, nu, va, st, ep, ti, ad, ob, ra, rt, ex, sa, us, tk, th, me, dr, se, sn) Φ6 := hI7
            refine z_iadd B dX12_readSets_110 ?_
            refine z_fi (fun v_9 => ?_)
            refine z_istore_n (lv' := [(2, .int v_9), (4, .int (nI n_4)), (3, .int (nI n_3)), (1, .int (nI i_2)), (0, .ref x)]) B dX12_readSets_111 rfl (Nat.le_of_ble_eq_true rfl) rfl ?_
            refine z_iload_n B dX12_readSets_112 rfl 3 rfl ?_
            refine z_iload B dX12_readSets_113 1 rfl ?_
            refine z_iadd B dX12_readSets_115 ?_
            refine z_top (st1 := [.int (nI (i_2 + n_4))]) (congrArg (fun w9 : Int32 => ([.int w9] : List Value)) (nI_add i_2 n_4)) ?_
            refine z_istore_n (lv' := [(1, .int (nI (i_2 + n_4))), (2, .int v_9), (4, .int (nI n_4)), (3, .int (nI n_3)), (0, .ref x)]) B dX12_readSets_116 rfl (Nat.le_of_ble_eq_true rfl) rfl ?_
            refine z_goto (tgt := 5) B dX12_readSets_117 rfl ?_
            refine z_lv [1, 0, 4] rfl ?_
            exact ih1 d_2 hdr4 (v_9, i_2 + n_4) Φ6 (show 701 - (i_2 + n_4) < 701 - i_2 by omega) ⟨hI7, (fun b9 h9 => ((hF5 b9 (fun j9 h8 h7 => h9 j9 h8 (fq_1302 j9 h7))).trans ((hF4 b9 (fun j9 h8 h7 => (show False from h7).elim)).trans ((hF3 b9 (fun j9 h8 h7 => (show False from h7).elim)).trans ((hF2 b9 (fun j9 h8 h7 => (show False from h7).elim)).trans ((hF1 b9 h9).trans rfl)))))), (show (i_2 + n_4) ≤ le by omega), trivial⟩
          · have e_14 := fun h9 => hR1 ((in_nat (m := n_3) (L := 256) (H := 259) (by decide) (by decide) (by omega)).mpr h9)
            refine z_callS (As := [.long ((nI n_3).toInt64), .long 256, .long 259]) (rest := []) B (c_inR0 G l Φ3 sz ((nI n_3).toInt64) 256 259 hR1 (fun v8 Φ8 sz8 => v8 = some (.int 0) ∧ sz8 = sz ∧ Im G x (rd, nw, cr, tp, tt, sI, sT, pt, ql, fl, pe, le, nx, il, qu, kn, ec, nu, va, st, ep, ti, ad, ob, ra, rt, ex, sa, us, tk, th, me, dr, se, sn) Φ8 ∧ Fr x (fun j9 => False) Φ3 Φ8) ⟨rfl, rfl, hI4, fun _ _ => rfl⟩) (va_cwS 3 B.1.2.2.2.2 gX12_readSets_X12_inRange rfl rfl rfl (by decide +kernel) ⟨Nat.le_of_ble_eq_true rfl, Nat.le_of_ble_eq_true rfl⟩) rfl rfl (Nat.le_of_ble_eq_true rfl) dX12_readSets_87 ⟨Nat.le_of_ble_eq_true rfl, Nat.le_of_ble_eq_true rfl⟩ (fun r_7 Φ7 sz5 st5 hp5 hs5 => ?_)
            obtain ⟨rfl, hq5, hI8, hF6⟩ := hp5
            subst sz5
            replace hs5 : st5 = [.int 0] := hs5
            subst st5
            refine z_if_eq (tgt := 112) B dX12_readSets_90 rfl (fun c_7 => ?_) (fun h9 => absurd (by decide) h9)
            refine z_iload_n B dX12_readSets_112 rfl 3 rfl ?_
            refine z_iload B dX12_readSets_113 0 rfl ?_
            refine z_iadd B dX12_readSets_115 ?_
            refine z_top (st1 := [.int (nI (i_2 + n_4))]) (congrArg (fun w9 : Int32 => ([.int w9] : List Value)) (nI_add i_2 n_4)) ?_
            refine z_istore_n (lv' := [(1, .int (nI (i_2 + n_4))), (4, .int (nI n_4)), (3, .int (nI n_3)), (2, .int i_1), (0, .ref x)]) B dX12_readSets_116 rfl (Nat.le_of_ble_eq_true rfl) rfl ?_
            refine z_goto (tgt := 5) B dX12_readSets_117 rfl ?_
            refine z_lv [3, 0, 4] rfl ?_
            exact ih1 d_1 hdr1 (i_1, i_2 + n_4) Φ7 (show 701 - (i_2 + n_4) < 701 - i_2 by omega) ⟨hI8, (fun b9 h9 => ((hF6 b9 (fun j9 h8 h7 => (show False from h7).elim)).trans ((hF3 b9 (fun j9 h8 h7 => (show False from h7).elim)).trans ((hF2 b9 (fun j9 h8 h7 => (show False from h7).elim)).trans ((hF1 b9 h9).trans rfl))))), (show (i_2 + n_4) ≤ le by omega), trivial⟩
        · have e_15 : n_3 = 2 := (nI_eq (a := n_3) (b := 2) (by omega) (by omega)).mp c_5
          refine z_aload_n B dX12_readSets_68 rfl 4 rfl ?_
          refine z_iload_n B dX12_readSets_69 rfl 3 rfl ?_
          refine z_iconst (v := 4) B dX12_readSets_70 rfl ?_
          refine z_iadd B dX12_readSets_71 ?_
          refine z_top (st1 := [.int (nI (i_2 + 4)), .ref x]) (congrArg (fun w9 : Int32 => ([.int w9, .ref x] : List Value)) (nI_add i_2 4)) ?_
          refine z_iload_n B dX12_readSets_72 rfl 3 rfl ?_
          refine z_iload B dX12_readSets_73 0 rfl ?_
          refine z_iadd B dX12_readSets_75 ?_
          refine z_top (st1 := [.int (nI (i_2 + n_4)), .int (nI (i_2 + 4)), .ref x]) (congrArg (fun w9 : Int32 => ([.int w9, .int (nI (i_2 + 4)), .ref x] : List Value)) (nI_add i_2 n_4)) ?_
          refine z_callV (As := [.int (nI (i_2 + 4)), .int (nI (i_2 + n_4))]) (rest := []) B (r_readTemplates G l Φ3 sz x rd nw cr tp tt sI sT pt ql fl pe le nx il qu kn ec nu va st ep ti ad ob ra rt ex sa us tk th me dr se sn (i_2 + 4) (i_2 + n_4) hx hI4 (show (i_2 + 4) ≤ (i_2 + n_4) by omega) hg hnw) (cwV 2 B.1.2.2.2.2 gX12_readSets_X12_readTemplates rfl rfl rfl (by decide +kernel) ⟨Nat.le_of_ble_eq_true rfl, Nat.le_of_ble_eq_true rfl⟩) h_11 rfl rfl rfl rfl (Nat.le_of_ble_eq_true rfl) dX12_readSets_76 ⟨Nat.le_of_ble_eq_true rfl, Nat.le_of_ble_eq_true rfl⟩ (fun r_8 Φ8 sz6 st6 hp6 hs6 => ?_)
          obtain ⟨rfl, hq6, hI9, hF7⟩ := hp6
          subst sz6
          replace hs6 : st6 = [] := hs6
          subst st6
          replace hI9 : Im G x (rd, nw, cr, tp, tt, sI, sT, pt, ql, fl, pe, le, nx, il, qu, kn, ec, nu, va, st, ep, ti, ad, ob, ra, rt, ex, sa, us, tk, th, me, dr, se, sn) Φ8 := hI9
          refine z_iload_n B dX12_readSets_79 rfl 1 rfl ?_
          refine z_i2l (v := (nI n_3).toInt64) B dX12_readSets_80 rfl ?_
          refine z_ldc2 (v := 256) B (by decide +kernel) dX12_readSets_81 ?_
          refine z_ldc2 (v := 259) B (by decide +kernel) dX12_readSets_84 ?_
          by_cases hR2 : inP ((nI n_3).toInt64) 256 259
          · have e_16 := (in_nat (m := n_3) (L := 256) (H := 259) (by decide) (by decide) (by omega)).mp hR2
            refine z_callS (As := [.long ((nI n_3).toInt64), .long 256, .long 259]) (rest := []) B (c_inR1 G l Φ8 sz ((nI n_3).toInt64) 256 259 hR2 (fun v8 Φ0 sz8 => v8 = some (.int 1) ∧ sz8 = sz ∧ Im G x (rd, nw, cr, tp, tt, sI, sT, pt, ql, fl, pe, le, nx, il, qu, kn, ec, nu, va, st, ep, ti, ad, ob, ra, rt, ex, sa, us, tk, th, me, dr, se, sn) Φ0 ∧ Fr x (fun j9 => False) Φ8 Φ0) ⟨rfl, rfl, hI9, fun _ _ => rfl⟩) (va_cwS 3 B.1.2.2.2.2 gX12_readSets_X12_inRange rfl rfl rfl (by decide +kernel) ⟨Nat.le_of_ble_eq_true rfl, Nat.le_of_ble_eq_true rfl⟩) rfl rfl (Nat.le_of_ble_eq_true rfl) dX12_readSets_87 ⟨Nat.le_of_ble_eq_true rfl, Nat.le_of_ble_eq_true rfl⟩ (fun r_9 Φ9 sz7 st7 hp7 hs7 => ?_)
            obtain ⟨rfl, hq7, hI10, hF8⟩ := hp7
            subst sz7
            replace hs7 : st7 = [.int 1] := hs7
            subst st7
            refine z_if_eq (tgt := 112) B dX12_readSets_90 rfl (fun h9 => absurd h9 (by decide)) (fun c_8 => ?_)
            refine z_iload_n B dX12_readSets_93 rfl 2 rfl ?_
            refine z_aload_n B dX12_readSets_94 rfl 4 rfl ?_
            refine z_iload_n B dX12_readSets_95 rfl 1 rfl ?_
            refine z_sipush (v := 256) B dX12_readSets_96 rfl ?_
            refine z_isub B dX12_readSets_99 ?_
            refine z_top (st1 := [.int (nI (n_3 - 256)), .ref x, .int i_1]) (congrArg (fun w9 : Int32 => ([.int w9, .ref x, .int i_1] : List Value)) (nI_sub (show 256 ≤ n_3 by omega))) ?_
            refine z_iload_n B dX12_readSets_100 rfl 3 rfl ?_
            refine z_iconst (v := 4) B dX12_readSets_101 rfl ?_
            refine z_iadd B dX12_readSets_102 ?_
            refine z_top (st1 := [.int (nI (i_2 + 4)), .int (nI (n_3 - 256)), .ref x, .int i_1]) (congrArg (fun w9 : Int32 => ([.int w9, .int (nI (n_3 - 256)), .ref x, .int i_1] : List Value)) (nI_add i_2 4)) ?_
            refine z_iload_n B dX12_readSets_103 rfl 3 rfl ?_
            refine z_iload B dX12_readSets_104 0 rfl ?_
            refine z_iadd B dX12_readSets_106 ?_
            refine z_top (st1 := [.int (nI (i_2 + n_4)), .int (nI (i_2 + 4)), .int (nI (n_3 - 256)), .ref x, .int i_1]) (congrArg (fun w9 : Int32 => ([.int w9, .int (nI (i_2 + 4)), .int (nI (n_3 - 256)), .ref x, .int i_1] : List Value)) (nI_add i_2 n_4)) ?_
            have h_13 : Φ9 x = some (o_ 14 [.int th, .ref (x + 1), .ref (x + 2), .int ti, .int ra, .int (nI rt), .int ex, .int ad, .ref (x + 3), .ref (x + 4), .int me, .long se, .ref (x + 5), .int (nI fl), .int dr, .long ob, .long sa, .long sn, .long us, .ref (x + 6), .ref (x + 7), .int (nI pe), .ref (x + 8), .int (nI le), .ref (x + 9), .ref (x + 10), .int (nI qu), .ref (x + 11), .ref (x + 12), .ref (x + 13), .ref (x + 14), .ref (x + 15), .ref (x + 16), .int (nI n_1), .long v_1, .ref (x + 17), .ref (x + 18), .ref (x + 19), .ref (x + 20), .ref (x + 21), .ref (x + 22), .int (nI n_2), .ref (x + 23), .ref (x + 24), .int (nI tk), .ref (x + 25), .int (nI il), .int (nI nx), .int ec, .int ep, .int kn, .int (nI st), .int nu, .long va]) := ((hF8 x (fun j9 h8 h7 => (show False from h7).elim)).trans ((hF7 x fq_1303).trans h_11))
            refine zd_callV (As := [.int (nI (n_3 - 256)), .int (nI (i_2 + 4)), .int (nI (i_2 + n_4))]) (rest := [.int i_1]) B (r_readData G l Φ9 sz x rd nw cr tp tt sI sT pt ql fl pe le nx il qu kn ec nu va st ep ti ad ob ra rt ex sa us tk th me dr se sn (n_3 - 256) (i_2 + 4) (i_2 + n_4) hx hI10 (show (n_3 - 256) < 4 by omega) (show (i_2 + 4) ≤ (i_2 + n_4) by omega) hg hnw) (cwV 3 B.1.2.2.2.2 gX12_readSets_X12_readData rfl rfl rfl (by decide +kernel) ⟨Nat.le_of_ble_eq_true rfl, Nat.le_of_ble_eq_true rfl⟩) h_13 rfl rfl rfl rfl (Nat.le_of_ble_eq_true rfl) dX12_readSets_107 ⟨Nat.le_of_ble_eq_true rfl, Nat.le_of_ble_eq_true rfl⟩ (fun d_3 hdr5 r_10 Φ10 sz8 st8 hp8 hs8 => ?_)
            have hdr6 := Drawn.sameBut.trans hdr1 hdr5
            have B : Bd p9 (s9.setDrawn d_3) m9 _ t9 k9 G _ _ _ _ _ _ := Bd.drawn B d_3
            show Z p9 l e9 _ (s9.setDrawn d_3) m9 _ w9 t9 k9 _ G _ _ _ _ _ _ _ _
            obtain ⟨⟨v_10, rfl⟩, hq8, hI11, hF9⟩ := hp8
            subst sz8
            replace hs8 : st8 = [.int v_10, .int i_1] := hs8
            subst st8
            replace hI11 : Im G x (rd, nw, cr, tp, tt, sI, sT, pt, ql, fl, pe, le, nx, il, qu, kn, ec, nu, va, st, ep, ti, ad, ob, ra, rt, ex, sa, us, tk, th, me, dr, se, sn) Φ10 := hI11
            refine z_iadd B dX12_readSets_110 ?_
            refine z_fi (fun v_11 => ?_)
            refine z_istore_n (lv' := [(2, .int v_11), (4, .int (nI n_4)), (3, .int (nI n_3)), (1, .int (nI i_2)), (0, .ref x)]) B dX12_readSets_111 rfl (Nat.le_of_ble_eq_true rfl) rfl ?_
            refine z_iload_n B dX12_readSets_112 rfl 3 rfl ?_
            refine z_iload B dX12_readSets_113 1 rfl ?_
            refine z_iadd B dX12_readSets_115 ?_
            refine z_top (st1 := [.int (nI (i_2 + n_4))]) (congrArg (fun w9 : Int32 => ([.int w9] : List Value)) (nI_add i_2 n_4)) ?_
            refine z_istore_n (lv' := [(1, .int (nI (i_2 + n_4))), (2, .int v_11), (4, .int (nI n_4)), (3, .int (nI n_3)), (0, .ref x)]) B dX12_readSets_116 rfl (Nat.le_of_ble_eq_true rfl) rfl ?_
            refine z_goto (tgt := 5) B dX12_readSets_117 rfl ?_
            refine z_lv [1, 0, 4] rfl ?_
            exact ih1 d_3 hdr6 (v_11, i_2 + n_4) Φ10 (show 701 - (i_2 + n_4) < 701 - i_2 by omega) ⟨hI11, (fun b9 h9 => ((hF9 b9 (fun j9 h8 h7 => h9 j9 h8 (fq_1302 j9 h7))).trans ((hF8 b9 (fun j9 h8 h7 => (show False from h7).elim)).trans ((hF7 b9 (fun j9 h8 h7 => h9 j9 h8 (fq_1304 j9 h7))).trans ((hF3 b9 (fun j9 h8 h7 => (show False from h7).elim)).trans ((hF2 b9 (fun j9 h8 h7 => (show False from h7).elim)).trans ((hF1 b9 h9).trans rfl))))))), (show (i_2 + n_4) ≤ le by omega), trivial⟩
          · have e_19 := fun h9 => hR2 ((in_nat (m := n_3) (L := 256) (H := 259) (by decide) (by decide) (by omega)).mpr h9)
            refine z_callS (As := [.long ((nI n_3).toInt64), .long 256, .long 259]) (rest := []) B (c_inR0 G l Φ8 sz ((nI n_3).toInt64) 256 259 hR2 (fun v8 Φ0 sz8 => v8 = some (.int 0) ∧ sz8 = sz ∧ Im G x (rd, nw, cr, tp, tt, sI, sT, pt, ql, fl, pe, le, nx, il, qu, kn, ec, nu, va, st, ep, ti, ad, ob, ra, rt, ex, sa, us, tk, th, me, dr, se, sn) Φ0 ∧ Fr x (fun j9 => False) Φ8 Φ0) ⟨rfl, rfl, hI9, fun _ _ => rfl⟩) (va_cwS 3 B.1.2.2.2.2 gX12_readSets_X12_inRange rfl rfl rfl (by decide +kernel) ⟨Nat.le_of_ble_eq_true rfl, Nat.le_of_ble_eq_true rfl⟩) rfl rfl (Nat.le_of_ble_eq_true rfl) dX12_readSets_87 ⟨Nat.le_of_ble_eq_true rfl, Nat.le_of_ble_eq_true rfl⟩ (fun r_11 Φ11 sz9 st9 hp9 hs9 => ?_)
            obtain ⟨rfl, hq9, hI12, hF10⟩ := hp9
            subst sz9
            replace hs9 : st9 = [.int 0] := hs9
            subst st9
            refine z_if_eq (tgt := 112) B dX12_readSets_90 rfl (fun c_9 => ?_) (fun h9 => absurd (by decide) h9)
            refine z_iload_n B dX12_readSets_112 rfl 3 rfl ?_
            refine z_iload B dX12_readSets_113 0 rfl ?_
            refine z_iadd B dX12_readSets_115 ?_
            refine z_top (st1 := [.int (nI (i_2 + n_4))]) (congrArg (fun w9 : Int32 => ([.int w9] : List Value)) (nI_add i_2 n_4)) ?_
            refine z_istore_n (lv' := [(1, .int (nI (i_2 + n_4))), (4, .int (nI n_4)), (3, .int (nI n_3)), (2, .int i_1), (0, .ref x)]) B dX12_readSets_116 rfl (Nat.le_of_ble_eq_true rfl) rfl ?_
            refine z_goto (tgt := 5) B dX12_readSets_117 rfl ?_
            refine z_lv [3, 0, 4] rfl ?_
            exact ih1 d_1 hdr1 (i_1, i_2 + n_4) Φ11 (show 701 - (i_2 + n_4) < 701 - i_2 by omega) ⟨hI12, (fun b9 h9 => ((hF10 b9 (fun j9 h8 h7 => (show False from h7).elim)).trans ((hF7 b9 (fun j9 h8 h7 => h9 j9 h8 (fq_1304 j9 h7))).trans ((hF3 b9 (fun j9 h8 h7 => (show False from h7).elim)).trans ((hF2 b9 (fun j9 h8 h7 => (show False from h7).elim)).trans ((hF1 b9 h9).trans rfl)))))), (show (i_2 + n_4) ≤ le by omega), trivial⟩
      · have e_20 : ¬ (n_4 ≤ le - i_2) := fun h9 => c_4 ((nI_leI (a := n_4) (b := le - i_2) (by omega) (by omega)).mpr h9)
        refine z_aload_n B dX12_readSets_51 rfl 4 rfl ?_
        refine z_get (ref := "FlowExporterModel") (C := RX12) (T := TX12) (N := 54) (ci := 14) (v := .ref (x + 11)) B hu_X12_readSets_X12 rfl 27 (Nat.le_of_ble_eq_true rfl) hv_X12_readSets_45 rfl h_11 rfl dX12_readSets_52 ?_
        refine z_iconst (v := 4) B dX12_readSets_55 rfl ?_
        refine z_dup2_11 B dX12_readSets_56 rfl rfl ?_
        obtain ⟨f_3, h_14⟩ := imk (k := 11) hI4
        have h_15 : Φ3 (x + 11) = some (al_ G 9 f_3) := h_14
        refine z_lald B h_15 (vin rfl) dX12_readSets_57 ?_
        refine z_fl (fun v_12 => ?_)
        refine z_lconst (v := 1) B dX12_readSets_58 rfl ?_
        refine z_ladd B dX12_readSets_59 ?_
        refine z_fl (fun v_13 => ?_)
        refine z_last B h_15 (Nat.le_trans hx (Nat.le_add_right x 11)) (vin rfl) dX12_readSets_60 (fun Φ12 hΦ3 => ?_)
        have h_16 : Φ12 (x + 11) = some (al_ G 9 (vp_updL f_3 (4 : Int32).toNatClampNeg v_13)) := fset_at hΦ3
        have hI13 : Im G x (rd, nw, cr, tp, tt, sI, sT, pt, ql, fl, pe, le, nx, il, qu, kn, ec, nu, va, st, ep, ti, ad, ob, ra, rt, ex, sa, us, tk, th, me, dr, se, sn) Φ12 := Im.put (k := 11) hI4 hΦ3 ⟨_, rfl⟩
        refine z_iload_n B dX12_readSets_61 rfl 2 rfl ?_
        exact zd_end hdr1 (z_ret_i B dX12_readSets_62 ⟨⟨_, rfl⟩, rfl, hI13, (fun b9 h9 => ((fset_fr hΦ3 (fun h8 => h9 (11) h8 (show 11 = 0 ∨ 11 = 11 ∨ 11 = 12 ∨ 11 = 13 ∨ 11 = 14 ∨ 11 = 17 ∨ 11 = 18 ∨ 11 = 19 ∨ 11 = 20 ∨ 11 = 21 ∨ 11 = 22 by decide))).trans ((hF3 b9 (fun j9 h8 h7 => (show False from h7).elim)).trans ((hF2 b9 (fun j9 h8 h7 => (show False from h7).elim)).trans ((hF1 b9 h9).trans rfl)))))⟩)

theorem hu_X12_accept_X12 : ∀ w ∈ u_ws RX12 TX12 54, w ∈ wsX12_accept := fun _ h => List.mem_cons_of_mem _ (List.mem_append_left _ (List.mem_append_right _ (h)))

theorem hv_X12_accept_45 : Cond.fieldLink RX12 45 "FlowExporterModel" (TX12 27).2.1 (TX12 27).2.2.1 ∈ wsX12_accept := List.mem_cons_of_mem _ (List.mem_append_left _ (List.mem_append_left _ (List.mem_append_left _ (List.mem_of_getElem? (i := 0) rfl))))

theorem hv_X12_accept_280 : Cond.fieldLink RX12 280 "FlowExporterModel" (TX12 23).2.1 (TX12 23).2.2.1 ∈ wsX12_accept := List.mem_cons_of_mem _ (List.mem_append_left _ (List.mem_append_left _ (List.mem_append_left _ (List.mem_of_getElem? (i := 1) rfl))))

theorem fq_1308 : ∀ j9 : Nat, (j9 = 0 ∨ j9 = 11 ∨ j9 = 15 ∨ j9 = 16) → (j9 = 0 ∨ j9 = 11 ∨ j9 = 12 ∨ j9 = 13 ∨ j9 = 14 ∨ j9 = 15 ∨ j9 = 16 ∨ j9 = 17 ∨ j9 = 18 ∨ j9 = 19 ∨ j9 = 20 ∨ j9 = 21 ∨ j9 = 22) := by
  intro j9 h
  omega

theorem fq_1309 : ∀ j9 : Nat, (j9 = 0 ∨ j9 = 11 ∨ j9 = 12 ∨ j9 = 13 ∨ j9 = 14 ∨ j9 = 17 ∨ j9 = 18 ∨ j9 = 19 ∨ j9 = 20 ∨ j9 = 21 ∨ j9 = 22) → (j9 = 0 ∨ j9 = 11 ∨ j9 = 12 ∨ j9 = 13 ∨ j9 = 14 ∨ j9 = 15 ∨ j9 = 16 ∨ j9 = 17 ∨ j9 = 18 ∨ j9 = 19 ∨ j9 = 20 ∨ j9 = 21 ∨ j9 = 22) := by
  intro j9 h
  omega

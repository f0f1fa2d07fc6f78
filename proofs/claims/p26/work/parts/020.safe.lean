set_option maxRecDepth 20000 in
theorem ggX0_readTemplates_X5_intAt : GoodIn wsX0_readTemplates wsX5_intAt := goodIn_ca ((goodIn_ca (goodIn_r _ [8, 9, 10, 11, 7, 12, 13, 14] rfl (by decide +kernel)) (goodIn_sub (fun _ h => List.mem_cons_of_mem _ (List.mem_append_left _ (List.mem_append_left _ (List.mem_append_right _ h)))) gw_wsX50))) (goodIn_sub (fun _ h => List.mem_cons_of_mem _ (List.mem_append_right _ h)) (all_fg _))
set_option maxRecDepth 20000 in
theorem gX0_readTemplates_X5_intAt : GoodIn wsX0_readTemplates (wsV RX0 92 RX5 yX5_intAt wsX5_intAt) := goodIn_app (goodIn_m (mem_cA (List.mem_cons_of_mem _ (List.mem_append_left _ (List.mem_append_left _ (List.mem_append_left _ (List.mem_append_left _ (List.mem_append_left _ (List.mem_of_getElem? (i := 3) rfl))))))) (mem_cA (List.mem_cons_of_mem _ (List.mem_append_left _ (List.mem_append_left _ (List.mem_append_left _ (List.mem_append_left _ (List.mem_append_left _ (List.mem_of_getElem? (i := 4) rfl))))))) (mem_cA (List.mem_cons_of_mem _ (List.mem_append_left _ (List.mem_append_left _ (List.mem_append_left _ (List.mem_append_left _ (List.mem_append_left _ (List.mem_of_getElem? (i := 5) rfl))))))) (mem_cA (List.mem_cons_of_mem _ (List.mem_append_left _ (List.mem_append_left _ (List.mem_append_left _ (List.mem_append_left _ (List.mem_append_left _ (List.mem_of_getElem? (i := 6) rfl))))))) mem_cZ)))) (by decide +kernel)) ggX0_readTemplates_X5_intAt
set_option maxRecDepth 20000 in
theorem ggX0_readTemplates_X0_readCandidate : GoodIn wsX0_readTemplates wsX0_readCandidate := goodIn_ca ((goodIn_ca (goodIn_ca (goodIn_ca (goodIn_r _ [19, 2, 20, 21, 22, 23, 24, 25, 26, 27, 28, 4, 5, 6, 7, 8, 9, 10, 11, 12, 13, 14, 29, 30, 31, 32, 33, 34, 35, 36, 37, 38, 39, 40, 41] rfl (by decide +kernel)) (goodIn_sub (fun _ h => List.mem_cons_of_mem _ (List.mem_append_left _ (List.mem_append_left _ (List.mem_append_left _ (List.mem_append_right _ h))))) gw_wsX00)) (goodIn_sub (fun _ h => List.mem_cons_of_mem _ (List.mem_append_left _ (List.mem_append_right _ h))) gw_wsX100)) (goodIn_sub (fun _ h => List.mem_cons_of_mem _ (List.mem_append_left _ (List.mem_append_left _ (List.mem_append_right _ h)))) gw_wsX50))) (goodIn_sub (fun _ h => List.mem_cons_of_mem _ (List.mem_append_right _ h)) (all_fg _))
set_option maxRecDepth 20000 in
theorem gX0_readTemplates_X0_readCandidate : GoodIn wsX0_readTemplates (wsV RX0 126 RX0 yX0_readCandidate wsX0_readCandidate) := goodIn_app (goodIn_m (mem_cA (List.mem_cons_of_mem _ (List.mem_append_left _ (List.mem_append_left _ (List.mem_append_left _ (List.mem_append_left _ (List.mem_append_left _ (List.mem_of_getElem? (i := 14) rfl))))))) (mem_cA (List.mem_cons_of_mem _ (List.mem_append_left _ (List.mem_append_left _ (List.mem_append_left _ (List.mem_append_left _ (List.mem_append_left _ (List.mem_of_getElem? (i := 15) rfl))))))) (mem_cA (List.mem_cons_of_mem _ (List.mem_append_left _ (List.mem_append_left _ (List.mem_append_left _ (List.mem_append_left _ (List.mem_append_left _ (List.mem_of_getElem? (i := 16) rfl))))))) (mem_cA (List.mem_cons_of_mem _ (List.mem_append_left _ (List.mem_append_left _ (List.mem_append_left _ (List.mem_append_left _ (List.mem_append_left _ (List.mem_of_getElem? (i := 17) rfl))))))) mem_cZ)))) (by decide +kernel)) ggX0_readTemplates_X0_readCandidate
set_option maxRecDepth 20000 in
theorem ggX0_readTemplates_X10_copyFrom : GoodIn wsX0_readTemplates wsX10_copyFrom := goodIn_ca ((goodIn_ca (goodIn_r _ [45, 26, 46, 22, 23, 24, 25, 27, 28, 47, 48, 49, 50, 41, 51, 38, 39, 40] rfl (by decide +kernel)) (goodIn_sub (fun _ h => List.mem_cons_of_mem _ (List.mem_append_left _ (List.mem_append_right _ h))) gw_wsX100))) (goodIn_sub (fun _ h => List.mem_cons_of_mem _ (List.mem_append_right _ h)) (all_fg _))
set_option maxRecDepth 20000 in
theorem gX0_readTemplates_X10_copyFrom : GoodIn wsX0_readTemplates (wsV RX0 130 RX10 yX10_copyFrom wsX10_copyFrom) := goodIn_app (goodIn_m (mem_cA (List.mem_cons_of_mem _ (List.mem_append_left _ (List.mem_append_left _ (List.mem_append_left _ (List.mem_append_left _ (List.mem_append_right _ (List.mem_append_left _ (List.mem_of_getElem? (i := 17) rfl)))))))) (mem_cA (List.mem_cons_of_mem _ (List.mem_append_left _ (List.mem_append_left _ (List.mem_append_left _ (List.mem_append_left _ (List.mem_append_right _ (List.mem_append_left _ (List.mem_of_getElem? (i := 18) rfl)))))))) (mem_cA (List.mem_cons_of_mem _ (List.mem_append_left _ (List.mem_append_left _ (List.mem_append_left _ (List.mem_append_left _ (List.mem_append_right _ (List.mem_append_left _ (List.mem_of_getElem? (i := 19) rfl)))))))) (mem_cA (List.mem_cons_of_mem _ (List.mem_append_left _ (List.mem_append_left _ (List.mem_append_left _ (List.mem_append_left _ (List.mem_append_left _ (List.mem_of_getElem? (i := 23) rfl))))))) mem_cZ)))) (by decide +kernel)) ggX0_readTemplates_X10_copyFrom
theorem dX0_readTemplates_0 : decode cX0_readTemplates 0 = .ok (.iload_n 2, 1) := by decide +kernel
theorem dX0_readTemplates_1 : decode cX0_readTemplates 1 = .ok (.istore 5, 2) := by decide +kernel
theorem dX0_readTemplates_3 : decode cX0_readTemplates 3 = .ok (.iconst 0, 1) := by decide +kernel
theorem dX0_readTemplates_4 : decode cX0_readTemplates 4 = .ok (.istore 6, 2) := by decide +kernel
theorem dX0_readTemplates_6 : decode cX0_readTemplates 6 = .ok (.iload 6, 2) := by decide +kernel
theorem dX0_readTemplates_8 : decode cX0_readTemplates 8 = .ok (.sipush 700, 3) := by decide +kernel
theorem dX0_readTemplates_11 : decode cX0_readTemplates 11 = .ok (.if_icmp .gt 115, 3) := by decide +kernel
theorem dX0_readTemplates_14 : decode cX0_readTemplates 14 = .ok (.iload_n 3, 1) := by decide +kernel
theorem dX0_readTemplates_15 : decode cX0_readTemplates 15 = .ok (.iload 5, 2) := by decide +kernel
theorem dX0_readTemplates_17 : decode cX0_readTemplates 17 = .ok (.isub, 1) := by decide +kernel
theorem dX0_readTemplates_18 : decode cX0_readTemplates 18 = .ok (.iconst 4, 1) := by decide +kernel
theorem dX0_readTemplates_19 : decode cX0_readTemplates 19 = .ok (.if_icmp .lt 107, 3) := by decide +kernel
theorem dX0_readTemplates_22 : decode cX0_readTemplates 22 = .ok (.aload_n 1, 1) := by decide +kernel
theorem dX0_readTemplates_23 : decode cX0_readTemplates 23 = .ok (.iload 5, 2) := by decide +kernel
theorem dX0_readTemplates_25 : decode cX0_readTemplates 25 = .ok (.iconst 2, 1) := by decide +kernel
theorem dX0_readTemplates_26 : decode cX0_readTemplates 26 = .ok (.invokevirtual 92, 3) := by decide +kernel
theorem dX0_readTemplates_29 : decode cX0_readTemplates 29 = .ok (.sipush 256, 3) := by decide +kernel
theorem dX0_readTemplates_32 : decode cX0_readTemplates 32 = .ok (.isub, 1) := by decide +kernel
theorem dX0_readTemplates_33 : decode cX0_readTemplates 33 = .ok (.istore 7, 2) := by decide +kernel
theorem dX0_readTemplates_35 : decode cX0_readTemplates 35 = .ok (.aload_n 1, 1) := by decide +kernel
theorem dX0_readTemplates_36 : decode cX0_readTemplates 36 = .ok (.iload 5, 2) := by decide +kernel
theorem dX0_readTemplates_38 : decode cX0_readTemplates 38 = .ok (.iconst 2, 1) := by decide +kernel
theorem dX0_readTemplates_39 : decode cX0_readTemplates 39 = .ok (.iadd, 1) := by decide +kernel
theorem dX0_readTemplates_40 : decode cX0_readTemplates 40 = .ok (.iconst 2, 1) := by decide +kernel
theorem dX0_readTemplates_41 : decode cX0_readTemplates 41 = .ok (.invokevirtual 92, 3) := by decide +kernel
theorem dX0_readTemplates_44 : decode cX0_readTemplates 44 = .ok (.istore 8, 2) := by decide +kernel
theorem dX0_readTemplates_46 : decode cX0_readTemplates 46 = .ok (.iinc 5 4, 3) := by decide +kernel
theorem dX0_readTemplates_49 : decode cX0_readTemplates 49 = .ok (.iload 7, 2) := by decide +kernel
theorem dX0_readTemplates_51 : decode cX0_readTemplates 51 = .ok (.ifCond .lt 20, 3) := by decide +kernel
theorem dX0_readTemplates_54 : decode cX0_readTemplates 54 = .ok (.iload 7, 2) := by decide +kernel
theorem dX0_readTemplates_56 : decode cX0_readTemplates 56 = .ok (.iconst 4, 1) := by decide +kernel
theorem dX0_readTemplates_57 : decode cX0_readTemplates 57 = .ok (.if_icmp .ge 14, 3) := by decide +kernel
theorem dX0_readTemplates_60 : decode cX0_readTemplates 60 = .ok (.iconst 4, 1) := by decide +kernel
theorem dX0_readTemplates_61 : decode cX0_readTemplates 61 = .ok (.iload 8, 2) := by decide +kernel
theorem dX0_readTemplates_63 : decode cX0_readTemplates 63 = .ok (.imul, 1) := by decide +kernel
theorem dX0_readTemplates_64 : decode cX0_readTemplates 64 = .ok (.iload_n 3, 1) := by decide +kernel
theorem dX0_readTemplates_65 : decode cX0_readTemplates 65 = .ok (.iload 5, 2) := by decide +kernel
theorem dX0_readTemplates_67 : decode cX0_readTemplates 67 = .ok (.isub, 1) := by decide +kernel
theorem dX0_readTemplates_68 : decode cX0_readTemplates 68 = .ok (.if_icmp .le 4, 3) := by decide +kernel
theorem dX0_readTemplates_71 : decode cX0_readTemplates 71 = .ok (.return_, 1) := by decide +kernel
theorem dX0_readTemplates_72 : decode cX0_readTemplates 72 = .ok (.aload_n 0, 1) := by decide +kernel
theorem dX0_readTemplates_73 : decode cX0_readTemplates 73 = .ok (.aload_n 1, 1) := by decide +kernel
theorem dX0_readTemplates_74 : decode cX0_readTemplates 74 = .ok (.iload 5, 2) := by decide +kernel
theorem dX0_readTemplates_76 : decode cX0_readTemplates 76 = .ok (.iload 8, 2) := by decide +kernel
theorem dX0_readTemplates_78 : decode cX0_readTemplates 78 = .ok (.invokevirtual 126, 3) := by decide +kernel
theorem dX0_readTemplates_81 : decode cX0_readTemplates 81 = .ok (.ifCond .ne 4, 3) := by decide +kernel
theorem dX0_readTemplates_84 : decode cX0_readTemplates 84 = .ok (.return_, 1) := by decide +kernel
theorem dX0_readTemplates_85 : decode cX0_readTemplates 85 = .ok (.aload_n 0, 1) := by decide +kernel
theorem dX0_readTemplates_86 : decode cX0_readTemplates 86 = .ok (.getfield 11, 3) := by decide +kernel
theorem dX0_readTemplates_89 : decode cX0_readTemplates 89 = .ok (.iload 7, 2) := by decide +kernel
theorem dX0_readTemplates_91 : decode cX0_readTemplates 91 = .ok (.aaload, 1) := by decide +kernel
theorem dX0_readTemplates_92 : decode cX0_readTemplates 92 = .ok (.aload_n 0, 1) := by decide +kernel
theorem dX0_readTemplates_93 : decode cX0_readTemplates 93 = .ok (.getfield 22, 3) := by decide +kernel
theorem dX0_readTemplates_96 : decode cX0_readTemplates 96 = .ok (.sipush 511, 3) := by decide +kernel
theorem dX0_readTemplates_99 : decode cX0_readTemplates 99 = .ok (.invokevirtual 130, 3) := by decide +kernel
theorem dX0_readTemplates_102 : decode cX0_readTemplates 102 = .ok (.aload_n 0, 1) := by decide +kernel
theorem dX0_readTemplates_103 : decode cX0_readTemplates 103 = .ok (.getfield 17, 3) := by decide +kernel
theorem dX0_readTemplates_106 : decode cX0_readTemplates 106 = .ok (.iload 7, 2) := by decide +kernel
theorem dX0_readTemplates_108 : decode cX0_readTemplates 108 = .ok (.iload 4, 2) := by decide +kernel
theorem dX0_readTemplates_110 : decode cX0_readTemplates 110 = .ok (.iastore, 1) := by decide +kernel
theorem dX0_readTemplates_111 : decode cX0_readTemplates 111 = .ok (.iload 5, 2) := by decide +kernel
theorem dX0_readTemplates_113 : decode cX0_readTemplates 113 = .ok (.iconst 4, 1) := by decide +kernel
theorem dX0_readTemplates_114 : decode cX0_readTemplates 114 = .ok (.iload 8, 2) := by decide +kernel
theorem dX0_readTemplates_116 : decode cX0_readTemplates 116 = .ok (.imul, 1) := by decide +kernel
theorem dX0_readTemplates_117 : decode cX0_readTemplates 117 = .ok (.iadd, 1) := by decide +kernel
theorem dX0_readTemplates_118 : decode cX0_readTemplates 118 = .ok (.istore 5, 2) := by decide +kernel
theorem dX0_readTemplates_120 : decode cX0_readTemplates 120 = .ok (.iinc 6 1, 3) := by decide +kernel
theorem dX0_readTemplates_123 : decode cX0_readTemplates 123 = .ok (.goto (-117), 3) := by decide +kernel
theorem dX0_readTemplates_126 : decode cX0_readTemplates 126 = .ok (.return_, 1) := by decide +kernel
set_option maxRecDepth 20000 in
theorem ggX0_readCandidate_X10_clear : GoodIn wsX0_readCandidate wsX10_clear := (goodIn_ca (goodIn_r _ [7, 8, 9, 10] rfl (by decide +kernel)) (goodIn_sub (fun _ h => List.mem_cons_of_mem _ (List.mem_append_left _ (List.mem_append_left _ (List.mem_append_right _ h)))) gw_wsX100))
set_option maxRecDepth 20000 in
theorem gX0_readCandidate_X10_clear : GoodIn wsX0_readCandidate (wsV RX0 70 RX10 yX10_clear wsX10_clear) := goodIn_app (goodIn_m (mem_cA (List.mem_cons_of_mem _ (List.mem_append_left _ (List.mem_append_left _ (List.mem_append_left _ (List.mem_append_left _ (List.mem_append_left _ (List.mem_of_getElem? (i := 2) rfl))))))) (mem_cA (List.mem_cons_of_mem _ (List.mem_append_left _ (List.mem_append_left _ (List.mem_append_left _ (List.mem_append_left _ (List.mem_append_left _ (List.mem_of_getElem? (i := 3) rfl))))))) (mem_cA (List.mem_cons_of_mem _ (List.mem_append_left _ (List.mem_append_left _ (List.mem_append_left _ (List.mem_append_left _ (List.mem_append_left _ (List.mem_of_getElem? (i := 4) rfl))))))) (mem_cA (List.mem_cons_of_mem _ (List.mem_append_left _ (List.mem_append_left _ (List.mem_append_left _ (List.mem_append_left _ (List.mem_append_left _ (List.mem_of_getElem? (i := 5) rfl))))))) mem_cZ)))) (by decide +kernel)) ggX0_readCandidate_X10_clear
set_option maxRecDepth 20000 in
theorem ggX0_readCandidate_X5_intAt : GoodIn wsX0_readCandidate wsX5_intAt := goodIn_ca ((goodIn_ca (goodIn_r _ [15, 16, 17, 18, 14, 19, 20, 21] rfl (by decide +kernel)) (goodIn_sub (fun _ h => List.mem_cons_of_mem _ (List.mem_append_left _ (List.mem_append_right _ h))) gw_wsX50))) (goodIn_sub (fun _ h => List.mem_cons_of_mem _ (List.mem_append_right _ h)) (all_fg _))
set_option maxRecDepth 20000 in
theorem gX0_readCandidate_X5_intAt : GoodIn wsX0_readCandidate (wsV RX0 92 RX5 yX5_intAt wsX5_intAt) := goodIn_app (goodIn_m (mem_cA (List.mem_cons_of_mem _ (List.mem_append_left _ (List.mem_append_left _ (List.mem_append_left _ (List.mem_append_left _ (List.mem_append_left _ (List.mem_of_getElem? (i := 10) rfl))))))) (mem_cA (List.mem_cons_of_mem _ (List.mem_append_left _ (List.mem_append_left _ (List.mem_append_left _ (List.mem_append_left _ (List.mem_append_left _ (List.mem_of_getElem? (i := 11) rfl))))))) (mem_cA (List.mem_cons_of_mem _ (List.mem_append_left _ (List.mem_append_left _ (List.mem_append_left _ (List.mem_append_left _ (List.mem_append_left _ (List.mem_of_getElem? (i := 12) rfl))))))) (mem_cA (List.mem_cons_of_mem _ (List.mem_append_left _ (List.mem_append_left _ (List.mem_append_left _ (List.mem_append_left _ (List.mem_append_left _ (List.mem_of_getElem? (i := 13) rfl))))))) mem_cZ)))) (by decide +kernel)) ggX0_readCandidate_X5_intAt
set_option maxRecDepth 20000 in
theorem ggX0_readCandidate_X11_lengthOf : GoodIn wsX0_readCandidate wsX11_lengthOf := goodIn_ca ((goodIn_r _ [24, 25] rfl (by decide +kernel))) (goodIn_sub (fun _ h => List.mem_cons_of_mem _ (List.mem_append_right _ h)) (all_fg _))
set_option maxRecDepth 20000 in
theorem gX0_readCandidate_X11_lengthOf_n134 : GoodIn wsX0_readCandidate (wsX11_lengthOf) := ggX0_readCandidate_X11_lengthOf
set_option maxRecDepth 20000 in
theorem ggX0_readCandidate_X10_has : GoodIn wsX0_readCandidate wsX10_has := (goodIn_ca (goodIn_r _ [29, 9] rfl (by decide +kernel)) (goodIn_sub (fun _ h => List.mem_cons_of_mem _ (List.mem_append_left _ (List.mem_append_left _ (List.mem_append_right _ h)))) gw_wsX100))
set_option maxRecDepth 20000 in
theorem gX0_readCandidate_X10_has : GoodIn wsX0_readCandidate (wsV RX0 137 RX10 yX10_has wsX10_has) := goodIn_app (goodIn_m (mem_cA (List.mem_cons_of_mem _ (List.mem_append_left _ (List.mem_append_left _ (List.mem_append_left _ (List.mem_append_left _ (List.mem_append_right _ (List.mem_of_getElem? (i := 1) rfl))))))) (mem_cA (List.mem_cons_of_mem _ (List.mem_append_left _ (List.mem_append_left _ (List.mem_append_left _ (List.mem_append_left _ (List.mem_append_right _ (List.mem_of_getElem? (i := 2) rfl))))))) (mem_cA (List.mem_cons_of_mem _ (List.mem_append_left _ (List.mem_append_left _ (List.mem_append_left _ (List.mem_append_left _ (List.mem_append_right _ (List.mem_of_getElem? (i := 3) rfl))))))) (mem_cA (List.mem_cons_of_mem _ (List.mem_append_left _ (List.mem_append_left _ (List.mem_append_left _ (List.mem_append_left _ (List.mem_append_left _ (List.mem_of_getElem? (i := 5) rfl))))))) mem_cZ)))) (by decide +kernel)) ggX0_readCandidate_X10_has
set_option maxRecDepth 20000 in
theorem ggX0_readCandidate_X10_addField : GoodIn wsX0_readCandidate wsX10_addField := goodIn_ca ((goodIn_ca (goodIn_r _ [33, 8, 9, 34, 10] rfl (by decide +kernel)) (goodIn_sub (fun _ h => List.mem_cons_of_mem _ (List.mem_append_left _ (List.mem_append_left _ (List.mem_append_right _ h)))) gw_wsX100))) (goodIn_sub (fun _ h => List.mem_cons_of_mem _ (List.mem_append_right _ h)) (all_fg _))
set_option maxRecDepth 20000 in
theorem gX0_readCandidate_X10_addField : GoodIn wsX0_readCandidate (wsV RX0 141 RX10 yX10_addField wsX10_addField) := goodIn_app (goodIn_m (mem_cA (List.mem_cons_of_mem _ (List.mem_append_left _ (List.mem_append_left _ (List.mem_append_left _ (List.mem_append_left _ (List.mem_append_right _ (List.mem_of_getElem? (i := 5) rfl))))))) (mem_cA (List.mem_cons_of_mem _ (List.mem_append_left _ (List.mem_append_left _ (List.mem_append_left _ (List.mem_append_left _ (List.mem_append_right _ (List.mem_of_getElem? (i := 6) rfl))))))) (mem_cA (List.mem_cons_of_mem _ (List.mem_append_left _ (List.mem_append_left _ (List.mem_append_left _ (List.mem_append_left _ (List.mem_append_right _ (List.mem_of_getElem? (i := 7) rfl))))))) (mem_cA (List.mem_cons_of_mem _ (List.mem_append_left _ (List.mem_append_left _ (List.mem_append_left _ (List.mem_append_left _ (List.mem_append_left _ (List.mem_of_getElem? (i := 5) rfl))))))) mem_cZ)))) (by decide +kernel)) ggX0_readCandidate_X10_addField
theorem dX0_readCandidate_0 : decode cX0_readCandidate 0 = .ok (.aload_n 0, 1) := by decide +kernel
theorem dX0_readCandidate_1 : decode cX0_readCandidate 1 = .ok (.getfield 22, 3) := by decide +kernel
theorem dX0_readCandidate_4 : decode cX0_readCandidate 4 = .ok (.invokevirtual 70, 3) := by decide +kernel
theorem dX0_readCandidate_7 : decode cX0_readCandidate 7 = .ok (.iconst 0, 1) := by decide +kernel
theorem dX0_readCandidate_8 : decode cX0_readCandidate 8 = .ok (.istore 4, 2) := by decide +kernel
theorem dX0_readCandidate_10 : decode cX0_readCandidate 10 = .ok (.iload 4, 2) := by decide +kernel
theorem dX0_readCandidate_12 : decode cX0_readCandidate 12 = .ok (.iload_n 3, 1) := by decide +kernel
theorem dX0_readCandidate_13 : decode cX0_readCandidate 13 = .ok (.if_icmp .ge 77, 3) := by decide +kernel
theorem dX0_readCandidate_16 : decode cX0_readCandidate 16 = .ok (.aload_n 1, 1) := by decide +kernel
theorem dX0_readCandidate_17 : decode cX0_readCandidate 17 = .ok (.iload_n 2, 1) := by decide +kernel
theorem dX0_readCandidate_18 : decode cX0_readCandidate 18 = .ok (.iconst 4, 1) := by decide +kernel
theorem dX0_readCandidate_19 : decode cX0_readCandidate 19 = .ok (.iload 4, 2) := by decide +kernel
theorem dX0_readCandidate_21 : decode cX0_readCandidate 21 = .ok (.imul, 1) := by decide +kernel
theorem dX0_readCandidate_22 : decode cX0_readCandidate 22 = .ok (.iadd, 1) := by decide +kernel
theorem dX0_readCandidate_23 : decode cX0_readCandidate 23 = .ok (.iconst 2, 1) := by decide +kernel
theorem dX0_readCandidate_24 : decode cX0_readCandidate 24 = .ok (.invokevirtual 92, 3) := by decide +kernel
theorem dX0_readCandidate_27 : decode cX0_readCandidate 27 = .ok (.istore 5, 2) := by decide +kernel
theorem dX0_readCandidate_29 : decode cX0_readCandidate 29 = .ok (.aload_n 1, 1) := by decide +kernel
theorem dX0_readCandidate_30 : decode cX0_readCandidate 30 = .ok (.iload_n 2, 1) := by decide +kernel
theorem dX0_readCandidate_31 : decode cX0_readCandidate 31 = .ok (.iconst 4, 1) := by decide +kernel
theorem dX0_readCandidate_32 : decode cX0_readCandidate 32 = .ok (.iload 4, 2) := by decide +kernel
theorem dX0_readCandidate_34 : decode cX0_readCandidate 34 = .ok (.imul, 1) := by decide +kernel
theorem dX0_readCandidate_35 : decode cX0_readCandidate 35 = .ok (.iadd, 1) := by decide +kernel
theorem dX0_readCandidate_36 : decode cX0_readCandidate 36 = .ok (.iconst 2, 1) := by decide +kernel
theorem dX0_readCandidate_37 : decode cX0_readCandidate 37 = .ok (.iadd, 1) := by decide +kernel
theorem dX0_readCandidate_38 : decode cX0_readCandidate 38 = .ok (.iconst 2, 1) := by decide +kernel
theorem dX0_readCandidate_39 : decode cX0_readCandidate 39 = .ok (.invokevirtual 92, 3) := by decide +kernel
theorem dX0_readCandidate_42 : decode cX0_readCandidate 42 = .ok (.istore 6, 2) := by decide +kernel
theorem dX0_readCandidate_44 : decode cX0_readCandidate 44 = .ok (.iload 5, 2) := by decide +kernel
theorem dX0_readCandidate_46 : decode cX0_readCandidate 46 = .ok (.bipush 9, 2) := by decide +kernel
theorem dX0_readCandidate_48 : decode cX0_readCandidate 48 = .ok (.if_icmp .ge 25, 3) := by decide +kernel
theorem dX0_readCandidate_51 : decode cX0_readCandidate 51 = .ok (.iload 6, 2) := by decide +kernel
theorem dX0_readCandidate_53 : decode cX0_readCandidate 53 = .ok (.iload 5, 2) := by decide +kernel
theorem dX0_readCandidate_55 : decode cX0_readCandidate 55 = .ok (.invokestatic 134, 3) := by decide +kernel
theorem dX0_readCandidate_58 : decode cX0_readCandidate 58 = .ok (.if_icmp .ne 15, 3) := by decide +kernel
theorem dX0_readCandidate_61 : decode cX0_readCandidate 61 = .ok (.aload_n 0, 1) := by decide +kernel
theorem dX0_readCandidate_62 : decode cX0_readCandidate 62 = .ok (.getfield 22, 3) := by decide +kernel
theorem dX0_readCandidate_65 : decode cX0_readCandidate 65 = .ok (.iload 5, 2) := by decide +kernel
theorem dX0_readCandidate_67 : decode cX0_readCandidate 67 = .ok (.invokevirtual 137, 3) := by decide +kernel
theorem dX0_readCandidate_70 : decode cX0_readCandidate 70 = .ok (.ifCond .eq 5, 3) := by decide +kernel
theorem dX0_readCandidate_73 : decode cX0_readCandidate 73 = .ok (.iconst 0, 1) := by decide +kernel
theorem dX0_readCandidate_74 : decode cX0_readCandidate 74 = .ok (.ireturn, 1) := by decide +kernel
theorem dX0_readCandidate_75 : decode cX0_readCandidate 75 = .ok (.aload_n 0, 1) := by decide +kernel
theorem dX0_readCandidate_76 : decode cX0_readCandidate 76 = .ok (.getfield 22, 3) := by decide +kernel
theorem dX0_readCandidate_79 : decode cX0_readCandidate 79 = .ok (.iload 5, 2) := by decide +kernel
theorem dX0_readCandidate_81 : decode cX0_readCandidate 81 = .ok (.invokevirtual 141, 3) := by decide +kernel
theorem dX0_readCandidate_84 : decode cX0_readCandidate 84 = .ok (.iinc 4 1, 3) := by decide +kernel
theorem dX0_readCandidate_87 : decode cX0_readCandidate 87 = .ok (.goto (-77), 3) := by decide +kernel
theorem dX0_readCandidate_90 : decode cX0_readCandidate 90 = .ok (.aload_n 0, 1) := by decide +kernel
theorem dX0_readCandidate_91 : decode cX0_readCandidate 91 = .ok (.getfield 22, 3) := by decide +kernel
theorem dX0_readCandidate_94 : decode cX0_readCandidate 94 = .ok (.getfield 67, 3) := by decide +kernel
theorem dX0_readCandidate_97 : decode cX0_readCandidate 97 = .ok (.ifCond .le 7, 3) := by decide +kernel
theorem dX0_readCandidate_100 : decode cX0_readCandidate 100 = .ok (.iconst 1, 1) := by decide +kernel
theorem dX0_readCandidate_101 : decode cX0_readCandidate 101 = .ok (.goto 4, 3) := by decide +kernel
theorem dX0_readCandidate_104 : decode cX0_readCandidate 104 = .ok (.iconst 0, 1) := by decide +kernel
theorem dX0_readCandidate_105 : decode cX0_readCandidate 105 = .ok (.ireturn, 1) := by decide +kernel
theorem dX0_rateOfBits_0 : decode cX0_rateOfBits 0 = .ok (.iload_n 0, 1) := by decide +kernel
theorem dX0_rateOfBits_1 : decode cX0_rateOfBits 1 = .ok (.ifCond .le 9, 3) := by decide +kernel
theorem dX0_rateOfBits_4 : decode cX0_rateOfBits 4 = .ok (.iload_n 0, 1) := by decide +kernel
theorem dX0_rateOfBits_5 : decode cX0_rateOfBits 5 = .ok (.ldc 181, 2) := by decide +kernel
theorem dX0_rateOfBits_7 : decode cX0_rateOfBits 7 = .ok (.if_icmp .le 5, 3) := by decide +kernel
theorem dX0_rateOfBits_10 : decode cX0_rateOfBits 10 = .ok (.iload_n 1, 1) := by decide +kernel
theorem dX0_rateOfBits_11 : decode cX0_rateOfBits 11 = .ok (.ireturn, 1) := by decide +kernel
theorem dX0_rateOfBits_12 : decode cX0_rateOfBits 12 = .ok (.iload_n 0, 1) := by decide +kernel
theorem dX0_rateOfBits_13 : decode cX0_rateOfBits 13 = .ok (.bipush 23, 2) := by decide +kernel
theorem dX0_rateOfBits_15 : decode cX0_rateOfBits 15 = .ok (.ishr, 1) := by decide +kernel
theorem dX0_rateOfBits_16 : decode cX0_rateOfBits 16 = .ok (.istore_n 2, 1) := by decide +kernel
theorem dX0_rateOfBits_17 : decode cX0_rateOfBits 17 = .ok (.iload_n 2, 1) := by decide +kernel
theorem dX0_rateOfBits_18 : decode cX0_rateOfBits 18 = .ok (.bipush 117, 2) := by decide +kernel
theorem dX0_rateOfBits_20 : decode cX0_rateOfBits 20 = .ok (.if_icmp .ge 7, 3) := by decide +kernel
theorem dX0_rateOfBits_23 : decode cX0_rateOfBits 23 = .ok (.sipush 1024, 3) := by decide +kernel
theorem dX0_rateOfBits_26 : decode cX0_rateOfBits 26 = .ok (.ireturn, 1) := by decide +kernel
theorem dX0_rateOfBits_27 : decode cX0_rateOfBits 27 = .ok (.iload_n 0, 1) := by decide +kernel
theorem dX0_rateOfBits_28 : decode cX0_rateOfBits 28 = .ok (.ldc 182, 2) := by decide +kernel
theorem dX0_rateOfBits_30 : decode cX0_rateOfBits 30 = .ok (.iand, 1) := by decide +kernel
theorem dX0_rateOfBits_31 : decode cX0_rateOfBits 31 = .ok (.ldc 183, 2) := by decide +kernel
theorem dX0_rateOfBits_33 : decode cX0_rateOfBits 33 = .ok (.ior, 1) := by decide +kernel
theorem dX0_rateOfBits_34 : decode cX0_rateOfBits 34 = .ok (.istore_n 3, 1) := by decide +kernel
theorem dX0_rateOfBits_35 : decode cX0_rateOfBits 35 = .ok (.iload_n 3, 1) := by decide +kernel
theorem dX0_rateOfBits_36 : decode cX0_rateOfBits 36 = .ok (.i2f, 1) := by decide +kernel
theorem dX0_rateOfBits_37 : decode cX0_rateOfBits 37 = .ok (.lconst 1, 1) := by decide +kernel
theorem dX0_rateOfBits_38 : decode cX0_rateOfBits 38 = .ok (.sipush 150, 3) := by decide +kernel
theorem dX0_rateOfBits_41 : decode cX0_rateOfBits 41 = .ok (.iload_n 2, 1) := by decide +kernel
theorem dX0_rateOfBits_42 : decode cX0_rateOfBits 42 = .ok (.isub, 1) := by decide +kernel
theorem dX0_rateOfBits_43 : decode cX0_rateOfBits 43 = .ok (.lshl, 1) := by decide +kernel
theorem dX0_rateOfBits_44 : decode cX0_rateOfBits 44 = .ok (.l2f, 1) := by decide +kernel
theorem dX0_rateOfBits_45 : decode cX0_rateOfBits 45 = .ok (.fdiv, 1) := by decide +kernel
theorem dX0_rateOfBits_46 : decode cX0_rateOfBits 46 = .ok (.fstore 4, 2) := by decide +kernel
theorem dX0_rateOfBits_48 : decode cX0_rateOfBits 48 = .ok (.fload 4, 2) := by decide +kernel
theorem dX0_rateOfBits_50 : decode cX0_rateOfBits 50 = .ok (.fconst 0, 1) := by decide +kernel
theorem dX0_rateOfBits_51 : decode cX0_rateOfBits 51 = .ok (.fcmp .l, 1) := by decide +kernel
theorem dX0_rateOfBits_52 : decode cX0_rateOfBits 52 = .ok (.ifCond .le 20, 3) := by decide +kernel
theorem dX0_rateOfBits_55 : decode cX0_rateOfBits 55 = .ok (.sipush 1024, 3) := by decide +kernel
theorem dX0_rateOfBits_58 : decode cX0_rateOfBits 58 = .ok (.fconst 1, 1) := by decide +kernel
theorem dX0_rateOfBits_59 : decode cX0_rateOfBits 59 = .ok (.fload 4, 2) := by decide +kernel
theorem dX0_rateOfBits_61 : decode cX0_rateOfBits 61 = .ok (.fdiv, 1) := by decide +kernel
theorem dX0_rateOfBits_62 : decode cX0_rateOfBits 62 = .ok (.ldc 184, 2) := by decide +kernel
theorem dX0_rateOfBits_64 : decode cX0_rateOfBits 64 = .ok (.fadd, 1) := by decide +kernel
theorem dX0_rateOfBits_65 : decode cX0_rateOfBits 65 = .ok (.f2i, 1) := by decide +kernel
theorem dX0_rateOfBits_66 : decode cX0_rateOfBits 66 = .ok (.invokestatic 185, 3) := by decide +kernel
theorem dX0_rateOfBits_69 : decode cX0_rateOfBits 69 = .ok (.goto 4, 3) := by decide +kernel
theorem dX0_rateOfBits_72 : decode cX0_rateOfBits 72 = .ok (.iload_n 1, 1) := by decide +kernel
theorem dX0_rateOfBits_73 : decode cX0_rateOfBits 73 = .ok (.ireturn, 1) := by decide +kernel
theorem dX3_keyOf_0 : decode cX3_keyOf 0 = .ok (.iload_n 0, 1) := by decide +kernel
theorem dX3_keyOf_1 : decode cX3_keyOf 1 = .ok (.ifCond .lt 21, 3) := by decide +kernel
theorem dX3_keyOf_4 : decode cX3_keyOf 4 = .ok (.iload_n 0, 1) := by decide +kernel
theorem dX3_keyOf_5 : decode cX3_keyOf 5 = .ok (.sipush 255, 3) := by decide +kernel
theorem dX3_keyOf_8 : decode cX3_keyOf 8 = .ok (.if_icmp .gt 14, 3) := by decide +kernel
theorem dX3_keyOf_11 : decode cX3_keyOf 11 = .ok (.iload_n 1, 1) := by decide +kernel
theorem dX3_keyOf_12 : decode cX3_keyOf 12 = .ok (.ifCond .lt 10, 3) := by decide +kernel
theorem dX3_keyOf_15 : decode cX3_keyOf 15 = .ok (.iload_n 1, 1) := by decide +kernel
theorem dX3_keyOf_16 : decode cX3_keyOf 16 = .ok (.sipush 255, 3) := by decide +kernel
theorem dX3_keyOf_19 : decode cX3_keyOf 19 = .ok (.if_icmp .le 7, 3) := by decide +kernel
theorem dX3_keyOf_22 : decode cX3_keyOf 22 = .ok (.ldc2_w 28, 3) := by decide +kernel
theorem dX3_keyOf_25 : decode cX3_keyOf 25 = .ok (.lreturn, 1) := by decide +kernel
theorem dX3_keyOf_26 : decode cX3_keyOf 26 = .ok (.iload_n 2, 1) := by decide +kernel
theorem dX3_keyOf_27 : decode cX3_keyOf 27 = .ok (.ifCond .lt 20, 3) := by decide +kernel
theorem dX3_keyOf_30 : decode cX3_keyOf 30 = .ok (.iload_n 2, 1) := by decide +kernel
theorem dX3_keyOf_31 : decode cX3_keyOf 31 = .ok (.ldc 30, 2) := by decide +kernel
theorem dX3_keyOf_33 : decode cX3_keyOf 33 = .ok (.if_icmp .gt 14, 3) := by decide +kernel
theorem dX3_keyOf_36 : decode cX3_keyOf 36 = .ok (.iload_n 3, 1) := by decide +kernel
theorem dX3_keyOf_37 : decode cX3_keyOf 37 = .ok (.ifCond .lt 10, 3) := by decide +kernel
theorem dX3_keyOf_40 : decode cX3_keyOf 40 = .ok (.iload_n 3, 1) := by decide +kernel
theorem dX3_keyOf_41 : decode cX3_keyOf 41 = .ok (.sipush 255, 3) := by decide +kernel
theorem dX3_keyOf_44 : decode cX3_keyOf 44 = .ok (.if_icmp .le 7, 3) := by decide +kernel
theorem dX3_keyOf_47 : decode cX3_keyOf 47 = .ok (.ldc2_w 28, 3) := by decide +kernel
theorem dX3_keyOf_50 : decode cX3_keyOf 50 = .ok (.lreturn, 1) := by decide +kernel
theorem dX3_keyOf_51 : decode cX3_keyOf 51 = .ok (.iload_n 0, 1) := by decide +kernel
theorem dX3_keyOf_52 : decode cX3_keyOf 52 = .ok (.i2l, 1) := by decide +kernel
theorem dX3_keyOf_53 : decode cX3_keyOf 53 = .ok (.bipush 32, 2) := by decide +kernel
theorem dX3_keyOf_55 : decode cX3_keyOf 55 = .ok (.lshl, 1) := by decide +kernel
theorem dX3_keyOf_56 : decode cX3_keyOf 56 = .ok (.iload_n 1, 1) := by decide +kernel
theorem dX3_keyOf_57 : decode cX3_keyOf 57 = .ok (.i2l, 1) := by decide +kernel
theorem dX3_keyOf_58 : decode cX3_keyOf 58 = .ok (.bipush 24, 2) := by decide +kernel
theorem dX3_keyOf_60 : decode cX3_keyOf 60 = .ok (.lshl, 1) := by decide +kernel
theorem dX3_keyOf_61 : decode cX3_keyOf 61 = .ok (.lor, 1) := by decide +kernel
theorem dX3_keyOf_62 : decode cX3_keyOf 62 = .ok (.iload_n 2, 1) := by decide +kernel
theorem dX3_keyOf_63 : decode cX3_keyOf 63 = .ok (.i2l, 1) := by decide +kernel
theorem dX3_keyOf_64 : decode cX3_keyOf 64 = .ok (.bipush 8, 2) := by decide +kernel
theorem dX3_keyOf_66 : decode cX3_keyOf 66 = .ok (.lshl, 1) := by decide +kernel
theorem dX3_keyOf_67 : decode cX3_keyOf 67 = .ok (.lor, 1) := by decide +kernel
theorem dX3_keyOf_68 : decode cX3_keyOf 68 = .ok (.iload_n 3, 1) := by decide +kernel
theorem dX3_keyOf_69 : decode cX3_keyOf 69 = .ok (.i2l, 1) := by decide +kernel
theorem dX3_keyOf_70 : decode cX3_keyOf 70 = .ok (.lor, 1) := by decide +kernel
theorem dX3_keyOf_71 : decode cX3_keyOf 71 = .ok (.lreturn, 1) := by decide +kernel
theorem dX9_add_0 : decode cX9_add 0 = .ok (.iload_n 1, 1) := by decide +kernel
theorem dX9_add_1 : decode cX9_add 1 = .ok (.ifCond .lt 11, 3) := by decide +kernel
theorem dX9_add_4 : decode cX9_add 4 = .ok (.iload_n 1, 1) := by decide +kernel
theorem dX9_add_5 : decode cX9_add 5 = .ok (.aload_n 0, 1) := by decide +kernel
theorem dX9_add_6 : decode cX9_add 6 = .ok (.getfield 28, 3) := by decide +kernel
theorem dX9_add_9 : decode cX9_add 9 = .ok (.if_icmp .lt 4, 3) := by decide +kernel
theorem dX9_add_12 : decode cX9_add 12 = .ok (.return_, 1) := by decide +kernel
theorem dX9_add_13 : decode cX9_add 13 = .ok (.iload 6, 2) := by decide +kernel
theorem dX9_add_15 : decode cX9_add 15 = .ok (.i2d, 1) := by decide +kernel
theorem dX9_add_16 : decode cX9_add 16 = .ok (.iload 6, 2) := by decide +kernel
theorem dX9_add_18 : decode cX9_add 18 = .ok (.iconst 1, 1) := by decide +kernel
theorem dX9_add_19 : decode cX9_add 19 = .ok (.isub, 1) := by decide +kernel
theorem dX9_add_20 : decode cX9_add 20 = .ok (.i2d, 1) := by decide +kernel
theorem dX9_add_21 : decode cX9_add 21 = .ok (.dmul, 1) := by decide +kernel
theorem dX9_add_22 : decode cX9_add 22 = .ok (.dstore 7, 2) := by decide +kernel
theorem dX9_add_24 : decode cX9_add 24 = .ok (.aload_n 0, 1) := by decide +kernel
theorem dX9_add_25 : decode cX9_add 25 = .ok (.getfield 17, 3) := by decide +kernel
theorem dX9_add_28 : decode cX9_add 28 = .ok (.iconst 0, 1) := by decide +kernel
theorem dX9_add_29 : decode cX9_add 29 = .ok (.aaload, 1) := by decide +kernel
theorem dX9_add_30 : decode cX9_add 30 = .ok (.iload_n 1, 1) := by decide +kernel
theorem dX9_add_31 : decode cX9_add 31 = .ok (.dup2, 1) := by decide +kernel
theorem dX9_add_32 : decode cX9_add 32 = .ok (.laload, 1) := by decide +kernel
theorem dX9_add_33 : decode cX9_add 33 = .ok (.lload_n 2, 1) := by decide +kernel
theorem dX9_add_34 : decode cX9_add 34 = .ok (.ladd, 1) := by decide +kernel
theorem dX9_add_35 : decode cX9_add 35 = .ok (.lastore, 1) := by decide +kernel
theorem dX9_add_36 : decode cX9_add 36 = .ok (.aload_n 0, 1) := by decide +kernel
theorem dX9_add_37 : decode cX9_add 37 = .ok (.getfield 17, 3) := by decide +kernel
theorem dX9_add_40 : decode cX9_add 40 = .ok (.iconst 1, 1) := by decide +kernel
theorem dX9_add_41 : decode cX9_add 41 = .ok (.aaload, 1) := by decide +kernel
theorem dX9_add_42 : decode cX9_add 42 = .ok (.iload_n 1, 1) := by decide +kernel
theorem dX9_add_43 : decode cX9_add 43 = .ok (.dup2, 1) := by decide +kernel
theorem dX9_add_44 : decode cX9_add 44 = .ok (.laload, 1) := by decide +kernel
theorem dX9_add_45 : decode cX9_add 45 = .ok (.lload 4, 2) := by decide +kernel
theorem dX9_add_47 : decode cX9_add 47 = .ok (.ladd, 1) := by decide +kernel
theorem dX9_add_48 : decode cX9_add 48 = .ok (.lastore, 1) := by decide +kernel
theorem dX9_add_49 : decode cX9_add 49 = .ok (.aload_n 0, 1) := by decide +kernel
theorem dX9_add_50 : decode cX9_add 50 = .ok (.getfield 20, 3) := by decide +kernel
theorem dX9_add_53 : decode cX9_add 53 = .ok (.iconst 0, 1) := by decide +kernel
theorem dX9_add_54 : decode cX9_add 54 = .ok (.aaload, 1) := by decide +kernel
theorem dX9_add_55 : decode cX9_add 55 = .ok (.iload_n 1, 1) := by decide +kernel
theorem dX9_add_56 : decode cX9_add 56 = .ok (.dup2, 1) := by decide +kernel
theorem dX9_add_57 : decode cX9_add 57 = .ok (.laload, 1) := by decide +kernel
theorem dX9_add_58 : decode cX9_add 58 = .ok (.iload 6, 2) := by decide +kernel
theorem dX9_add_60 : decode cX9_add 60 = .ok (.i2l, 1) := by decide +kernel
theorem dX9_add_61 : decode cX9_add 61 = .ok (.lload_n 2, 1) := by decide +kernel
theorem dX9_add_62 : decode cX9_add 62 = .ok (.lmul, 1) := by decide +kernel
theorem dX9_add_63 : decode cX9_add 63 = .ok (.ladd, 1) := by decide +kernel
theorem dX9_add_64 : decode cX9_add 64 = .ok (.lastore, 1) := by decide +kernel
theorem dX9_add_65 : decode cX9_add 65 = .ok (.aload_n 0, 1) := by decide +kernel
theorem dX9_add_66 : decode cX9_add 66 = .ok (.getfield 20, 3) := by decide +kernel
theorem dX9_add_69 : decode cX9_add 69 = .ok (.iconst 1, 1) := by decide +kernel
theorem dX9_add_70 : decode cX9_add 70 = .ok (.aaload, 1) := by decide +kernel
theorem dX9_add_71 : decode cX9_add 71 = .ok (.iload_n 1, 1) := by decide +kernel
theorem dX9_add_72 : decode cX9_add 72 = .ok (.dup2, 1) := by decide +kernel
theorem dX9_add_73 : decode cX9_add 73 = .ok (.laload, 1) := by decide +kernel
theorem dX9_add_74 : decode cX9_add 74 = .ok (.iload 6, 2) := by decide +kernel
theorem dX9_add_76 : decode cX9_add 76 = .ok (.i2l, 1) := by decide +kernel
theorem dX9_add_77 : decode cX9_add 77 = .ok (.lload 4, 2) := by decide +kernel
theorem dX9_add_79 : decode cX9_add 79 = .ok (.lmul, 1) := by decide +kernel
theorem dX9_add_80 : decode cX9_add 80 = .ok (.ladd, 1) := by decide +kernel
theorem dX9_add_81 : decode cX9_add 81 = .ok (.lastore, 1) := by decide +kernel
theorem dX9_add_82 : decode cX9_add 82 = .ok (.aload_n 0, 1) := by decide +kernel
theorem dX9_add_83 : decode cX9_add 83 = .ok (.getfield 25, 3) := by decide +kernel
theorem dX9_add_86 : decode cX9_add 86 = .ok (.iconst 0, 1) := by decide +kernel
theorem dX9_add_87 : decode cX9_add 87 = .ok (.aaload, 1) := by decide +kernel
theorem dX9_add_88 : decode cX9_add 88 = .ok (.iload_n 1, 1) := by decide +kernel
theorem dX9_add_89 : decode cX9_add 89 = .ok (.dup2, 1) := by decide +kernel
theorem dX9_add_90 : decode cX9_add 90 = .ok (.daload, 1) := by decide +kernel
theorem dX9_add_91 : decode cX9_add 91 = .ok (.dload 7, 2) := by decide +kernel
theorem dX9_add_93 : decode cX9_add 93 = .ok (.lload_n 2, 1) := by decide +kernel
theorem dX9_add_94 : decode cX9_add 94 = .ok (.l2d, 1) := by decide +kernel
theorem dX9_add_95 : decode cX9_add 95 = .ok (.dmul, 1) := by decide +kernel
theorem dX9_add_96 : decode cX9_add 96 = .ok (.dadd, 1) := by decide +kernel
theorem dX9_add_97 : decode cX9_add 97 = .ok (.dastore, 1) := by decide +kernel
theorem dX9_add_98 : decode cX9_add 98 = .ok (.lload_n 2, 1) := by decide +kernel
theorem dX9_add_99 : decode cX9_add 99 = .ok (.lconst 0, 1) := by decide +kernel
theorem dX9_add_100 : decode cX9_add 100 = .ok (.lcmp, 1) := by decide +kernel
theorem dX9_add_101 : decode cX9_add 101 = .ok (.ifCond .eq 27, 3) := by decide +kernel
theorem dX9_add_104 : decode cX9_add 104 = .ok (.aload_n 0, 1) := by decide +kernel
theorem dX9_add_105 : decode cX9_add 105 = .ok (.getfield 25, 3) := by decide +kernel
theorem dX9_add_108 : decode cX9_add 108 = .ok (.iconst 1, 1) := by decide +kernel
theorem dX9_add_109 : decode cX9_add 109 = .ok (.aaload, 1) := by decide +kernel
theorem dX9_add_110 : decode cX9_add 110 = .ok (.iload_n 1, 1) := by decide +kernel
theorem dX9_add_111 : decode cX9_add 111 = .ok (.dup2, 1) := by decide +kernel
theorem dX9_add_112 : decode cX9_add 112 = .ok (.daload, 1) := by decide +kernel
theorem dX9_add_113 : decode cX9_add 113 = .ok (.dload 7, 2) := by decide +kernel
theorem dX9_add_115 : decode cX9_add 115 = .ok (.lload 4, 2) := by decide +kernel
theorem dX9_add_117 : decode cX9_add 117 = .ok (.l2d, 1) := by decide +kernel
theorem dX9_add_118 : decode cX9_add 118 = .ok (.dmul, 1) := by decide +kernel
theorem dX9_add_119 : decode cX9_add 119 = .ok (.lload 4, 2) := by decide +kernel
theorem dX9_add_121 : decode cX9_add 121 = .ok (.l2d, 1) := by decide +kernel
theorem dX9_add_122 : decode cX9_add 122 = .ok (.dmul, 1) := by decide +kernel
theorem dX9_add_123 : decode cX9_add 123 = .ok (.lload_n 2, 1) := by decide +kernel
theorem dX9_add_124 : decode cX9_add 124 = .ok (.l2d, 1) := by decide +kernel
theorem dX9_add_125 : decode cX9_add 125 = .ok (.ddiv, 1) := by decide +kernel
theorem dX9_add_126 : decode cX9_add 126 = .ok (.dadd, 1) := by decide +kernel
theorem dX9_add_127 : decode cX9_add 127 = .ok (.dastore, 1) := by decide +kernel
theorem dX9_add_128 : decode cX9_add 128 = .ok (.return_, 1) := by decide +kernel
set_option maxRecDepth 20000 in
theorem ggX9_indexWithRank_X9_rankOf : GoodIn wsX9_indexWithRank wsX9_rankOf := goodIn_ca ((goodIn_ca (goodIn_r _ [6, 7, 1] rfl (by decide +kernel)) (goodIn_sub (fun _ h => List.mem_cons_of_mem _ (List.mem_append_left _ (List.mem_append_right _ h))) gw_wsX90))) (goodIn_sub (fun _ h => List.mem_cons_of_mem _ (List.mem_append_right _ h)) (all_fg _))
set_option maxRecDepth 20000 in
theorem gX9_indexWithRank_X9_rankOf : GoodIn wsX9_indexWithRank (wsV RX9 40 RX9 yX9_rankOf wsX9_rankOf) := goodIn_app (goodIn_m (mem_cA (List.mem_cons_of_mem _ (List.mem_append_left _ (List.mem_append_left _ (List.mem_of_getElem? (i := 1) rfl)))) (mem_cA (List.mem_cons_of_mem _ (List.mem_append_left _ (List.mem_append_left _ (List.mem_of_getElem? (i := 2) rfl)))) (mem_cA (List.mem_cons_of_mem _ (List.mem_append_left _ (List.mem_append_left _ (List.mem_of_getElem? (i := 3) rfl)))) (mem_cA (List.mem_cons_of_mem _ (List.mem_append_left _ (List.mem_append_left _ (List.mem_of_getElem? (i := 4) rfl)))) mem_cZ)))) (by decide +kernel)) ggX9_indexWithRank_X9_rankOf
theorem dX9_indexWithRank_0 : decode cX9_indexWithRank 0 = .ok (.iconst 0, 1) := by decide +kernel
theorem dX9_indexWithRank_1 : decode cX9_indexWithRank 1 = .ok (.istore_n 3, 1) := by decide +kernel
theorem dX9_indexWithRank_2 : decode cX9_indexWithRank 2 = .ok (.iload_n 3, 1) := by decide +kernel
theorem dX9_indexWithRank_3 : decode cX9_indexWithRank 3 = .ok (.aload_n 0, 1) := by decide +kernel
theorem dX9_indexWithRank_4 : decode cX9_indexWithRank 4 = .ok (.getfield 28, 3) := by decide +kernel
theorem dX9_indexWithRank_7 : decode cX9_indexWithRank 7 = .ok (.if_icmp .ge 21, 3) := by decide +kernel
theorem dX9_indexWithRank_10 : decode cX9_indexWithRank 10 = .ok (.aload_n 0, 1) := by decide +kernel
theorem dX9_indexWithRank_11 : decode cX9_indexWithRank 11 = .ok (.iload_n 3, 1) := by decide +kernel
theorem dX9_indexWithRank_12 : decode cX9_indexWithRank 12 = .ok (.iload_n 2, 1) := by decide +kernel
theorem dX9_indexWithRank_13 : decode cX9_indexWithRank 13 = .ok (.invokevirtual 40, 3) := by decide +kernel
theorem dX9_indexWithRank_16 : decode cX9_indexWithRank 16 = .ok (.iload_n 1, 1) := by decide +kernel
theorem dX9_indexWithRank_17 : decode cX9_indexWithRank 17 = .ok (.if_icmp .ne 5, 3) := by decide +kernel
theorem dX9_indexWithRank_20 : decode cX9_indexWithRank 20 = .ok (.iload_n 3, 1) := by decide +kernel
theorem dX9_indexWithRank_21 : decode cX9_indexWithRank 21 = .ok (.ireturn, 1) := by decide +kernel
theorem dX9_indexWithRank_22 : decode cX9_indexWithRank 22 = .ok (.iinc 3 1, 3) := by decide +kernel
theorem dX9_indexWithRank_25 : decode cX9_indexWithRank 25 = .ok (.goto (-23), 3) := by decide +kernel
theorem dX9_indexWithRank_28 : decode cX9_indexWithRank 28 = .ok (.iconst (-1), 1) := by decide +kernel
theorem dX9_indexWithRank_29 : decode cX9_indexWithRank 29 = .ok (.ireturn, 1) := by decide +kernel
set_option maxHeartbeats 4000000 in
set_option maxRecDepth 100000 in
theorem s_X9_indexWithRank (G : EnvG) (l : Launch) (Φ : Hm) (sz x ca : Nat) (a : Int32) (w : Nat) (hx : G.2.2.2 ≤ x) (hI : In G x ca Φ) (hw : w < 2) : Ct G l yX9_indexWithRank wsX9_indexWithRank ({ frames := 1, cells := 0, slots := 0, locals := 28 }) 0 0 [.ref (x + 121), .int a, .int (nI w)] Φ sz (fun v Φ1 sz1 => (∃ r9 : Int32, v = some (.int r9)) ∧ sz1 = sz ∧ In G x (ca) Φ1 ∧ Fr x (fun j9 => False) Φ Φ1) := by
  refine Ct.of (cc := cX9_indexWithRank) (maxL := 4) (ret := (some .int)) (by decide) rfl (Nat.le_of_ble_eq_true rfl) ?_
  intro p9 e9 s9 m9 w9 t9 k9 B
  show Z p9 l e9 _ s9 m9 _ w9 t9 k9 _ G 4 0 [(0, .ref (x + 121)), (1, .int a), (2, .int (nI w))] [] Φ sz 0 0
  refine z_iconst (v := 0) B dX9_indexWithRank_0 rfl ?_
  refine z_istore_n (lv' := [(3, .int 0), (0, .ref (x + 121)), (1, .int a), (2, .int (nI w))]) B dX9_indexWithRank_1 rfl (Nat.le_of_ble_eq_true rfl) rfl ?_
  refine z_lv [0, 1, 2, 3] rfl ?_
  refine z_loop (α := Nat) (fun (a9 : Nat) Φi => In G x (ca) Φi ∧ Fr x (fun j9 => False) Φ Φi ∧ (a9 ≤ 24) ∧ True) (fun a9 => [(3, .int (nI a9)), (0, .ref (x + 121)), (1, .int a), (2, .int (nI w))]) (fun a9 => 24 - a9) ?_ (0) ⟨hI, fun _ _ => rfl, (show 0 ≤ 24 by omega), trivial⟩
  rintro i_1 Φl1 ⟨hI1, hF1, b_1, -⟩ ih1
  replace hI1 : In G x (ca) Φl1 := hI1
  replace b_1 : i_1 ≤ 24 := b_1
  show Z p9 l e9 _ s9 m9 _ w9 t9 k9 _ G 4 2 [(3, .int (nI i_1)), (0, .ref (x + 121)), (1, .int a), (2, .int (nI w))] [] Φl1 _ _ _
  refine z_iload_n B dX9_indexWithRank_2 rfl 0 rfl ?_
  refine z_aload_n B dX9_indexWithRank_3 rfl 1 rfl ?_
  obtain ⟨n_1, h_1, b_2⟩ := in20 (k := 121) hI1 rfl
  have h_2 : Φl1 (x + 121) = some (o_ 11 [.ref (x + 122), .ref (x + 123), .ref (x + 126), .ref (x + 129), .int (nI n_1)]) := h_1
  refine z_get (ref := "FlowExporter$Sums") (C := RX9) (T := TX9) (N := 5) (ci := 11) (v := .int (nI n_1)) B hu_X9_indexWithRank_X9 rfl 4 (Nat.le_of_ble_eq_true rfl) hv_X9_indexWithRank_28 rfl h_2 rfl dX9_indexWithRank_4 ?_
  refine z_icmp_ge (tgt := 28) B dX9_indexWithRank_7 rfl (fun c_1 => ?_) (fun c_1 => ?_)
  · have e_1 : n_1 ≤ i_1 := (nI_leI (a := n_1) (b := i_1) (by omega) (by omega)).mp c_1
    refine z_iconst (v := (-1)) B dX9_indexWithRank_28 rfl ?_
    exact z_ret_i B dX9_indexWithRank_29 ⟨⟨_, rfl⟩, rfl, hI1, (fun b9 h9 => ((hF1 b9 (fun j9 h8 h7 => (show False from h7).elim)).trans rfl))⟩
  · have e_2 : ¬ (n_1 ≤ i_1) := fun h9 => c_1 ((nI_leI (a := n_1) (b := i_1) (by omega) (by omega)).mpr h9)
    refine z_aload_n B dX9_indexWithRank_10 rfl 1 rfl ?_
    refine z_iload_n B dX9_indexWithRank_11 rfl 0 rfl ?_
    refine z_iload_n B dX9_indexWithRank_12 rfl 3 rfl ?_
    refine z_callV (As := [.int (nI i_1), .int (nI w)]) (rest := []) B (s_X9_rankOf G l Φl1 sz x (ca) i_1 w hx hI1 (show i_1 < 24 by omega) (show w < 2 by omega)) (cwV 2 B.1.2.2.2.2 gX9_indexWithRank_X9_rankOf rfl rfl rfl (by decide +kernel) ⟨Nat.le_of_ble_eq_true rfl, Nat.le_of_ble_eq_true rfl⟩) h_2 rfl rfl rfl rfl (Nat.le_of_ble_eq_true rfl) dX9_indexWithRank_13 ⟨Nat.le_of_ble_eq_true rfl, Nat.le_of_ble_eq_true rfl⟩ (fun r_1 Φ1 sz1 st1 hp1 hs1 => ?_)
    obtain ⟨⟨v_1, rfl⟩, hq1, hI2, hF2⟩ := hp1
    subst sz1
    replace hs1 : st1 = [.int v_1] := hs1
    subst st1
    replace hI2 : In G x (ca) Φ1 := hI2
    refine z_iload_n B dX9_indexWithRank_16 rfl 2 rfl ?_
    refine z_icmp_ne (tgt := 22) B dX9_indexWithRank_17 rfl (fun c_2 => ?_) (fun c_2 => ?_)
    · refine z_iinc (k := 0) (v := nI (i_1 + 1)) (lv' := [(3, .int (nI (i_1 + 1))), (0, .ref (x + 121)), (1, .int a), (2, .int (nI w))]) B dX9_indexWithRank_22 rfl (nI_add i_1 1) (Nat.le_of_ble_eq_true rfl) rfl ?_
      refine z_goto (tgt := 2) B dX9_indexWithRank_25 rfl ?_
      refine z_lv [0, 1, 2, 3] rfl ?_
      exact ih1 (i_1 + 1) Φ1 (show 24 - (i_1 + 1) < 24 - i_1 by omega) ⟨hI2, (fun b9 h9 => ((hF2 b9 (fun j9 h8 h7 => (show False from h7).elim)).trans ((hF1 b9 (fun j9 h8 h7 => (show False from h7).elim)).trans rfl))), (show (i_1 + 1) ≤ 24 by omega), trivial⟩
    · refine z_iload_n B dX9_indexWithRank_20 rfl 0 rfl ?_
      exact z_ret_i B dX9_indexWithRank_21 ⟨⟨_, rfl⟩, rfl, hI2, (fun b9 h9 => ((hF2 b9 (fun j9 h8 h7 => (show False from h7).elim)).trans ((hF1 b9 (fun j9 h8 h7 => (show False from h7).elim)).trans rfl)))⟩

theorem hu_X9_add_X9 : ∀ w ∈ u_ws RX9 TX9 5, w ∈ wsX9_add := fun _ h => List.mem_cons_of_mem _ (List.mem_append_left _ (List.mem_append_right _ (h)))

theorem hv_X9_add_28 : Cond.fieldLink RX9 28 "FlowExporter$Sums" (TX9 4).2.1 (TX9 4).2.2.1 ∈ wsX9_add := List.mem_cons_of_mem _ (List.mem_append_left _ (List.mem_append_left _ (List.mem_of_getElem? (i := 0) rfl)))

theorem hv_X9_add_17 : Cond.fieldLink RX9 17 "FlowExporter$Sums" (TX9 1).2.1 (TX9 1).2.2.1 ∈ wsX9_add := List.mem_cons_of_mem _ (List.mem_append_left _ (List.mem_append_left _ (List.mem_of_getElem? (i := 1) rfl)))

theorem hv_X9_add_20 : Cond.fieldLink RX9 20 "FlowExporter$Sums" (TX9 2).2.1 (TX9 2).2.2.1 ∈ wsX9_add := List.mem_cons_of_mem _ (List.mem_append_left _ (List.mem_append_left _ (List.mem_of_getElem? (i := 2) rfl)))

theorem hv_X9_add_25 : Cond.fieldLink RX9 25 "FlowExporter$Sums" (TX9 3).2.1 (TX9 3).2.2.1 ∈ wsX9_add := List.mem_cons_of_mem _ (List.mem_append_left _ (List.mem_append_left _ (List.mem_of_getElem? (i := 3) rfl)))

set_option maxHeartbeats 4000000 in
set_option maxRecDepth 100000 in
theorem s_X9_add (G : EnvG) (l : Launch) (Φ : Hm) (sz x ca : Nat) (a : Int32) (b : Int64) (d : Int64) (n : Nat) (hx : G.2.2.2 ≤ x) (hI : In G x ca Φ) (hb : 0 ≤ b) (hn : n < 2 ^ 31) : Ct G l yX9_add wsX9_add ({ frames := 0, cells := 0, slots := 0, locals := 0 }) 0 0 [.ref (x + 121), .int a, .long b, .long d, .int (nI n)] Φ sz (fun v Φ1 sz1 => (v = none) ∧ sz1 = sz ∧ In G x (ca) Φ1 ∧ Fr x (fun j9 => 124 ≤ j9 ∧ j9 < 132) Φ Φ1) := by
  refine Ct.of (cc := cX9_add) (maxL := 9) (ret := none) (by decide) rfl (Nat.le_of_ble_eq_true rfl) ?_
  intro p9 e9 s9 m9 w9 t9 k9 B
  show Z p9 l e9 _ s9 m9 _ w9 t9 k9 _ G 9 0 [(0, .ref (x + 121)), (1, .int a), (2, .long b), (4, .long d), (6, .int (nI n))] [] Φ sz 0 0
  refine z_iload_n B dX9_add_0 rfl 1 rfl ?_
  refine z_if_lt (tgt := 12) B dX9_add_1 rfl (fun c_1 => ?_) (fun c_1 => ?_)
  · exact z_ret_v B dX9_add_12 ⟨rfl, rfl, hI, (fun b9 h9 => rfl)⟩
  · obtain ⟨n_1, e_1, rfl⟩ := nI_of c_1
    refine z_iload_n B dX9_add_4 rfl 1 rfl ?_
    refine z_aload_n B dX9_add_5 rfl 0 rfl ?_
    obtain ⟨n_2, h_1, b_1⟩ := in20 (k := 121) hI rfl
    have h_2 : Φ (x + 121) = some (o_ 11 [.ref (x + 122), .ref (x + 123), .ref (x + 126), .ref (x + 129), .int (nI n_2)]) := h_1
    refine z_get (ref := "FlowExporter$Sums") (C := RX9) (T := TX9) (N := 5) (ci := 11) (v := .int (nI n_2)) B hu_X9_add_X9 rfl 4 (Nat.le_of_ble_eq_true rfl) hv_X9_add_28 rfl h_2 rfl dX9_add_6 ?_
    refine z_icmp_lt (tgt := 13) B dX9_add_9 rfl (fun c_2 => ?_) (fun c_2 => ?_)
    · have e_2 : n_1 < n_2 := (nI_ltI (a := n_1) (b := n_2) (by omega) (by omega)).mp c_2
      refine z_iload B dX9_add_13 4 rfl ?_
      refine z_i2d B dX9_add_15 ?_
      refine z_iload B dX9_add_16 4 rfl ?_
      refine z_iconst (v := 1) B dX9_add_18 rfl ?_
      refine z_isub B dX9_add_19 ?_
      refine z_i2d B dX9_add_20 ?_
      have q_2 : sm64 78 (FP.dmul (FP.i2d (nI n)) (FP.i2d (nI n - 1))) := (mul_sm (i2d_sm _) (i2d_sm _) (by decide) (by decide))
      have q_3 : pd64 (FP.dmul (FP.i2d (nI n)) (FP.i2d (nI n - 1))) := (fac_pd (by omega))
      refine z_dmul B dX9_add_21 (vf_of (sm_nn q_2)) ?_
      refine z_fdq (P := fun u9 : UInt64 => sm64 78 u9 ∧ pd64 u9) ⟨q_2, q_3⟩ (fun v_1 q_6 => ?_)
      obtain ⟨q_4, q_5⟩ := q_6
      replace q_4 : sm64 78 v_1 := q_4
      replace q_5 : pd64 v_1 := q_5
      refine z_dstore (lv' := [(7, .double v_1), (0, .ref (x + 121)), (1, .int (nI n_1)), (2, .long b), (4, .long d), (6, .int (nI n))]) B dX9_add_22 (Nat.le_of_ble_eq_true rfl) rfl ?_
      refine z_aload_n B dX9_add_24 rfl 1 rfl ?_
      refine z_get (ref := "FlowExporter$Sums") (C := RX9) (T := TX9) (N := 5) (ci := 11) (v := .ref (x + 123)) B hu_X9_add_X9 rfl 1 (Nat.le_of_ble_eq_true rfl) hv_X9_add_17 rfl h_2 rfl dX9_add_25 ?_
      refine z_iconst (v := 0) B dX9_add_28 rfl ?_
      obtain ⟨f_1, h_3, r_1⟩ := in22 (k := 123) hI rfl
      have h_4 : Φ (x + 123) = some (aq_ G 7 2 f_1) := h_3
      refine z_aaldA (b := x + 124) B rfl h_4 (vin rfl) ((r_1 0 (by omega))) dX9_add_29 ?_
      refine z_iload_n B dX9_add_30 rfl 2 rfl ?_
      refine z_dup2_11 B dX9_add_31 rfl rfl ?_
      obtain ⟨f_2, h_5⟩ := in21 (k := 124) hI rfl
      have h_6 : Φ (x + 124) = some (al_ G 24 f_2) := h_5
      refine z_lald B h_6 (vp_in_nI (by omega) (by omega)) dX9_add_32 ?_
      refine z_fl (fun v_2 => ?_)
      refine z_lload_n B dX9_add_33 rfl 3 rfl ?_
      refine z_ladd B dX9_add_34 ?_
      refine z_fl (fun v_3 => ?_)
      refine z_last B h_6 (Nat.le_trans hx (Nat.le_add_right x 124)) (vp_in_nI (by omega) (by omega)) dX9_add_35 (fun Φ1 hΦ1 => ?_)
      have h_7 : Φ1 (x + 124) = some (al_ G 24 (vp_updL f_2 (nI n_1).toNatClampNeg v_3)) := fset_at hΦ1
      have hI1 : In G x (ca) Φ1 := In.put (k := 124) hI hΦ1 (ok21 (k := 124) rfl ⟨_, rfl⟩)
      refine z_aload_n B dX9_add_36 rfl 1 rfl ?_
      have h_8 : Φ1 (x + 121) = some (o_ 11 [.ref (x + 122), .ref (x + 123), .ref (x + 126), .ref (x + 129), .int (nI n_2)]) := ((fset_fr hΦ1 (ne_off (x := x) (i := 121) (j := 124) rfl)).trans h_2)
      refine z_get (ref := "FlowExporter$Sums") (C := RX9) (T := TX9) (N := 5) (ci := 11) (v := .ref (x + 123)) B hu_X9_add_X9 rfl 1 (Nat.le_of_ble_eq_true rfl) hv_X9_add_17 rfl h_8 rfl dX9_add_37 ?_
      refine z_iconst (v := 1) B dX9_add_40 rfl ?_
      have h_9 : Φ1 (x + 123) = some (aq_ G 7 2 f_1) := ((fset_fr hΦ1 (ne_off (x := x) (i := 123) (j := 124) rfl)).trans h_4)
      refine z_aaldA (b := x + 125) B rfl h_9 (vin rfl) ((r_1 1 (by omega))) dX9_add_41 ?_
      refine z_iload_n B dX9_add_42 rfl 2 rfl ?_
      refine z_dup2_11 B dX9_add_43 rfl rfl ?_
      obtain ⟨f_3, h_10⟩ := in21 (k := 125) hI1 rfl
      have h_11 : Φ1 (x + 125) = some (al_ G 24 f_3) := h_10
      refine z_lald B h_11 (vp_in_nI (by omega) (by omega)) dX9_add_44 ?_
      refine z_fl (fun v_4 => ?_)
      refine z_lload B dX9_add_45 4 rfl ?_
      refine z_ladd B dX9_add_47 ?_
      refine z_fl (fun v_5 => ?_)
      refine z_last B h_11 (Nat.le_trans hx (Nat.le_add_right x 125)) (vp_in_nI (by omega) (by omega)) dX9_add_48 (fun Φ2 hΦ2 => ?_)
      have h_12 : Φ2 (x + 125) = some (al_ G 24 (vp_updL f_3 (nI n_1).toNatClampNeg v_5)) := fset_at hΦ2
      have hI2 : In G x (ca) Φ2 := In.put (k := 125) hI1 hΦ2 (ok21 (k := 125) rfl ⟨_, rfl⟩)
      refine z_aload_n B dX9_add_49 rfl 1 rfl ?_
      have h_13 : Φ2 (x + 121) = some (o_ 11 [.ref (x + 122), .ref (x + 123), .ref (x + 126), .ref (x + 129), .int (nI n_2)]) := ((fset_fr hΦ2 (ne_off (x := x) (i := 121) (j := 125) rfl)).trans h_8)
      refine z_get (ref := "FlowExporter$Sums") (C := RX9) (T := TX9) (N := 5) (ci := 11) (v := .ref (x + 126)) B hu_X9_add_X9 rfl 2 (Nat.le_of_ble_eq_true rfl) hv_X9_add_20 rfl h_13 rfl dX9_add_50 ?_
      refine z_iconst (v := 0) B dX9_add_53 rfl ?_
      obtain ⟨f_4, h_14, r_2⟩ := in22 (k := 126) hI2 rfl
      have h_15 : Φ2 (x + 126) = some (aq_ G 7 2 f_4) := h_14
      refine z_aaldA (b := x + 127) B rfl h_15 (vin rfl) ((r_2 0 (by omega))) dX9_add_54 ?_
      refine z_iload_n B dX9_add_55 rfl 2 rfl ?_
      refine z_dup2_11 B dX9_add_56 rfl rfl ?_
      obtain ⟨f_5, h_16⟩ := in21 (k := 127) hI2 rfl
      have h_17 : Φ2 (x + 127) = some (al_ G 24 f_5) := h_16
      refine z_lald B h_17 (vp_in_nI (by omega) (by omega)) dX9_add_57 ?_
      refine z_fl (fun v_6 => ?_)
      refine z_iload B dX9_add_58 5 rfl ?_
      refine z_i2l (v := (nI n).toInt64) B dX9_add_60 rfl ?_
      refine z_fl (fun v_7 => ?_)
      refine z_lload_n B dX9_add_61 rfl 3 rfl ?_
      refine z_lmul B dX9_add_62 ?_
      refine z_fl (fun v_8 => ?_)
      refine z_ladd B dX9_add_63 ?_
      refine z_fl (fun v_9 => ?_)
      refine z_last B h_17 (Nat.le_trans hx (Nat.le_add_right x 127)) (vp_in_nI (by omega) (by omega)) dX9_add_64 (fun Φ3 hΦ3 => ?_)
      have h_18 : Φ3 (x + 127) = some (al_ G 24 (vp_updL f_5 (nI n_1).toNatClampNeg v_9)) := fset_at hΦ3
      have hI3 : In G x (ca) Φ3 := In.put (k := 127) hI2 hΦ3 (ok21 (k := 127) rfl ⟨_, rfl⟩)
      refine z_aload_n B dX9_add_65 rfl 1 rfl ?_
      have h_19 : Φ3 (x + 121) = some (o_ 11 [.ref (x + 122), .ref (x + 123), .ref (x + 126), .ref (x + 129), .int (nI n_2)]) := ((fset_fr hΦ3 (ne_off (x := x) (i := 121) (j := 127) rfl)).trans h_13)
      refine z_get (ref := "FlowExporter$Sums") (C := RX9) (T := TX9) (N := 5) (ci := 11) (v := .ref (x + 126)) B hu_X9_add_X9 rfl 2 (Nat.le_of_ble_eq_true rfl) hv_X9_add_20 rfl h_19 rfl dX9_add_66 ?_
      refine z_iconst (v := 1) B dX9_add_69 rfl ?_
      have h_20 : Φ3 (x + 126) = some (aq_ G 7 2 f_4) := ((fset_fr hΦ3 (ne_off (x := x) (i := 126) (j := 127) rfl)).trans h_15)
      refine z_aaldA (b := x + 128) B rfl h_20 (vin rfl) ((r_2 1 (by omega))) dX9_add_70 ?_
      refine z_iload_n B dX9_add_71 rfl 2 rfl ?_
      refine z_dup2_11 B dX9_add_72 rfl rfl ?_
      obtain ⟨f_6, h_21⟩ := in21 (k := 128) hI3 rfl
      have h_22 : Φ3 (x + 128) = some (al_ G 24 f_6) := h_21
      refine z_lald B h_22 (vp_in_nI (by omega) (by omega)) dX9_add_73 ?_
      refine z_fl (fun v_10 => ?_)
      refine z_iload B dX9_add_74 5 rfl ?_
      refine z_i2l (v := (nI n).toInt64) B dX9_add_76 rfl ?_
      refine z_fl (fun v_11 => ?_)
      refine z_lload B dX9_add_77 4 rfl ?_
      refine z_lmul B dX9_add_79 ?_
      refine z_fl (fun v_12 => ?_)
      refine z_ladd B dX9_add_80 ?_
      refine z_fl (fun v_13 => ?_)
      refine z_last B h_22 (Nat.le_trans hx (Nat.le_add_right x 128)) (vp_in_nI (by omega) (by omega)) dX9_add_81 (fun Φ4 hΦ4 => ?_)
      have h_23 : Φ4 (x + 128) = some (al_ G 24 (vp_updL f_6 (nI n_1).toNatClampNeg v_13)) := fset_at hΦ4
      have hI4 : In G x (ca) Φ4 := In.put (k := 128) hI3 hΦ4 (ok21 (k := 128) rfl ⟨_, rfl⟩)
      refine z_aload_n B dX9_add_82 rfl 1 rfl ?_
      have h_24 : Φ4 (x + 121) = some (o_ 11 [.ref (x + 122), .ref (x + 123), .ref (x + 126), .ref (x + 129), .int (nI n_2)]) := ((fset_fr hΦ4 (ne_off (x := x) (i := 121) (j := 128) rfl)).trans h_19)
      refine z_get (ref := "FlowExporter$Sums") (C := RX9) (T := TX9) (N := 5) (ci := 11) (v := .ref (x + 129)) B hu_X9_add_X9 rfl 3 (Nat.le_of_ble_eq_true rfl) hv_X9_add_25 rfl h_24 rfl dX9_add_83 ?_
      refine z_iconst (v := 0) B dX9_add_86 rfl ?_
      obtain ⟨f_7, h_25, r_3⟩ := in23 (k := 129) hI4 rfl
      have h_26 : Φ4 (x + 129) = some (aq_ G 8 2 f_7) := h_25
      refine z_aaldA (b := x + 130) B rfl h_26 (vin rfl) ((r_3 0 (by omega))) dX9_add_87 ?_
      refine z_iload_n B dX9_add_88 rfl 2 rfl ?_
      refine z_dup2_11 B dX9_add_89 rfl rfl ?_
      obtain ⟨f_8, h_27, r_4⟩ := in24 (k := 130) hI4 rfl
      have h_28 : Φ4 (x + 130) = some (ad_ G 24 f_8) := h_27
      refine z_dald B h_28 (vp_in_nI (by omega) (by omega)) dX9_add_90 ?_
      refine z_fdq (P := fun u9 : UInt64 => pd64 u9) (r_4 _) (fun v_15 q_8 => ?_)
      replace q_8 : pd64 v_15 := q_8
      refine z_dload B dX9_add_91 0 rfl ?_
      refine z_lload_n B dX9_add_93 rfl 3 rfl ?_
      refine z_l2d B dX9_add_94 ?_
      refine z_fdq (P := fun u9 : UInt64 => sm64 12 u9 ∧ pd64 u9) ⟨(l2d_sm b), (l2d_pd hb)⟩ (fun v_16 q_11 => ?_)
      obtain ⟨q_9, q_10⟩ := q_11
      replace q_9 : sm64 12 v_16 := q_9
      replace q_10 : pd64 v_16 := q_10
      have q_13 : sm64 144 (FP.dmul v_1 v_16) := (mul_sm q_4 q_9 (by decide) (by decide))
      have q_14 : pd64 (FP.dmul v_1 v_16) := (mul_pd q_4 q_9 q_5 q_10)
      refine z_dmul B dX9_add_95 (vf_of (sm_nn q_13)) ?_
      refine z_fdq (P := fun u9 : UInt64 => sm64 144 u9 ∧ pd64 u9) ⟨q_13, q_14⟩ (fun v_17 q_17 => ?_)
      obtain ⟨q_15, q_16⟩ := q_17
      replace q_15 : sm64 144 v_17 := q_15
      replace q_16 : pd64 v_17 := q_16
      have q_19 : pd64 (FP.dadd v_15 v_17) := (pd_add q_8 q_16)
      refine z_dadd B dX9_add_96 (vf_of (pd_nn q_19)) ?_
      refine z_fdq (P := fun u9 : UInt64 => pd64 u9) q_19 (fun v_18 q_21 => ?_)
      replace q_21 : pd64 v_18 := q_21
      refine z_dast B h_28 (Nat.le_trans hx (Nat.le_add_right x 130)) (vp_in_nI (by omega) (by omega)) dX9_add_97 (fun Φ5 hΦ5 => ?_)
      have h_29 : Φ5 (x + 130) = some (ad_ G 24 (vf_upd f_8 (nI n_1).toNatClampNeg v_18)) := fset_at hΦ5
      have hI5 : In G x (ca) Φ5 := In.put (k := 130) hI4 hΦ5 (ok24 (k := 130) rfl ⟨_, rfl, pd_upd r_4 q_21⟩)
      refine z_lload_n B dX9_add_98 rfl 3 rfl ?_
      refine z_lconst (v := 0) B dX9_add_99 rfl ?_
      refine z_lcmp B dX9_add_100 ?_
      refine z_if_eq (tgt := 128) B dX9_add_101 rfl (fun c_3 => ?_) (fun c_3 => ?_)
      · exact z_ret_v B dX9_add_128 ⟨rfl, rfl, hI5, (fun b9 h9 => ((fset_fr hΦ5 (fun h8 => h9 (130) h8 (show 124 ≤ 130 ∧ 130 < 132 by decide))).trans ((fset_fr hΦ4 (fun h8 => h9 (128) h8 (show 124 ≤ 128 ∧ 128 < 132 by decide))).trans ((fset_fr hΦ3 (fun h8 => h9 (127) h8 (show 124 ≤ 127 ∧ 127 < 132 by decide))).trans ((fset_fr hΦ2 (fun h8 => h9 (125) h8 (show 124 ≤ 125 ∧ 125 < 132 by decide))).trans ((fset_fr hΦ1 (fun h8 => h9 (124) h8 (show 124 ≤ 124 ∧ 124 < 132 by decide))).trans rfl))))))⟩
      · refine z_aload_n B dX9_add_104 rfl 1 rfl ?_
        have h_30 : Φ5 (x + 121) = some (o_ 11 [.ref (x + 122), .ref (x + 123), .ref (x + 126), .ref (x + 129), .int (nI n_2)]) := ((fset_fr hΦ5 (ne_off (x := x) (i := 121) (j := 130) rfl)).trans h_24)
        refine z_get (ref := "FlowExporter$Sums") (C := RX9) (T := TX9) (N := 5) (ci := 11) (v := .ref (x + 129)) B hu_X9_add_X9 rfl 3 (Nat.le_of_ble_eq_true rfl) hv_X9_add_25 rfl h_30 rfl dX9_add_105 ?_
        refine z_iconst (v := 1) B dX9_add_108 rfl ?_
        have h_31 : Φ5 (x + 129) = some (aq_ G 8 2 f_7) := ((fset_fr hΦ5 (ne_off (x := x) (i := 129) (j := 130) rfl)).trans h_26)
        refine z_aaldA (b := x + 131) B rfl h_31 (vin rfl) ((r_3 1 (by omega))) dX9_add_109 ?_
        refine z_iload_n B dX9_add_110 rfl 2 rfl ?_
        refine z_dup2_11 B dX9_add_111 rfl rfl ?_
        obtain ⟨f_9, h_32, r_5⟩ := in24 (k := 131) hI5 rfl
        have h_33 : Φ5 (x + 131) = some (ad_ G 24 f_9) := h_32
        refine z_dald B h_33 (vp_in_nI (by omega) (by omega)) dX9_add_112 ?_
        refine z_fdq (P := fun u9 : UInt64 => pd64 u9) (r_5 _) (fun v_20 q_23 => ?_)
        replace q_23 : pd64 v_20 := q_23
        refine z_dload B dX9_add_113 0 rfl ?_
        refine z_lload B dX9_add_115 4 rfl ?_
        refine z_l2d B dX9_add_117 ?_
        refine z_dmul B dX9_add_118 (vf_of (sm_nn (mul_sm q_4 (l2d_sm _) (by decide) (by decide)))) ?_
        refine z_lload B dX9_add_119 4 rfl ?_
        refine z_l2d B dX9_add_121 ?_
        have q_25 : sm64 210 (FP.dmul (FP.dmul v_1 (FP.l2d d)) (FP.l2d d)) := (mul_sm (mul_sm q_4 (l2d_sm _) (by decide) (by decide)) (l2d_sm _) (by decide) (by decide))
        have q_26 : pd64 (FP.dmul (FP.dmul v_1 (FP.l2d d)) (FP.l2d d)) := (sq_pd q_4 q_5 _)
        refine z_dmul B dX9_add_122 (vf_of (sm_nn q_25)) ?_
        refine z_fdq (P := fun u9 : UInt64 => sm64 210 u9 ∧ pd64 u9) ⟨q_25, q_26⟩ (fun v_21 q_29 => ?_)
        obtain ⟨q_27, q_28⟩ := q_29
        replace q_27 : sm64 210 v_21 := q_27
        replace q_28 : pd64 v_21 := q_28
        refine z_lload_n B dX9_add_123 rfl 3 rfl ?_
        refine z_l2d B dX9_add_124 ?_
        have q_31 : pd64 (FP.ddiv v_21 (FP.l2d b)) := (div_pd q_27 q_28 hb (fun h8 => c_3 ((lg_cmp_eq _ _).mpr h8)))
        refine z_ddiv B dX9_add_125 (vf_of (pd_nn q_31)) ?_
        refine z_fdq (P := fun u9 : UInt64 => pd64 u9) q_31 (fun v_22 q_33 => ?_)
        replace q_33 : pd64 v_22 := q_33
        have q_35 : pd64 (FP.dadd v_20 v_22) := (pd_add q_23 q_33)
        refine z_dadd B dX9_add_126 (vf_of (pd_nn q_35)) ?_
        refine z_fdq (P := fun u9 : UInt64 => pd64 u9) q_35 (fun v_23 q_37 => ?_)
        replace q_37 : pd64 v_23 := q_37
        refine z_dast B h_33 (Nat.le_trans hx (Nat.le_add_right x 131)) (vp_in_nI (by omega) (by omega)) dX9_add_127 (fun Φ6 hΦ6 => ?_)
        have h_34 : Φ6 (x + 131) = some (ad_ G 24 (vf_upd f_9 (nI n_1).toNatClampNeg v_23)) := fset_at hΦ6
        have hI6 : In G x (ca) Φ6 := In.put (k := 131) hI5 hΦ6 (ok24 (k := 131) rfl ⟨_, rfl, pd_upd r_5 q_37⟩)
        exact z_ret_v B dX9_add_128 ⟨rfl, rfl, hI6, (fun b9 h9 => ((fset_fr hΦ6 (fun h8 => h9 (131) h8 (show 124 ≤ 131 ∧ 131 < 132 by decide))).trans ((fset_fr hΦ5 (fun h8 => h9 (130) h8 (show 124 ≤ 130 ∧ 130 < 132 by decide))).trans ((fset_fr hΦ4 (fun h8 => h9 (128) h8 (show 124 ≤ 128 ∧ 128 < 132 by decide))).trans ((fset_fr hΦ3 (fun h8 => h9 (127) h8 (show 124 ≤ 127 ∧ 127 < 132 by decide))).trans ((fset_fr hΦ2 (fun h8 => h9 (125) h8 (show 124 ≤ 125 ∧ 125 < 132 by decide))).trans ((fset_fr hΦ1 (fun h8 => h9 (124) h8 (show 124 ≤ 124 ∧ 124 < 132 by decide))).trans rfl)))))))⟩
    · have e_3 : ¬ (n_1 < n_2) := fun h9 => c_2 ((nI_ltI (a := n_1) (b := n_2) (by omega) (by omega)).mpr h9)
      exact z_ret_v B dX9_add_12 ⟨rfl, rfl, hI, (fun b9 h9 => rfl)⟩

set_option maxHeartbeats 4000000 in
set_option maxRecDepth 100000 in
theorem s_X0_rateOfBits (G : EnvG) (l : Launch) (Φ : Hm) (sz x ca : Nat) (a : Int32) (b : Nat) (hx : G.2.2.2 ≤ x) (hI : In G x ca Φ) (hb : b < 2 ^ 31) : Ct G l yX0_rateOfBits wsX0_rateOfBits ({ frames := 1, cells := 0, slots := 0, locals := 13 }) 0 0 [.int a, .int (nI b)] Φ sz (fun v Φ1 sz1 => (∃ n9 : Nat, v = some (.int (nI n9)) ∧ n9 < 2 ^ 31) ∧ sz1 = sz ∧ In G x (ca) Φ1 ∧ Fr x (fun j9 => False) Φ Φ1) := by
  refine Ct.of (cc := cX0_rateOfBits) (maxL := 5) (ret := (some .int)) (by decide) rfl (Nat.le_of_ble_eq_true rfl) ?_
  intro p9 e9 s9 m9 w9 t9 k9 B
  show Z p9 l e9 _ s9 m9 _ w9 t9 k9 _ G 5 0 [(0, .int a), (1, .int (nI b))] [] Φ sz 0 0
  refine z_iload_n B dX0_rateOfBits_0 rfl 0 rfl ?_
  refine z_if_le (tgt := 10) B dX0_rateOfBits_1 rfl (fun c_1 => ?_) (fun c_1 => ?_)
  · refine z_iload_n B dX0_rateOfBits_10 rfl 1 rfl ?_
    exact z_ret_i B dX0_rateOfBits_11 ⟨⟨b, rfl, (show b < 2 ^ 31 by omega)⟩, rfl, hI, (fun b9 h9 => rfl)⟩
  · obtain ⟨n_1, e_2, e_1, rfl⟩ := nI_ofp c_1
    refine z_iload_n B dX0_rateOfBits_4 rfl 0 rfl ?_
    refine z_ldc (v := 1065353216) B (by decide +kernel) dX0_rateOfBits_5 ?_
    refine z_icmp_le (tgt := 12) B dX0_rateOfBits_7 rfl (fun c_2 => ?_) (fun c_2 => ?_)
    · have e_3 : n_1 ≤ 1065353216 := (nI_leI (a := n_1) (b := 1065353216) (by omega) (by omega)).mp c_2
      refine z_iload_n B dX0_rateOfBits_12 rfl 0 rfl ?_
      refine z_bipush (v := 23) B dX0_rateOfBits_13 rfl ?_
      refine z_ishr B dX0_rateOfBits_15 ?_
      refine z_fi (fun v_1 => ?_)
      refine z_istore_n (lv' := [(2, .int v_1), (0, .int (nI n_1)), (1, .int (nI b))]) B dX0_rateOfBits_16 rfl (Nat.le_of_ble_eq_true rfl) rfl ?_
      refine z_iload_n B dX0_rateOfBits_17 rfl 0 rfl ?_
      refine z_bipush (v := 117) B dX0_rateOfBits_18 rfl ?_
      refine z_icmp_ge (tgt := 27) B dX0_rateOfBits_20 rfl (fun c_3 => ?_) (fun c_3 => ?_)
      · obtain ⟨n_2, e_5, e_4, rfl⟩ := nI_ofge (c := 117) (by omega) (Int32.not_lt.mpr c_3)
        refine z_iload_n B dX0_rateOfBits_27 rfl 1 rfl ?_
        refine z_ldc (v := 8388607) B (by decide +kernel) dX0_rateOfBits_28 ?_
        refine z_iand B dX0_rateOfBits_30 ?_
        refine z_fi (fun v_2 => ?_)
        refine z_ldc (v := 8388608) B (by decide +kernel) dX0_rateOfBits_31 ?_
        refine z_ior B dX0_rateOfBits_33 ?_
        refine z_istore_n (lv' := [(3, .int (v_2 ||| 8388608)), (2, .int (nI n_2)), (0, .int (nI n_1)), (1, .int (nI b))]) B dX0_rateOfBits_34 rfl (Nat.le_of_ble_eq_true rfl) rfl ?_
        refine z_iload_n B dX0_rateOfBits_35 rfl 0 rfl ?_
        refine z_i2f B dX0_rateOfBits_36 ?_
        refine z_lconst (v := 1) B dX0_rateOfBits_37 rfl ?_
        refine z_sipush (v := 150) B dX0_rateOfBits_38 rfl ?_
        refine z_iload_n B dX0_rateOfBits_41 rfl 1 rfl ?_
        refine z_isub B dX0_rateOfBits_42 ?_
        refine z_fi (fun v_3 => ?_)
        refine z_lshl (v := 1 <<< ((v_3 : Int32).toInt64 &&& 63)) B dX0_rateOfBits_43 rfl ?_
        refine z_l2f B dX0_rateOfBits_44 ?_
        refine z_fdiv B dX0_rateOfBits_45 (vf32_of (fdiv1 _ _)) ?_
        refine z_ffq (P := nn32) (fdiv1 _ _) (fun v_4 hu9 => ?_)
        refine z_fstore (lv' := [(4, .float v_4), (3, .int (v_2 ||| 8388608)), (2, .int (nI n_2)), (0, .int (nI n_1)), (1, .int (nI b))]) B dX0_rateOfBits_46 (Nat.le_of_ble_eq_true rfl) rfl ?_
        refine z_fload B dX0_rateOfBits_48 0 rfl ?_
        refine z_fconst0 B dX0_rateOfBits_50 ?_
        refine z_fcmp B dX0_rateOfBits_51 ?_
        refine z_if_le (tgt := 72) B dX0_rateOfBits_52 rfl (fun c_4 => ?_) (fun c_4 => ?_)
        · refine z_iload_n B dX0_rateOfBits_72 rfl 4 rfl ?_
          exact z_ret_i B dX0_rateOfBits_73 ⟨⟨b, rfl, (show b < 2 ^ 31 by omega)⟩, rfl, hI, (fun b9 h9 => rfl)⟩
        · refine z_sipush (v := 1024) B dX0_rateOfBits_55 rfl ?_
          refine z_fconst1 B dX0_rateOfBits_58 ?_
          refine z_fload B dX0_rateOfBits_59 0 rfl ?_
          refine z_fdiv B dX0_rateOfBits_61 (vf32_of (inv_nn hu9)) ?_
          refine z_ldcf (v := 1056964608) B (by decide +kernel) dX0_rateOfBits_62 ?_
          refine z_fadd B dX0_rateOfBits_64 (vf32_of (inv_add_nn hu9)) ?_
          refine z_f2i B dX0_rateOfBits_65 ?_
          obtain ⟨n_3, b_1, e_6⟩ := f2i_nat c_4
          refine z_top (st1 := [.int (nI n_3), .int 1024]) (congrArg (fun w9 : Int32 => ([.int w9, .int 1024] : List Value)) (e_6)) ?_
          refine z_mmin (v := nI (min 1024 n_3)) B (by decide +kernel) (by decide +kernel) (by decide +kernel) (by decide +kernel) (nI_min (a := 1024) (b := n_3) (by omega) (by omega)) ⟨Nat.le_of_ble_eq_true rfl, Nat.le_of_ble_eq_true rfl⟩ ⟨Nat.le_of_ble_eq_true rfl, Nat.le_of_ble_eq_true rfl⟩ dX0_rateOfBits_66 ?_
          refine z_goto (tgt := 73) B dX0_rateOfBits_69 rfl ?_
          exact z_ret_i B dX0_rateOfBits_73 ⟨⟨min 1024 n_3, rfl, (show (min 1024 n_3) < 2 ^ 31 by omega)⟩, rfl, hI, (fun b9 h9 => rfl)⟩
      · refine z_sipush (v := 1024) B dX0_rateOfBits_23 rfl ?_
        exact z_ret_i B dX0_rateOfBits_26 ⟨⟨1024, rfl, (show 1024 < 2 ^ 31 by omega)⟩, rfl, hI, (fun b9 h9 => rfl)⟩
    · have e_8 : ¬ (n_1 ≤ 1065353216) := fun h9 => c_2 ((nI_leI (a := n_1) (b := 1065353216) (by omega) (by omega)).mpr h9)
      refine z_iload_n B dX0_rateOfBits_10 rfl 1 rfl ?_
      exact z_ret_i B dX0_rateOfBits_11 ⟨⟨b, rfl, (show b < 2 ^ 31 by omega)⟩, rfl, hI, (fun b9 h9 => rfl)⟩

/-! the key of four parts; what makes an observation be refused -/
noncomputable def keyE (a b d f : Int32) : Int64 := (((a.toInt64 <<< ((32 : Int32).toInt64 &&& 63)) ||| (b.toInt64 <<< ((24 : Int32).toInt64 &&& 63))) ||| (d.toInt64 <<< ((8 : Int32).toInt64 &&& 63))) ||| f.toInt64
noncomputable def KyP (a b d f : Int32) : Prop := 0 ≤ a.toInt ∧ a.toInt ≤ 255 ∧ 0 ≤ b.toInt ∧ b.toInt ≤ 255 ∧ 0 ≤ d.toInt ∧ d.toInt ≤ 65535 ∧ 0 ≤ f.toInt ∧ f.toInt ≤ 255
noncomputable def keyF (a b d f : Int32) : Int64 := @ite Int64 (KyP a b d f) (Classical.propDecidable _) (keyE a b d f) (-1)
theorem keyF_no {a b d f : Int32} (h : ¬ KyP a b d f) : keyF a b d f = -1 := if_neg h
theorem keyF_ok {a b d f : Int32} (h : KyP a b d f) : keyF a b d f = keyE a b d f := if_pos h
theorem ofN_shl {A s : Nat} (k : Int64) (hk : (k.toBitVec.smod 64).toNat = s) (h : A * 2 ^ s < 2 ^ 64) : Int64.ofNat A <<< k = Int64.ofNat (A * 2 ^ s) := by
  apply Int64.toBitVec_inj.mp
  rw [Int64.toBitVec_shiftLeft, BitVec.shiftLeft_eq', hk]
  apply BitVec.eq_of_toNat_eq
  have hp : 0 < 2 ^ s := Nat.pow_pos (by decide)
  have hA : A < 2 ^ 64 := Nat.lt_of_le_of_lt (Nat.le_mul_of_pos_right A hp) h
  rw [BitVec.toNat_shiftLeft, Int64.toBitVec_ofNat', Int64.toBitVec_ofNat', BitVec.toNat_ofNat, BitVec.toNat_ofNat, Nat.mod_eq_of_lt hA, Nat.shiftLeft_eq]
theorem ofN_or {A B s : Nat} (hB : B < 2 ^ s) (h : A * 2 ^ s + B < 2 ^ 64) : Int64.ofNat (A * 2 ^ s) ||| Int64.ofNat B = Int64.ofNat (A * 2 ^ s + B) := by
  apply Int64.toBitVec_inj.mp
  rw [Int64.toBitVec_or]
  apply BitVec.eq_of_toNat_eq
  rw [BitVec.toNat_or, Int64.toBitVec_ofNat', Int64.toBitVec_ofNat', Int64.toBitVec_ofNat', BitVec.toNat_ofNat, BitVec.toNat_ofNat, BitVec.toNat_ofNat, Nat.mod_eq_of_lt (show A * 2 ^ s < 2 ^ 64 by omega), Nat.mod_eq_of_lt (show B < 2 ^ 64 by omega), Nat.mod_eq_of_lt h, ← Nat.shiftLeft_eq, ← Nat.shiftLeft_add_eq_or_of_lt hB]
/-- the key as a number -/
theorem keyE_nat {a b d f : Nat} (ha : a ≤ 255) (hb : b ≤ 255) (hd : d ≤ 65535) (hf : f ≤ 255) : keyE (nI a) (nI b) (nI d) (nI f) = Int64.ofNat (((a * 2 ^ 8 + b) * 2 ^ 16 + d) * 2 ^ 8 + f) := by
  unfold keyE
  rw [nI_l (by omega), nI_l (by omega), nI_l (by omega), nI_l (by omega)]
  show (((Int64.ofNat a <<< ((32 : Int32).toInt64 &&& 63)) ||| (Int64.ofNat b <<< ((24 : Int32).toInt64 &&& 63))) ||| (Int64.ofNat d <<< ((8 : Int32).toInt64 &&& 63))) ||| Int64.ofNat f = _
  rw [ofN_shl (A := a) (s := 32) _ (by decide) (by omega), ofN_shl (A := b) (s := 24) _ (by decide) (by omega), ofN_shl (A := d) (s := 8) _ (by decide) (by omega)]
  rw [ofN_or (A := a) (B := b * 2 ^ 24) (s := 32) (by omega) (by omega)]
  rw [show a * 2 ^ 32 + b * 2 ^ 24 = (a * 2 ^ 8 + b) * 2 ^ 24 by omega, ofN_or (A := a * 2 ^ 8 + b) (B := d * 2 ^ 8) (s := 24) (by omega) (by omega)]
  rw [show (a * 2 ^ 8 + b) * 2 ^ 24 + d * 2 ^ 8 = ((a * 2 ^ 8 + b) * 2 ^ 16 + d) * 2 ^ 8 by omega, ofN_or (A := (a * 2 ^ 8 + b) * 2 ^ 16 + d) (B := f) (s := 8) (by omega) (by omega)]
theorem ofN_ne {A : Nat} (h : A < 2 ^ 63) : ¬ Int64.ofNat A = -1 := by
  intro e
  have h1 := congrArg Int64.toInt e
  have h2 : (Int64.ofNat A).toInt = A := by
    show (Int64.ofNat A).toBitVec.toInt = A
    rw [Int64.toBitVec_ofNat']
    have h4 := BitVec.toInt_eq_toNat_cond (x := BitVec.ofNat 64 A)
    rw [BitVec.toNat_ofNat, Nat.mod_eq_of_lt (show A < 2 ^ 64 by omega)] at h4
    split at h4 <;> omega
  rw [h2, show (-1 : Int64).toInt = -1 from by decide] at h1
  omega
theorem KyP_nat {a b d f : Int32} (h : KyP a b d f) : ∃ a1 b1 d1 f1 : Nat, a1 ≤ 255 ∧ b1 ≤ 255 ∧ d1 ≤ 65535 ∧ f1 ≤ 255 ∧ a = nI a1 ∧ b = nI b1 ∧ d = nI d1 ∧ f = nI f1 := by
  obtain ⟨h1, h2, h3, h4, h5, h6, h7, h8⟩ := h
  have g : ∀ {w : Int32} {m : Nat}, 0 ≤ w.toInt → w.toInt ≤ (m : Int) → m < 2 ^ 31 → ∃ n : Nat, n ≤ m ∧ w = nI n := by
    intro w m q1 q2 q3
    refine ⟨w.toInt.toNat, by omega, ?_⟩
    apply Int32.toInt_inj.mp
    rw [nI_toInt (by omega)]
    omega
  obtain ⟨a1, e1, e2⟩ := g h1 h2 (by decide)
  obtain ⟨b1, e3, e4⟩ := g h3 h4 (by decide)
  obtain ⟨d1, e5, e6⟩ := g h5 h6 (by decide)
  obtain ⟨f1, e7, e8⟩ := g h7 h8 (by decide)
  exact ⟨a1, b1, d1, f1, e1, e3, e5, e7, e2, e4, e6, e8⟩
theorem keyF_m1 {a b d f : Int32} : keyF a b d f = -1 ↔ ¬ KyP a b d f := by
  refine ⟨fun h h2 => ?_, keyF_no⟩
  rw [keyF_ok h2] at h
  obtain ⟨a1, b1, d1, f1, e1, e2, e3, e4, rfl, rfl, rfl, rfl⟩ := KyP_nat h2
  rw [keyE_nat e1 e2 e3 e4] at h
  exact ofN_ne (by omega) h
noncomputable def RqP (a : Int64) (b d : Int32) : Prop := a = -1 ∨ b.toInt < 1 ∨ 65535 < b.toInt ∨ d.toInt < 1 ∨ 200 < d.toInt
/-- a packet, as the reference asks for it -/
noncomputable def PkP (a b d f g : Int32) : Prop := 0 ≤ a.toInt ∧ a.toInt ≤ 255 ∧ 0 ≤ b.toInt ∧ b.toInt ≤ 255 ∧ 0 ≤ d.toInt ∧ d.toInt ≤ 65535 ∧ 0 ≤ f.toInt ∧ f.toInt ≤ 255 ∧ 1 ≤ g.toInt ∧ g.toInt ≤ 65535
theorem RqP_iff {a b d f g h : Int32} : RqP (keyF a b d f) g h ↔ ¬ (PkP a b d f g ∧ 1 ≤ h.toInt ∧ h.toInt ≤ 200) := by
  unfold RqP
  rw [keyF_m1]
  unfold KyP PkP
  constructor <;> intro q <;> omega
theorem nadd (a : Int32) (i : Nat) : a + nI i + 1 = a + nI (i + 1) := by
  rw [Int32.add_assoc]
  exact congrArg (fun w => a + w) (nI_add i 1)
theorem ladd_s {a : Int64} {i : Nat} (h : i < 2 ^ 31 - 1) : a + (nI i).toInt64 + 1 = a + (nI (i + 1)).toInt64 := by
  rw [Int64.add_assoc, nI_l (by omega), nI_l (by omega)]
  exact congrArg (fun w => a + w) (Int64.ofNat_add i 1).symm
theorem ladd_0 {a : Int64} : a = a + (nI 0).toInt64 := by
  rw [show (nI 0).toInt64 = 0 from by decide, Int64.add_zero]
theorem nadd_0 {a : Int32} : a = a + nI 0 := by
  rw [show nI 0 = (0 : Int32) from rfl, Int32.add_zero]

set_option maxHeartbeats 4000000 in
set_option maxRecDepth 100000 in
theorem s_X3_keyOf (G : EnvG) (l : Launch) (Φ : Hm) (sz x ca : Nat) (a : Int32) (b : Int32) (d : Int32) (f : Int32) (hx : G.2.2.2 ≤ x) (hI : In G x ca Φ)  : Ct G l yX3_keyOf wsX3_keyOf ({ frames := 0, cells := 0, slots := 0, locals := 0 }) 0 0 [.int a, .int b, .int d, .int f] Φ sz (fun v Φ1 sz1 => (v = some (.long (keyF a b d f))) ∧ sz1 = sz ∧ In G x (ca) Φ1 ∧ Fr x (fun j9 => False) Φ Φ1) := by
  refine Ct.of (cc := cX3_keyOf) (maxL := 4) (ret := (some .long)) (by decide) rfl (Nat.le_of_ble_eq_true rfl) ?_
  intro p9 e9 s9 m9 w9 t9 k9 B
  show Z p9 l e9 _ s9 m9 _ w9 t9 k9 _ G 4 0 [(0, .int a), (1, .int b), (2, .int d), (3, .int f)] [] Φ sz 0 0
  refine z_iload_n B dX3_keyOf_0 rfl 0 rfl ?_
  refine z_if_lt (tgt := 22) B dX3_keyOf_1 rfl (fun c_1 => ?_) (fun c_1 => ?_)
  · refine z_ldc2 (v := (-1)) B (by decide +kernel) dX3_keyOf_22 ?_
    have k_1 : (0 : Int32).toInt = 0 := by decide
    have q_1 : (a.toInt < (0 : Int32).toInt) := Int32.lt_iff_toInt_lt.mp c_1
    exact z_ret_l B dX3_keyOf_25 ⟨(congrArg (fun w9 : Int64 => some (Value.long w9)) (keyF_no (by unfold KyP; omega)).symm), rfl, hI, (fun b9 h9 => rfl)⟩
  · obtain ⟨n_1, e_1, rfl⟩ := nI_of c_1
    refine z_iload_n B dX3_keyOf_4 rfl 0 rfl ?_
    refine z_sipush (v := 255) B dX3_keyOf_5 rfl ?_
    refine z_icmp_gt (tgt := 22) B dX3_keyOf_8 rfl (fun c_2 => ?_) (fun c_2 => ?_)
    · have e_2 : 255 < n_1 := (nI_ltI (a := 255) (b := n_1) (by omega) (by omega)).mp c_2
      refine z_ldc2 (v := (-1)) B (by decide +kernel) dX3_keyOf_22 ?_
      have k_2 : (nI n_1).toInt = ((n_1 : Nat) : Int) := nI_toInt (by omega)
      have k_3 : (0 : Int32).toInt = 0 := by decide
      have q_2 : ¬ ((nI n_1).toInt < (0 : Int32).toInt) := fun h9 => c_1 (Int32.lt_iff_toInt_lt.mpr h9)
      have k_4 : (255 : Int32).toInt = 255 := by decide
      have q_3 : ((255 : Int32).toInt < (nI n_1).toInt) := Int32.lt_iff_toInt_lt.mp c_2
      exact z_ret_l B dX3_keyOf_25 ⟨(congrArg (fun w9 : Int64 => some (Value.long w9)) (keyF_no (by unfold KyP; omega)).symm), rfl, hI, (fun b9 h9 => rfl)⟩
    · have e_3 : ¬ (255 < n_1) := fun h9 => c_2 ((nI_ltI (a := 255) (b := n_1) (by omega) (by omega)).mpr h9)
      refine z_iload_n B dX3_keyOf_11 rfl 1 rfl ?_
      refine z_if_lt (tgt := 22) B dX3_keyOf_12 rfl (fun c_3 => ?_) (fun c_3 => ?_)
      · refine z_ldc2 (v := (-1)) B (by decide +kernel) dX3_keyOf_22 ?_
        have k_5 : (nI n_1).toInt = ((n_1 : Nat) : Int) := nI_toInt (by omega)
        have k_6 : (0 : Int32).toInt = 0 := by decide
        have q_4 : ¬ ((nI n_1).toInt < (0 : Int32).toInt) := fun h9 => c_1 (Int32.lt_iff_toInt_lt.mpr h9)
        have k_7 : (255 : Int32).toInt = 255 := by decide
        have q_5 : ¬ ((255 : Int32).toInt < (nI n_1).toInt) := fun h9 => c_2 (Int32.lt_iff_toInt_lt.mpr h9)
        have q_6 : (b.toInt < (0 : Int32).toInt) := Int32.lt_iff_toInt_lt.mp c_3
        exact z_ret_l B dX3_keyOf_25 ⟨(congrArg (fun w9 : Int64 => some (Value.long w9)) (keyF_no (by unfold KyP; omega)).symm), rfl, hI, (fun b9 h9 => rfl)⟩
      · obtain ⟨n_2, e_4, rfl⟩ := nI_of c_3
        refine z_iload_n B dX3_keyOf_15 rfl 1 rfl ?_
        refine z_sipush (v := 255) B dX3_keyOf_16 rfl ?_
        refine z_icmp_le (tgt := 26) B dX3_keyOf_19 rfl (fun c_4 => ?_) (fun c_4 => ?_)
        · have e_5 : n_2 ≤ 255 := (nI_leI (a := n_2) (b := 255) (by omega) (by omega)).mp c_4
          refine z_iload_n B dX3_keyOf_26 rfl 2 rfl ?_
          refine z_if_lt (tgt := 47) B dX3_keyOf_27 rfl (fun c_5 => ?_) (fun c_5 => ?_)
          · refine z_ldc2 (v := (-1)) B (by decide +kernel) dX3_keyOf_47 ?_
            have k_8 : (nI n_1).toInt = ((n_1 : Nat) : Int) := nI_toInt (by omega)
            have k_9 : (nI n_2).toInt = ((n_2 : Nat) : Int) := nI_toInt (by omega)
            have k_10 : (0 : Int32).toInt = 0 := by decide
            have q_7 : ¬ ((nI n_1).toInt < (0 : Int32).toInt) := fun h9 => c_1 (Int32.lt_iff_toInt_lt.mpr h9)
            have k_11 : (255 : Int32).toInt = 255 := by decide
            have q_8 : ¬ ((255 : Int32).toInt < (nI n_1).toInt) := fun h9 => c_2 (Int32.lt_iff_toInt_lt.mpr h9)
            have q_9 : ¬ ((nI n_2).toInt < (0 : Int32).toInt) := fun h9 => c_3 (Int32.lt_iff_toInt_lt.mpr h9)
            have q_10 : ((nI n_2).toInt ≤ (255 : Int32).toInt) := Int32.le_iff_toInt_le.mp c_4
            have q_11 : (d.toInt < (0 : Int32).toInt) := Int32.lt_iff_toInt_lt.mp c_5
            exact z_ret_l B dX3_keyOf_50 ⟨(congrArg (fun w9 : Int64 => some (Value.long w9)) (keyF_no (by unfold KyP; omega)).symm), rfl, hI, (fun b9 h9 => rfl)⟩
          · obtain ⟨n_3, e_6, rfl⟩ := nI_of c_5
            refine z_iload_n B dX3_keyOf_30 rfl 2 rfl ?_
            refine z_ldc (v := 65535) B (by decide +kernel) dX3_keyOf_31 ?_
            refine z_icmp_gt (tgt := 47) B dX3_keyOf_33 rfl (fun c_6 => ?_) (fun c_6 => ?_)
            · have e_7 : 65535 < n_3 := (nI_ltI (a := 65535) (b := n_3) (by omega) (by omega)).mp c_6
              refine z_ldc2 (v := (-1)) B (by decide +kernel) dX3_keyOf_47 ?_
              have k_12 : (nI n_1).toInt = ((n_1 : Nat) : Int) := nI_toInt (by omega)
              have k_13 : (nI n_2).toInt = ((n_2 : Nat) : Int) := nI_toInt (by omega)
              have k_14 : (nI n_3).toInt = ((n_3 : Nat) : Int) := nI_toInt (by omega)
              have k_15 : (0 : Int32).toInt = 0 := by decide
              have q_12 : ¬ ((nI n_1).toInt < (0 : Int32).toInt) := fun h9 => c_1 (Int32.lt_iff_toInt_lt.mpr h9)
              have k_16 : (255 : Int32).toInt = 255 := by decide
              have q_13 : ¬ ((255 : Int32).toInt < (nI n_1).toInt) := fun h9 => c_2 (Int32.lt_iff_toInt_lt.mpr h9)
              have q_14 : ¬ ((nI n_2).toInt < (0 : Int32).toInt) := fun h9 => c_3 (Int32.lt_iff_toInt_lt.mpr h9)
              have q_15 : ((nI n_2).toInt ≤ (255 : Int32).toInt) := Int32.le_iff_toInt_le.mp c_4
              have q_16 : ¬ ((nI n_3).toInt < (0 : Int32).toInt) := fun h9 => c_5 (Int32.lt_iff_toInt_lt.mpr h9)
              have k_17 : (65535 : Int32).toInt = 65535 := by decide
              have q_17 : ((65535 : Int32).toInt < (nI n_3).toInt) := Int32.lt_iff_toInt_lt.mp c_6
              exact z_ret_l B dX3_keyOf_50 ⟨(congrArg (fun w9 : Int64 => some (Value.long w9)) (keyF_no (by unfold KyP; omega)).symm), rfl, hI, (fun b9 h9 => rfl)⟩
            · have e_8 : ¬ (65535 < n_3) := fun h9 => c_6 ((nI_ltI (a := 65535) (b := n_3) (by omega) (by omega)).mpr h9)
              refine z_iload_n B dX3_keyOf_36 rfl 3 rfl ?_
              refine z_if_lt (tgt := 47) B dX3_keyOf_37 rfl (fun c_7 => ?_) (fun c_7 => ?_)
              · refine z_ldc2 (v := (-1)) B (by decide +kernel) dX3_keyOf_47 ?_
                have k_18 : (nI n_1).toInt = ((n_1 : Nat) : Int) := nI_toInt (by omega)
                have k_19 : (nI n_2).toInt = ((n_2 : Nat) : Int) := nI_toInt (by omega)
                have k_20 : (nI n_3).toInt = ((n_3 : Nat) : Int) := nI_toInt (by omega)
                have k_21 : (0 : Int32).toInt = 0 := by decide
                have q_18 : ¬ ((nI n_1).toInt < (0 : Int32).toInt) := fun h9 => c_1 (Int32.lt_iff_toInt_lt.mpr h9)
                have k_22 : (255 : Int32).toInt = 255 := by decide
                have q_19 : ¬ ((255 : Int32).toInt < (nI n_1).toInt) := fun h9 => c_2 (Int32.lt_iff_toInt_lt.mpr h9)
                have q_20 : ¬ ((nI n_2).toInt < (0 : Int32).toInt) := fun h9 => c_3 (Int32.lt_iff_toInt_lt.mpr h9)
                have q_21 : ((nI n_2).toInt ≤ (255 : Int32).toInt) := Int32.le_iff_toInt_le.mp c_4
                have q_22 : ¬ ((nI n_3).toInt < (0 : Int32).toInt) := fun h9 => c_5 (Int32.lt_iff_toInt_lt.mpr h9)
                have k_23 : (65535 : Int32).toInt = 65535 := by decide
                have q_23 : ¬ ((65535 : Int32).toInt < (nI n_3).toInt) := fun h9 => c_6 (Int32.lt_iff_toInt_lt.mpr h9)
                have q_24 : (f.toInt < (0 : Int32).toInt) := Int32.lt_iff_toInt_lt.mp c_7
                exact z_ret_l B dX3_keyOf_50 ⟨(congrArg (fun w9 : Int64 => some (Value.long w9)) (keyF_no (by unfold KyP; omega)).symm), rfl, hI, (fun b9 h9 => rfl)⟩
              · obtain ⟨n_4, e_9, rfl⟩ := nI_of c_7
                refine z_iload_n B dX3_keyOf_40 rfl 3 rfl ?_
                refine z_sipush (v := 255) B dX3_keyOf_41 rfl ?_
                refine z_icmp_le (tgt := 51) B dX3_keyOf_44 rfl (fun c_8 => ?_) (fun c_8 => ?_)
                · have e_10 : n_4 ≤ 255 := (nI_leI (a := n_4) (b := 255) (by omega) (by omega)).mp c_8
                  refine z_iload_n B dX3_keyOf_51 rfl 0 rfl ?_
                  refine z_i2l (v := (nI n_1).toInt64) B dX3_keyOf_52 rfl ?_
                  refine z_bipush (v := 32) B dX3_keyOf_53 rfl ?_
                  refine z_lshl (v := ((nI n_1).toInt64) <<< ((32 : Int32).toInt64 &&& 63)) B dX3_keyOf_55 rfl ?_
                  refine z_iload_n B dX3_keyOf_56 rfl 1 rfl ?_
                  refine z_i2l (v := (nI n_2).toInt64) B dX3_keyOf_57 rfl ?_
                  refine z_bipush (v := 24) B dX3_keyOf_58 rfl ?_
                  refine z_lshl (v := ((nI n_2).toInt64) <<< ((24 : Int32).toInt64 &&& 63)) B dX3_keyOf_60 rfl ?_
                  refine z_lor B dX3_keyOf_61 ?_
                  refine z_iload_n B dX3_keyOf_62 rfl 2 rfl ?_
                  refine z_i2l (v := (nI n_3).toInt64) B dX3_keyOf_63 rfl ?_
                  refine z_bipush (v := 8) B dX3_keyOf_64 rfl ?_
                  refine z_lshl (v := ((nI n_3).toInt64) <<< ((8 : Int32).toInt64 &&& 63)) B dX3_keyOf_66 rfl ?_
                  refine z_lor B dX3_keyOf_67 ?_
                  refine z_iload_n B dX3_keyOf_68 rfl 3 rfl ?_
                  refine z_i2l (v := (nI n_4).toInt64) B dX3_keyOf_69 rfl ?_
                  refine z_lor B dX3_keyOf_70 ?_
                  have k_24 : (nI n_1).toInt = ((n_1 : Nat) : Int) := nI_toInt (by omega)
                  have k_25 : (nI n_2).toInt = ((n_2 : Nat) : Int) := nI_toInt (by omega)
                  have k_26 : (nI n_3).toInt = ((n_3 : Nat) : Int) := nI_toInt (by omega)
                  have k_27 : (nI n_4).toInt = ((n_4 : Nat) : Int) := nI_toInt (by omega)
                  have k_28 : (0 : Int32).toInt = 0 := by decide
                  have q_25 : ¬ ((nI n_1).toInt < (0 : Int32).toInt) := fun h9 => c_1 (Int32.lt_iff_toInt_lt.mpr h9)
                  have k_29 : (255 : Int32).toInt = 255 := by decide
                  have q_26 : ¬ ((255 : Int32).toInt < (nI n_1).toInt) := fun h9 => c_2 (Int32.lt_iff_toInt_lt.mpr h9)
                  have q_27 : ¬ ((nI n_2).toInt < (0 : Int32).toInt) := fun h9 => c_3 (Int32.lt_iff_toInt_lt.mpr h9)
                  have q_28 : ((nI n_2).toInt ≤ (255 : Int32).toInt) := Int32.le_iff_toInt_le.mp c_4
                  have q_29 : ¬ ((nI n_3).toInt < (0 : Int32).toInt) := fun h9 => c_5 (Int32.lt_iff_toInt_lt.mpr h9)
                  have k_30 : (65535 : Int32).toInt = 65535 := by decide
                  have q_30 : ¬ ((65535 : Int32).toInt < (nI n_3).toInt) := fun h9 => c_6 (Int32.lt_iff_toInt_lt.mpr h9)
                  have q_31 : ¬ ((nI n_4).toInt < (0 : Int32).toInt) := fun h9 => c_7 (Int32.lt_iff_toInt_lt.mpr h9)
                  have q_32 : ((nI n_4).toInt ≤ (255 : Int32).toInt) := Int32.le_iff_toInt_le.mp c_8
                  exact z_ret_l B dX3_keyOf_71 ⟨(congrArg (fun w9 : Int64 => some (Value.long w9)) (keyF_ok (by unfold KyP; omega)).symm), rfl, hI, (fun b9 h9 => rfl)⟩
                · have e_11 : ¬ (n_4 ≤ 255) := fun h9 => c_8 ((nI_leI (a := n_4) (b := 255) (by omega) (by omega)).mpr h9)
                  refine z_ldc2 (v := (-1)) B (by decide +kernel) dX3_keyOf_47 ?_
                  have k_31 : (nI n_1).toInt = ((n_1 : Nat) : Int) := nI_toInt (by omega)
                  have k_32 : (nI n_2).toInt = ((n_2 : Nat) : Int) := nI_toInt (by omega)
                  have k_33 : (nI n_3).toInt = ((n_3 : Nat) : Int) := nI_toInt (by omega)
                  have k_34 : (nI n_4).toInt = ((n_4 : Nat) : Int) := nI_toInt (by omega)
                  have k_35 : (0 : Int32).toInt = 0 := by decide
                  have q_33 : ¬ ((nI n_1).toInt < (0 : Int32).toInt) := fun h9 => c_1 (Int32.lt_iff_toInt_lt.mpr h9)
                  have k_36 : (255 : Int32).toInt = 255 := by decide
                  have q_34 : ¬ ((255 : Int32).toInt < (nI n_1).toInt) := fun h9 => c_2 (Int32.lt_iff_toInt_lt.mpr h9)
                  have q_35 : ¬ ((nI n_2).toInt < (0 : Int32).toInt) := fun h9 => c_3 (Int32.lt_iff_toInt_lt.mpr h9)
                  have q_36 : ((nI n_2).toInt ≤ (255 : Int32).toInt) := Int32.le_iff_toInt_le.mp c_4
                  have q_37 : ¬ ((nI n_3).toInt < (0 : Int32).toInt) := fun h9 => c_5 (Int32.lt_iff_toInt_lt.mpr h9)
                  have k_37 : (65535 : Int32).toInt = 65535 := by decide
                  have q_38 : ¬ ((65535 : Int32).toInt < (nI n_3).toInt) := fun h9 => c_6 (Int32.lt_iff_toInt_lt.mpr h9)
                  have q_39 : ¬ ((nI n_4).toInt < (0 : Int32).toInt) := fun h9 => c_7 (Int32.lt_iff_toInt_lt.mpr h9)
                  have q_40 : ¬ ((nI n_4).toInt ≤ (255 : Int32).toInt) := fun h9 => c_8 (Int32.le_iff_toInt_le.mpr h9)
                  exact z_ret_l B dX3_keyOf_50 ⟨(congrArg (fun w9 : Int64 => some (Value.long w9)) (keyF_no (by unfold KyP; omega)).symm), rfl, hI, (fun b9 h9 => rfl)⟩
        · have e_12 : ¬ (n_2 ≤ 255) := fun h9 => c_4 ((nI_leI (a := n_2) (b := 255) (by omega) (by omega)).mpr h9)
          refine z_ldc2 (v := (-1)) B (by decide +kernel) dX3_keyOf_22 ?_
          have k_38 : (nI n_1).toInt = ((n_1 : Nat) : Int) := nI_toInt (by omega)
          have k_39 : (nI n_2).toInt = ((n_2 : Nat) : Int) := nI_toInt (by omega)
          have k_40 : (0 : Int32).toInt = 0 := by decide
          have q_41 : ¬ ((nI n_1).toInt < (0 : Int32).toInt) := fun h9 => c_1 (Int32.lt_iff_toInt_lt.mpr h9)
          have k_41 : (255 : Int32).toInt = 255 := by decide
          have q_42 : ¬ ((255 : Int32).toInt < (nI n_1).toInt) := fun h9 => c_2 (Int32.lt_iff_toInt_lt.mpr h9)
          have q_43 : ¬ ((nI n_2).toInt < (0 : Int32).toInt) := fun h9 => c_3 (Int32.lt_iff_toInt_lt.mpr h9)
          have q_44 : ¬ ((nI n_2).toInt ≤ (255 : Int32).toInt) := fun h9 => c_4 (Int32.le_iff_toInt_le.mpr h9)
          exact z_ret_l B dX3_keyOf_25 ⟨(congrArg (fun w9 : Int64 => some (Value.long w9)) (keyF_no (by unfold KyP; omega)).symm), rfl, hI, (fun b9 h9 => rfl)⟩

theorem hu_X0_readCandidate_X0 : ∀ w ∈ u_ws RX0 TX0 12, w ∈ wsX0_readCandidate := fun _ h => List.mem_cons_of_mem _ (List.mem_append_left _ (List.mem_append_left _ (List.mem_append_left _ (List.mem_append_right _ (h)))))

theorem hv_X0_readCandidate_22 : Cond.fieldLink RX0 22 "FlowExporter$Collector" (TX0 4).2.1 (TX0 4).2.2.1 ∈ wsX0_readCandidate := List.mem_cons_of_mem _ (List.mem_append_left _ (List.mem_append_left _ (List.mem_append_left _ (List.mem_append_left _ (List.mem_append_left _ (List.mem_of_getElem? (i := 0) rfl))))))

theorem fq_341 {x : Nat} : ∀ j9 : Nat, x + 132 = x + j9 → (j9 = 135) → False := by
  intro j9 h1 h2
  omega

theorem fq_342 {x : Nat} : ∀ j9 : Nat, x + 132 = x + j9 → ((135 ≤ j9 ∧ j9 < 137)) → False := by
  intro j9 h1 h2
  omega

theorem hu_X0_readCandidate_X10 : ∀ w ∈ u_ws RX10 TX10 4, w ∈ wsX0_readCandidate := fun _ h => List.mem_cons_of_mem _ (List.mem_append_left _ (List.mem_append_left _ (List.mem_append_right _ (h))))

theorem hv_X0_readCandidate_67 : Cond.fieldLink RX0 67 "FlowExporter$Template" (TX10 1).2.1 (TX10 1).2.2.1 ∈ wsX0_readCandidate := List.mem_cons_of_mem _ (List.mem_append_left _ (List.mem_append_left _ (List.mem_append_left _ (List.mem_append_left _ (List.mem_append_left _ (List.mem_of_getElem? (i := 1) rfl))))))

theorem fq_345 : ∀ j9 : Nat, (j9 = 135) → ((135 ≤ j9 ∧ j9 < 137)) := by
  intro j9 h
  omega

theorem fq_346 : ∀ j9 : Nat, (j9 = 135 ∨ j9 = 135 + 1) → ((135 ≤ j9 ∧ j9 < 137)) := by
  intro j9 h
  omega

set_option maxHeartbeats 4000000 in
set_option maxRecDepth 100000 in
theorem s_X0_readCandidate (G : EnvG) (l : Launch) (Φ : Hm) (sz x ca : Nat) (k : Nat) (a : Int32) (b : Int32) (hx : G.2.2.2 ≤ x) (hI : In G x ca Φ) (hk_k : kd k = 1) : Ct G l yX0_readCandidate wsX0_readCandidate ({ frames := 2, cells := 0, slots := 0, locals := 48 }) 0 0 [.ref (x + 132), .ref (x + (k)), .int a, .int b] Φ sz (fun v Φ1 sz1 => (∃ r9 : Int32, v = some (.int r9) ∧ (r9 = 0 ∨ r9 = 1)) ∧ sz1 = sz ∧ In G x (ca) Φ1 ∧ Fr x (fun j9 => (135 ≤ j9 ∧ j9 < 137)) Φ Φ1) := by
  refine Ct.of (cc := cX0_readCandidate) (maxL := 7) (ret := (some .boolean)) (by decide) rfl (Nat.le_of_ble_eq_true rfl) ?_
  intro p9 e9 s9 m9 w9 t9 k9 B
  show Z p9 l e9 _ s9 m9 _ w9 t9 k9 _ G 7 0 [(0, .ref (x + 132)), (1, .ref (x + (k))), (2, .int a), (3, .int b)] [] Φ sz 0 0
  refine z_aload_n B dX0_readCandidate_0 rfl 0 rfl ?_
  obtain ⟨n_1, v_1, v_2, h_1, b_1⟩ := in25 (k := 132) hI rfl
  have h_2 : Φ (x + 132) = some (o_ 2 [.ref (x + 3), .ref (x + 121), .ref (x + 133), .ref (x + 134), .ref (x + 135), .ref (x + 137), .ref (x + 138), .ref (x + 139), .ref (x + 140), .int (nI n_1), .int v_1, .int v_2]) := h_1
  refine z_get (ref := "FlowExporter$Collector") (C := RX0) (T := TX0) (N := 12) (ci := 2) (v := .ref (x + 135)) B hu_X0_readCandidate_X0 rfl 4 (Nat.le_of_ble_eq_true rfl) hv_X0_readCandidate_22 rfl h_2 rfl dX0_readCandidate_1 ?_
  obtain ⟨n_2, v_3, v_4, h_3, b_2⟩ := in8 (k := 135) hI rfl
  have h_4 : Φ (x + 135) = some (o_ 12 [.ref (x + 136), .int (nI n_2), .int v_3, .int v_4]) := h_3
  refine z_callV (As := []) (rest := []) B (s_X10_clear G l Φ sz x (ca) 135 hx hI rfl) (cwV 0 B.1.2.2.2.2 gX0_readCandidate_X10_clear rfl rfl rfl (by decide +kernel) ⟨Nat.le_of_ble_eq_true rfl, Nat.le_of_ble_eq_true rfl⟩) h_4 rfl rfl rfl rfl (Nat.le_of_ble_eq_true rfl) dX0_readCandidate_4 ⟨Nat.le_of_ble_eq_true rfl, Nat.le_of_ble_eq_true rfl⟩ (fun r_1 Φ1 sz1 st1 hp1 hs1 => ?_)
  obtain ⟨rfl, hq1, hI1, hF1⟩ := hp1
  subst sz1
  replace hs1 : st1 = [] := hs1
  subst st1
  replace hI1 : In G x (ca) Φ1 := hI1
  refine z_iconst (v := 0) B dX0_readCandidate_7 rfl ?_
  refine z_istore (lv' := [(4, .int 0), (0, .ref (x + 132)), (1, .ref (x + (k))), (2, .int a), (3, .int b)]) B dX0_readCandidate_8 (Nat.le_of_ble_eq_true rfl) rfl ?_
  refine z_lv [0, 1, 2, 3, 4] rfl ?_
  refine z_loop (α := Int32) (fun (a9 : Int32) Φi => In G x (ca) Φi ∧ Fr x (fun j9 => (135 ≤ j9 ∧ j9 < 137)) Φ1 Φi ∧ True) (fun a9 => [(4, .int a9), (0, .ref (x + 132)), (1, .ref (x + (k))), (2, .int a), (3, .int b)]) (fun a9 => ((b).toInt - (a9).toInt).toNat) ?_ (0) ⟨hI1, fun _ _ => rfl, trivial⟩
  rintro i_1 Φl1 ⟨hI2, hF2, -⟩ ih1
  replace hI2 : In G x (ca) Φl1 := hI2
  show Z p9 l e9 _ s9 m9 _ w9 t9 k9 _ G 7 10 [(4, .int i_1), (0, .ref (x + 132)), (1, .ref (x + (k))), (2, .int a), (3, .int b)] [] Φl1 _ _ _
  refine z_iload B dX0_readCandidate_10 0 rfl ?_
  refine z_iload_n B dX0_readCandidate_12 rfl 4 rfl ?_
  refine z_icmp_ge (tgt := 90) B dX0_readCandidate_13 rfl (fun c_1 => ?_) (fun c_1 => ?_)
  · refine z_aload_n B dX0_readCandidate_90 rfl 1 rfl ?_
    have h_5 : Φl1 (x + 132) = some (o_ 2 [.ref (x + 3), .ref (x + 121), .ref (x + 133), .ref (x + 134), .ref (x + 135), .ref (x + 137), .ref (x + 138), .ref (x + 139), .ref (x + 140), .int (nI n_1), .int v_1, .int v_2]) := ((hF2 (x + 132) fq_342).trans ((hF1 (x + 132) fq_341).trans h_2))
    refine z_get (ref := "FlowExporter$Collector") (C := RX0) (T := TX0) (N := 12) (ci := 2) (v := .ref (x + 135)) B hu_X0_readCandidate_X0 rfl 4 (Nat.le_of_ble_eq_true rfl) hv_X0_readCandidate_22 rfl h_5 rfl dX0_readCandidate_91 ?_
    obtain ⟨n_3, v_5, v_6, h_6, b_3⟩ := in8 (k := 135) hI2 rfl
    have h_7 : Φl1 (x + 135) = some (o_ 12 [.ref (x + 136), .int (nI n_3), .int v_5, .int v_6]) := h_6
    refine z_get (ref := "FlowExporter$Template") (C := RX10) (T := TX10) (N := 4) (ci := 12) (v := .int (nI n_3)) B hu_X0_readCandidate_X10 rfl 1 (Nat.le_of_ble_eq_true rfl) hv_X0_readCandidate_67 rfl h_7 rfl dX0_readCandidate_94 ?_
    refine z_if_le (tgt := 104) B dX0_readCandidate_97 rfl (fun c_2 => ?_) (fun c_2 => ?_)
    · have e_1 : n_3 ≤ 0 := (nI_leI (a := n_3) (b := 0) (by omega) (by omega)).mp c_2
      refine z_iconst (v := 0) B dX0_readCandidate_104 rfl ?_
      exact z_ret_z B dX0_readCandidate_105 (by decide) ⟨⟨_, rfl, by decide⟩, rfl, hI2, (fun b9 h9 => ((hF2 b9 h9).trans ((hF1 b9 (fun j9 h8 h7 => h9 j9 h8 (fq_345 j9 h7))).trans rfl)))⟩
    · have e_2 : ¬ (n_3 ≤ 0) := fun h9 => c_2 ((nI_leI (a := n_3) (b := 0) (by omega) (by omega)).mpr h9)
      refine z_iconst (v := 1) B dX0_readCandidate_100 rfl ?_
      refine z_goto (tgt := 105) B dX0_readCandidate_101 rfl ?_
      exact z_ret_z B dX0_readCandidate_105 (by decide) ⟨⟨_, rfl, by decide⟩, rfl, hI2, (fun b9 h9 => ((hF2 b9 h9).trans ((hF1 b9 (fun j9 h8 h7 => h9 j9 h8 (fq_345 j9 h7))).trans rfl)))⟩
  · refine z_aload_n B dX0_readCandidate_16 rfl 2 rfl ?_
    refine z_iload_n B dX0_readCandidate_17 rfl 3 rfl ?_
    refine z_iconst (v := 4) B dX0_readCandidate_18 rfl ?_
    refine z_iload B dX0_readCandidate_19 0 rfl ?_
    refine z_imul B dX0_readCandidate_21 ?_
    refine z_fi (fun v_7 => ?_)
    refine z_iadd B dX0_readCandidate_22 ?_
    refine z_fi (fun v_8 => ?_)
    refine z_iconst (v := 2) B dX0_readCandidate_23 rfl ?_
    obtain ⟨n_4, h_8, b_4⟩ := in1 (k := k) hI2 hk_k
    replace b_4 : n_4 ≤ cap (k) := b_4
    have b_5 := cap_le (k)
    have h_9 : Φl1 (x + (k)) = some (o_ 7 [.ref (x + (k + 1)), .int (nI n_4)]) := h_8
    refine z_callV (As := [.int v_8, .int 2]) (rest := []) B (s_X5_intAt G l Φl1 sz x (ca) k v_8 2 hx hI2 hk_k (show 2 ≤ 8 by omega)) (cwV 2 B.1.2.2.2.2 gX0_readCandidate_X5_intAt rfl rfl rfl (by decide +kernel) ⟨Nat.le_of_ble_eq_true rfl, Nat.le_of_ble_eq_true rfl⟩) h_9 rfl rfl rfl rfl (Nat.le_of_ble_eq_true rfl) dX0_readCandidate_24 ⟨Nat.le_of_ble_eq_true rfl, Nat.le_of_ble_eq_true rfl⟩ (fun r_2 Φ2 sz2 st2 hp2 hs2 => ?_)
    obtain ⟨⟨v_9, rfl⟩, hq2, hI3, hF3⟩ := hp2
    subst sz2
    replace hs2 : st2 = [.int v_9] := hs2
    subst st2
    replace hI3 : In G x (ca) Φ2 := hI3
    refine z_istore (lv' := [(5, .int v_9), (4, .int i_1), (0, .ref (x + 132)), (1, .ref (x + (k))), (2, .int a), (3, .int b)]) B dX0_readCandidate_27 (Nat.le_of_ble_eq_true rfl) rfl ?_
    refine z_aload_n B dX0_readCandidate_29 rfl 3 rfl ?_
    refine z_iload_n B dX0_readCandidate_30 rfl 4 rfl ?_
    refine z_iconst (v := 4) B dX0_readCandidate_31 rfl ?_
    refine z_iload B dX0_readCandidate_32 1 rfl ?_
    refine z_imul B dX0_readCandidate_34 ?_
    refine z_fi (fun v_10 => ?_)
    refine z_iadd B dX0_readCandidate_35 ?_
    refine z_fi (fun v_11 => ?_)
    refine z_iconst (v := 2) B dX0_readCandidate_36 rfl ?_
    refine z_iadd B dX0_readCandidate_37 ?_
    refine z_fi (fun v_12 => ?_)
    refine z_iconst (v := 2) B dX0_readCandidate_38 rfl ?_
    have h_10 : Φ2 (x + (k)) = some (o_ 7 [.ref (x + (k + 1)), .int (nI n_4)]) := ((hF3 (x + (k)) (fun j9 h8 h7 => (show False from h7).elim)).trans h_9)
    refine z_callV (As := [.int v_12, .int 2]) (rest := []) B (s_X5_intAt G l Φ2 sz x (ca) k v_12 2 hx hI3 hk_k (show 2 ≤ 8 by omega)) (cwV 2 B.1.2.2.2.2 gX0_readCandidate_X5_intAt rfl rfl rfl (by decide +kernel) ⟨Nat.le_of_ble_eq_true rfl, Nat.le_of_ble_eq_true rfl⟩) h_10 rfl rfl rfl rfl (Nat.le_of_ble_eq_true rfl) dX0_readCandidate_39 ⟨Nat.le_of_ble_eq_true rfl, Nat.le_of_ble_eq_true rfl⟩ (fun r_3 Φ3 sz3 st3 hp3 hs3 => ?_)
    obtain ⟨⟨v_13, rfl⟩, hq3, hI4, hF4⟩ := hp3
    subst sz3
    replace hs3 : st3 = [.int v_13] := hs3
    subst st3
    replace hI4 : In G x (ca) Φ3 := hI4
    refine z_istore (lv' := [(6, .int v_13), (5, .int v_9), (4, .int i_1), (0, .ref (x + 132)), (1, .ref (x + (k))), (2, .int a), (3, .int b)]) B dX0_readCandidate_42 (Nat.le_of_ble_eq_true rfl) rfl ?_
    refine z_iload B dX0_readCandidate_44 1 rfl ?_
    refine z_bipush (v := 9) B dX0_readCandidate_46 rfl ?_
    refine z_icmp_ge (tgt := 73) B dX0_readCandidate_48 rfl (fun c_3 => ?_) (fun c_3 => ?_)
    · obtain ⟨n_5, e_4, e_3, rfl⟩ := nI_ofge (c := 9) (by omega) (Int32.not_lt.mpr c_3)
      refine z_iconst (v := 0) B dX0_readCandidate_73 rfl ?_
      exact z_ret_z B dX0_readCandidate_74 (by decide) ⟨⟨_, rfl, by decide⟩, rfl, hI4, (fun b9 h9 => ((hF4 b9 (fun j9 h8 h7 => (show False from h7).elim)).trans ((hF3 b9 (fun j9 h8 h7 => (show False from h7).elim)).trans ((hF2 b9 h9).trans ((hF1 b9 (fun j9 h8 h7 => h9 j9 h8 (fq_345 j9 h7))).trans rfl)))))⟩
    · refine z_iload B dX0_readCandidate_51 0 rfl ?_
      refine z_iload B dX0_readCandidate_53 1 rfl ?_
      refine z_callSN (As := [.int v_9]) (rest := [.int v_13]) B (s_X11_lengthOf G l Φ3 sz x (ca) v_9 hx hI4 ) ⟨va_cnB 1 B.1.2.2.2.2 gX0_readCandidate_X11_lengthOf_n134 rfl rfl rfl (B.2.2.2.2.1.2.2.1 (RX0, 134, yX11_lengthOf) (by decide +kernel)) (B.1.2.2.2.2 _ (by decide +kernel)) (by decide +kernel) ⟨Nat.le_of_ble_eq_true rfl, Nat.le_of_ble_eq_true rfl⟩, B.1.2.2.2.2 _ (by decide +kernel), trivial⟩ rfl rfl (Nat.le_of_ble_eq_true rfl) dX0_readCandidate_55 ⟨Nat.le_of_ble_eq_true rfl, Nat.le_of_ble_eq_true rfl⟩ (fun r_4 Φ4 sz4 st4 hp4 hs4 => ?_)
      obtain ⟨⟨n_6, rfl, b_6⟩, hq4, hI5, hF5⟩ := hp4
      subst sz4
      replace hs4 : st4 = [.int (nI n_6), .int v_13] := hs4
      subst st4
      replace hI5 : In G x (ca) Φ4 := hI5
      replace b_6 : n_6 ≤ 8 := b_6
      refine z_icmp_ne (tgt := 73) B dX0_readCandidate_58 rfl (fun c_4 => ?_) (fun c_4 => ?_)
      · refine z_iconst (v := 0) B dX0_readCandidate_73 rfl ?_
        exact z_ret_z B dX0_readCandidate_74 (by decide) ⟨⟨_, rfl, by decide⟩, rfl, hI5, (fun b9 h9 => ((hF5 b9 (fun j9 h8 h7 => (show False from h7).elim)).trans ((hF4 b9 (fun j9 h8 h7 => (show False from h7).elim)).trans ((hF3 b9 (fun j9 h8 h7 => (show False from h7).elim)).trans ((hF2 b9 h9).trans ((hF1 b9 (fun j9 h8 h7 => h9 j9 h8 (fq_345 j9 h7))).trans rfl))))))⟩
      · refine z_aload_n B dX0_readCandidate_61 rfl 3 rfl ?_
        have h_11 : Φ4 (x + 132) = some (o_ 2 [.ref (x + 3), .ref (x + 121), .ref (x + 133), .ref (x + 134), .ref (x + 135), .ref (x + 137), .ref (x + 138), .ref (x + 139), .ref (x + 140), .int (nI n_1), .int v_1, .int v_2]) := ((hF5 (x + 132) (fun j9 h8 h7 => (show False from h7).elim)).trans ((hF4 (x + 132) (fun j9 h8 h7 => (show False from h7).elim)).trans ((hF3 (x + 132) (fun j9 h8 h7 => (show False from h7).elim)).trans ((hF2 (x + 132) fq_342).trans ((hF1 (x + 132) fq_341).trans h_2)))))
        refine z_get (ref := "FlowExporter$Collector") (C := RX0) (T := TX0) (N := 12) (ci := 2) (v := .ref (x + 135)) B hu_X0_readCandidate_X0 rfl 4 (Nat.le_of_ble_eq_true rfl) hv_X0_readCandidate_22 rfl h_11 rfl dX0_readCandidate_62 ?_
        refine z_iload B dX0_readCandidate_65 1 rfl ?_
        obtain ⟨n_7, v_14, v_15, h_12, b_7⟩ := in8 (k := 135) hI5 rfl
        have h_13 : Φ4 (x + 135) = some (o_ 12 [.ref (x + 136), .int (nI n_7), .int v_14, .int v_15]) := h_12
        refine z_callV (As := [.int v_9]) (rest := []) B (s_X10_has G l Φ4 sz x (ca) 135 v_9 hx hI5 rfl) (cwV 1 B.1.2.2.2.2 gX0_readCandidate_X10_has rfl rfl rfl (by decide +kernel) ⟨Nat.le_of_ble_eq_true rfl, Nat.le_of_ble_eq_true rfl⟩) h_13 rfl rfl rfl rfl (Nat.le_of_ble_eq_true rfl) dX0_readCandidate_67 ⟨Nat.le_of_ble_eq_true rfl, Nat.le_of_ble_eq_true rfl⟩ (fun r_5 Φ5 sz5 st5 hp5 hs5 => ?_)
        obtain ⟨⟨v_16, rfl, b_8⟩, hq5, hI6, hF6⟩ := hp5
        subst sz5
        replace hs5 : st5 = [.int v_16] := hs5
        subst st5
        replace hI6 : In G x (ca) Φ5 := hI6
        refine z_if_eq (tgt := 75) B dX0_readCandidate_70 rfl (fun c_5 => ?_) (fun c_5 => ?_)
        · refine z_aload_n B dX0_readCandidate_75 rfl 3 rfl ?_
          have h_14 : Φ5 (x + 132) = some (o_ 2 [.ref (x + 3), .ref (x + 121), .ref (x + 133), .ref (x + 134), .ref (x + 135), .ref (x + 137), .ref (x + 138), .ref (x + 139), .ref (x + 140), .int (nI n_1), .int v_1, .int v_2]) := ((hF6 (x + 132) (fun j9 h8 h7 => (show False from h7).elim)).trans h_11)
          refine z_get (ref := "FlowExporter$Collector") (C := RX0) (T := TX0) (N := 12) (ci := 2) (v := .ref (x + 135)) B hu_X0_readCandidate_X0 rfl 4 (Nat.le_of_ble_eq_true rfl) hv_X0_readCandidate_22 rfl h_14 rfl dX0_readCandidate_76 ?_
          refine z_iload B dX0_readCandidate_79 1 rfl ?_
          have h_15 : Φ5 (x + 135) = some (o_ 12 [.ref (x + 136), .int (nI n_7), .int v_14, .int v_15]) := ((hF6 (x + 135) (fun j9 h8 h7 => (show False from h7).elim)).trans h_13)
          refine z_callV (As := [.int v_9]) (rest := []) B (s_X10_addField G l Φ5 sz x (ca) 135 v_9 hx hI6 rfl) (cwV 1 B.1.2.2.2.2 gX0_readCandidate_X10_addField rfl rfl rfl (by decide +kernel) ⟨Nat.le_of_ble_eq_true rfl, Nat.le_of_ble_eq_true rfl⟩) h_15 rfl rfl rfl rfl (Nat.le_of_ble_eq_true rfl) dX0_readCandidate_81 ⟨Nat.le_of_ble_eq_true rfl, Nat.le_of_ble_eq_true rfl⟩ (fun r_6 Φ6 sz6 st6 hp6 hs6 => ?_)
          obtain ⟨rfl, hq6, hI7, hF7⟩ := hp6
          subst sz6
          replace hs6 : st6 = [] := hs6
          subst st6
          replace hI7 : In G x (ca) Φ6 := hI7
          refine z_iinc (k := 2) (v := i_1 + 1) (lv' := [(4, .int (i_1 + 1)), (6, .int v_13), (5, .int v_9), (0, .ref (x + 132)), (1, .ref (x + (k))), (2, .int a), (3, .int b)]) B dX0_readCandidate_84 rfl rfl (Nat.le_of_ble_eq_true rfl) rfl ?_
          refine z_goto (tgt := 10) B dX0_readCandidate_87 rfl ?_
          refine z_lv [0, 3, 4, 5, 6] rfl ?_
          exact ih1 (i_1 + 1) Φ6 (up_dec c_1) ⟨hI7, (fun b9 h9 => ((hF7 b9 (fun j9 h8 h7 => h9 j9 h8 (fq_346 j9 h7))).trans ((hF6 b9 (fun j9 h8 h7 => (show False from h7).elim)).trans ((hF5 b9 (fun j9 h8 h7 => (show False from h7).elim)).trans ((hF4 b9 (fun j9 h8 h7 => (show False from h7).elim)).trans ((hF3 b9 (fun j9 h8 h7 => (show False from h7).elim)).trans ((hF2 b9 h9).trans rfl))))))), trivial⟩
        · refine z_iconst (v := 0) B dX0_readCandidate_73 rfl ?_
          exact z_ret_z B dX0_readCandidate_74 (by decide) ⟨⟨_, rfl, by decide⟩, rfl, hI6, (fun b9 h9 => ((hF6 b9 (fun j9 h8 h7 => (show False from h7).elim)).trans ((hF5 b9 (fun j9 h8 h7 => (show False from h7).elim)).trans ((hF4 b9 (fun j9 h8 h7 => (show False from h7).elim)).trans ((hF3 b9 (fun j9 h8 h7 => (show False from h7).elim)).trans ((hF2 b9 h9).trans ((hF1 b9 (fun j9 h8 h7 => h9 j9 h8 (fq_345 j9 h7))).trans rfl)))))))⟩

theorem hu_X0_readTemplates_X0 : ∀ w ∈ u_ws RX0 TX0 12, w ∈ wsX0_readTemplates := fun _ h => List.mem_cons_of_mem _ (List.mem_append_left _ (List.mem_append_left _ (List.mem_append_left _ (List.mem_append_right _ (h)))))

theorem hv_X0_readTemplates_11 : Cond.fieldLink RX0 11 "FlowExporter$Collector" (TX0 2).2.1 (TX0 2).2.2.1 ∈ wsX0_readTemplates := List.mem_cons_of_mem _ (List.mem_append_left _ (List.mem_append_left _ (List.mem_append_left _ (List.mem_append_left _ (List.mem_append_left _ (List.mem_of_getElem? (i := 0) rfl))))))

theorem hv_X0_readTemplates_22 : Cond.fieldLink RX0 22 "FlowExporter$Collector" (TX0 4).2.1 (TX0 4).2.2.1 ∈ wsX0_readTemplates := List.mem_cons_of_mem _ (List.mem_append_left _ (List.mem_append_left _ (List.mem_append_left _ (List.mem_append_left _ (List.mem_append_left _ (List.mem_of_getElem? (i := 1) rfl))))))

theorem hv_X0_readTemplates_17 : Cond.fieldLink RX0 17 "FlowExporter$Collector" (TX0 3).2.1 (TX0 3).2.2.1 ∈ wsX0_readTemplates := List.mem_cons_of_mem _ (List.mem_append_left _ (List.mem_append_left _ (List.mem_append_left _ (List.mem_append_left _ (List.mem_append_left _ (List.mem_of_getElem? (i := 2) rfl))))))

theorem fq_351 : ∀ j9 : Nat, ((135 ≤ j9 ∧ j9 < 137)) → ((134 ≤ j9 ∧ j9 < 137) ∨ (141 ≤ j9 ∧ j9 < 149)) := by
  intro j9 h
  omega

set_option maxHeartbeats 4000000 in
set_option maxRecDepth 100000 in
theorem s_X0_readTemplates (G : EnvG) (l : Launch) (Φ : Hm) (sz x ca : Nat) (k : Nat) (a : Int32) (b : Int32) (d : Int32) (hx : G.2.2.2 ≤ x) (hI : In G x ca Φ) (hk_k : kd k = 1) : Ct G l yX0_readTemplates wsX0_readTemplates ({ frames := 3, cells := 0, slots := 0, locals := 74 }) 0 0 [.ref (x + 132), .ref (x + (k)), .int a, .int b, .int d] Φ sz (fun v Φ1 sz1 => (v = none) ∧ sz1 = sz ∧ In G x (ca) Φ1 ∧ Fr x (fun j9 => (134 ≤ j9 ∧ j9 < 137) ∨ (141 ≤ j9 ∧ j9 < 149)) Φ Φ1) := by
  refine Ct.of (cc := cX0_readTemplates) (maxL := 9) (ret := none) (by decide) rfl (Nat.le_of_ble_eq_true rfl) ?_
  intro p9 e9 s9 m9 w9 t9 k9 B
  show Z p9 l e9 _ s9 m9 _ w9 t9 k9 _ G 9 0 [(0, .ref (x + 132)), (1, .ref (x + (k))), (2, .int a), (3, .int b), (4, .int d)] [] Φ sz 0 0
  refine z_iload_n B dX0_readTemplates_0 rfl 2 rfl ?_
  refine z_istore (lv' := [(5, .int a), (0, .ref (x + 132)), (1, .ref (x + (k))), (2, .int a), (3, .int b), (4, .int d)]) B dX0_readTemplates_1 (Nat.le_of_ble_eq_true rfl) rfl ?_
  refine z_iconst (v := 0) B dX0_readTemplates_3 rfl ?_
  refine z_istore (lv' := [(6, .int 0), (5, .int a), (0, .ref (x + 132)), (1, .ref (x + (k))), (2, .int a), (3, .int b), (4, .int d)]) B dX0_readTemplates_4 (Nat.le_of_ble_eq_true rfl) rfl ?_
  refine z_lv [0, 1, 2, 3, 4, 5, 6] rfl ?_
  refine z_loop (α := Nat × Int32) (fun (a9 : Nat × Int32) Φi => In G x (ca) Φi ∧ Fr x (fun j9 => (134 ≤ j9 ∧ j9 < 137) ∨ (141 ≤ j9 ∧ j9 < 149)) Φ Φi ∧ (a9.1 ≤ 701) ∧ True) (fun a9 => [(6, .int (nI (a9.1))), (5, .int a9.2), (0, .ref (x + 132)), (1, .ref (x + (k))), (2, .int a), (3, .int b), (4, .int d)]) (fun a9 => 701 - a9.1) ?_ (0, a) ⟨hI, fun _ _ => rfl, (show 0 ≤ 701 by omega), trivial⟩
  rintro ⟨i_1, i_2⟩ Φl1 ⟨hI1, hF1, b_1, -⟩ ih1
  replace hI1 : In G x (ca) Φl1 := hI1
  replace b_1 : i_1 ≤ 701 := b_1
  show Z p9 l e9 _ s9 m9 _ w9 t9 k9 _ G 9 6 [(6, .int (nI i_1)), (5, .int i_2), (0, .ref (x + 132)), (1, .ref (x + (k))), (2, .int a), (3, .int b), (4, .int d)] [] Φl1 _ _ _
  refine z_iload B dX0_readTemplates_6 0 rfl ?_
  refine z_sipush (v := 700) B dX0_readTemplates_8 rfl ?_
  refine z_icmp_gt (tgt := 126) B dX0_readTemplates_11 rfl (fun c_1 => ?_) (fun c_1 => ?_)
  · have e_1 : 700 < i_1 := (nI_ltI (a := 700) (b := i_1) (by omega) (by omega)).mp c_1
    exact z_ret_v B dX0_readTemplates_126 ⟨rfl, rfl, hI1, (fun b9 h9 => ((hF1 b9 h9).trans rfl))⟩
  · have e_2 : ¬ (700 < i_1) := fun h9 => c_1 ((nI_ltI (a := 700) (b := i_1) (by omega) (by omega)).mpr h9)
    refine z_iload_n B dX0_readTemplates_14 rfl 5 rfl ?_
    refine z_iload B dX0_readTemplates_15 1 rfl ?_
    refine z_isub B dX0_readTemplates_17 ?_
    refine z_fi (fun v_1 => ?_)
    refine z_iconst (v := 4) B dX0_readTemplates_18 rfl ?_
    refine z_icmp_lt (tgt := 126) B dX0_readTemplates_19 rfl (fun c_2 => ?_) (fun c_2 => ?_)
    · exact z_ret_v B dX0_readTemplates_126 ⟨rfl, rfl, hI1, (fun b9 h9 => ((hF1 b9 h9).trans rfl))⟩
    · obtain ⟨n_1, e_4, e_3, rfl⟩ := nI_ofge (c := 4) (by omega) c_2
      refine z_aload_n B dX0_readTemplates_22 rfl 3 rfl ?_
      refine z_iload B dX0_readTemplates_23 1 rfl ?_
      refine z_iconst (v := 2) B dX0_readTemplates_25 rfl ?_
      obtain ⟨n_2, h_1, b_2⟩ := in1 (k := k) hI1 hk_k
      replace b_2 : n_2 ≤ cap (k) := b_2
      have b_3 := cap_le (k)
      have h_2 : Φl1 (x + (k)) = some (o_ 7 [.ref (x + (k + 1)), .int (nI n_2)]) := h_1
      refine z_callV (As := [.int i_2, .int 2]) (rest := []) B (s_X5_intAt G l Φl1 sz x (ca) k i_2 2 hx hI1 hk_k (show 2 ≤ 8 by omega)) (cwV 2 B.1.2.2.2.2 gX0_readTemplates_X5_intAt rfl rfl rfl (by decide +kernel) ⟨Nat.le_of_ble_eq_true rfl, Nat.le_of_ble_eq_true rfl⟩) h_2 rfl rfl rfl rfl (Nat.le_of_ble_eq_true rfl) dX0_readTemplates_26 ⟨Nat.le_of_ble_eq_true rfl, Nat.le_of_ble_eq_true rfl⟩ (fun r_1 Φ1 sz1 st1 hp1 hs1 => ?_)
      obtain ⟨⟨v_2, rfl⟩, hq1, hI2, hF2⟩ := hp1
      subst sz1
      replace hs1 : st1 = [.int v_2] := hs1
      subst st1
      replace hI2 : In G x (ca) Φ1 := hI2
      refine z_sipush (v := 256) B dX0_readTemplates_29 rfl ?_
      refine z_isub B dX0_readTemplates_32 ?_
      refine z_fi (fun v_3 => ?_)
      refine z_istore (lv' := [(7, .int v_3), (6, .int (nI i_1)), (5, .int i_2), (0, .ref (x + 132)), (1, .ref (x + (k))), (2, .int a), (3, .int b), (4, .int d)]) B dX0_readTemplates_33 (Nat.le_of_ble_eq_true rfl) rfl ?_
      refine z_aload_n B dX0_readTemplates_35 rfl 4 rfl ?_
      refine z_iload B dX0_readTemplates_36 2 rfl ?_
      refine z_iconst (v := 2) B dX0_readTemplates_38 rfl ?_
      refine z_iadd B dX0_readTemplates_39 ?_
      refine z_fi (fun v_4 => ?_)
      refine z_iconst (v := 2) B dX0_readTemplates_40 rfl ?_
      have h_3 : Φ1 (x + (k)) = some (o_ 7 [.ref (x + (k + 1)), .int (nI n_2)]) := ((hF2 (x + (k)) (fun j9 h8 h7 => (show False from h7).elim)).trans h_2)
      refine z_callV (As := [.int v_4, .int 2]) (rest := []) B (s_X5_intAt G l Φ1 sz x (ca) k v_4 2 hx hI2 hk_k (show 2 ≤ 8 by omega)) (cwV 2 B.1.2.2.2.2 gX0_readTemplates_X5_intAt rfl rfl rfl (by decide +kernel) ⟨Nat.le_of_ble_eq_true rfl, Nat.le_of_ble_eq_true rfl⟩) h_3 rfl rfl rfl rfl (Nat.le_of_ble_eq_true rfl) dX0_readTemplates_41 ⟨Nat.le_of_ble_eq_true rfl, Nat.le_of_ble_eq_true rfl⟩ (fun r_2 Φ2 sz2 st2 hp2 hs2 => ?_)
      obtain ⟨⟨v_5, rfl⟩, hq2, hI3, hF3⟩ := hp2
      subst sz2
      replace hs2 : st2 = [.int v_5] := hs2
      subst st2
      replace hI3 : In G x (ca) Φ2 := hI3
      refine z_istore (lv' := [(8, .int v_5), (7, .int v_3), (6, .int (nI i_1)), (5, .int i_2), (0, .ref (x + 132)), (1, .ref (x + (k))), (2, .int a), (3, .int b), (4, .int d)]) B dX0_readTemplates_44 (Nat.le_of_ble_eq_true rfl) rfl ?_
      refine z_iinc (k := 3) (v := i_2 + 4) (lv' := [(5, .int (i_2 + 4)), (8, .int v_5), (7, .int v_3), (6, .int (nI i_1)), (0, .ref (x + 132)), (1, .ref (x + (k))), (2, .int a), (3, .int b), (4, .int d)]) B dX0_readTemplates_46 rfl rfl (Nat.le_of_ble_eq_true rfl) rfl ?_
      refine z_iload B dX0_readTemplates_49 2 rfl ?_
      refine z_if_lt (tgt := 71) B dX0_readTemplates_51 rfl (fun c_3 => ?_) (fun c_3 => ?_)
      · exact z_ret_v B dX0_readTemplates_71 ⟨rfl, rfl, hI3, (fun b9 h9 => ((hF3 b9 (fun j9 h8 h7 => (show False from h7).elim)).trans ((hF2 b9 (fun j9 h8 h7 => (show False from h7).elim)).trans ((hF1 b9 h9).trans rfl))))⟩
      · obtain ⟨n_3, e_5, rfl⟩ := nI_of c_3
        refine z_iload B dX0_readTemplates_54 2 rfl ?_
        refine z_iconst (v := 4) B dX0_readTemplates_56 rfl ?_
        refine z_icmp_ge (tgt := 71) B dX0_readTemplates_57 rfl (fun c_4 => ?_) (fun c_4 => ?_)
        · have e_6 : 4 ≤ n_3 := (nI_leI (a := 4) (b := n_3) (by omega) (by omega)).mp c_4
          exact z_ret_v B dX0_readTemplates_71 ⟨rfl, rfl, hI3, (fun b9 h9 => ((hF3 b9 (fun j9 h8 h7 => (show False from h7).elim)).trans ((hF2 b9 (fun j9 h8 h7 => (show False from h7).elim)).trans ((hF1 b9 h9).trans rfl))))⟩
        · have e_7 : ¬ (4 ≤ n_3) := fun h9 => c_4 ((nI_leI (a := 4) (b := n_3) (by omega) (by omega)).mpr h9)
          refine z_iconst (v := 4) B dX0_readTemplates_60 rfl ?_
          refine z_iload B dX0_readTemplates_61 1 rfl ?_
          refine z_imul B dX0_readTemplates_63 ?_
          refine z_fi (fun v_6 => ?_)
          refine z_iload_n B dX0_readTemplates_64 rfl 7 rfl ?_
          refine z_iload B dX0_readTemplates_65 0 rfl ?_
          refine z_isub B dX0_readTemplates_67 ?_
          refine z_fi (fun v_7 => ?_)
          refine z_icmp_le (tgt := 72) B dX0_readTemplates_68 rfl (fun c_5 => ?_) (fun c_5 => ?_)
          · refine z_aload_n B dX0_readTemplates_72 rfl 4 rfl ?_
            refine z_aload_n B dX0_readTemplates_73 rfl 5 rfl ?_
            refine z_iload B dX0_readTemplates_74 0 rfl ?_
            refine z_iload B dX0_readTemplates_76 1 rfl ?_
            obtain ⟨n_4, v_8, v_9, h_4, b_4⟩ := in25 (k := 132) hI3 rfl
            have h_5 : Φ2 (x + 132) = some (o_ 2 [.ref (x + 3), .ref (x + 121), .ref (x + 133), .ref (x + 134), .ref (x + 135), .ref (x + 137), .ref (x + 138), .ref (x + 139), .ref (x + 140), .int (nI n_4), .int v_8, .int v_9]) := h_4
            refine z_callV (As := [.ref (x + (k)), .int (i_2 + 4), .int v_5]) (rest := []) B (s_X0_readCandidate G l Φ2 sz x (ca) k (i_2 + 4) v_5 hx hI3 hk_k) (cwV 3 B.1.2.2.2.2 gX0_readTemplates_X0_readCandidate rfl rfl rfl (by decide +kernel) ⟨Nat.le_of_ble_eq_true rfl, Nat.le_of_ble_eq_true rfl⟩) h_5 rfl rfl rfl rfl (Nat.le_of_ble_eq_true rfl) dX0_readTemplates_78 ⟨Nat.le_of_ble_eq_true rfl, Nat.le_of_ble_eq_true rfl⟩ (fun r_3 Φ3 sz3 st3 hp3 hs3 => ?_)
            obtain ⟨⟨v_10, rfl, b_5⟩, hq3, hI4, hF4⟩ := hp3
            subst sz3
            replace hs3 : st3 = [.int v_10] := hs3
            subst st3
            replace hI4 : In G x (ca) Φ3 := hI4
            refine z_if_ne (tgt := 85) B dX0_readTemplates_81 rfl (fun c_6 => ?_) (fun c_6 => ?_)
            · refine z_aload_n B dX0_readTemplates_85 rfl 4 rfl ?_
              have h_6 : Φ3 (x + 132) = some (o_ 2 [.ref (x + 3), .ref (x + 121), .ref (x + 133), .ref (x + 134), .ref (x + 135), .ref (x + 137), .ref (x + 138), .ref (x + 139), .ref (x + 140), .int (nI n_4), .int v_8, .int v_9]) := ((hF4 (x + 132) fq_342).trans h_5)
              refine z_get (ref := "FlowExporter$Collector") (C := RX0) (T := TX0) (N := 12) (ci := 2) (v := .ref (x + 133)) B hu_X0_readTemplates_X0 rfl 2 (Nat.le_of_ble_eq_true rfl) hv_X0_readTemplates_11 rfl h_6 rfl dX0_readTemplates_86 ?_
              refine z_iload B dX0_readTemplates_89 2 rfl ?_
              obtain ⟨f_1, h_7, r_4⟩ := in26 (k := 133) hI4 rfl
              have h_8 : Φ3 (x + 133) = some (aq_ G 4 4 f_1) := h_7
              refine z_aald (b := x + (133 + 8 + 2 * n_3)) B rfl h_8 (vp_in_nI (by omega) (by omega)) ((congrArg f_1 (nI_clamp (by omega))).trans (r_4 n_3 (by omega))) dX0_readTemplates_91 ?_
              refine z_aload_n B dX0_readTemplates_92 rfl 4 rfl ?_
              refine z_get (ref := "FlowExporter$Collector") (C := RX0) (T := TX0) (N := 12) (ci := 2) (v := .ref (x + 135)) B hu_X0_readTemplates_X0 rfl 4 (Nat.le_of_ble_eq_true rfl) hv_X0_readTemplates_22 rfl h_6 rfl dX0_readTemplates_93 ?_
              refine z_sipush (v := 511) B dX0_readTemplates_96 rfl ?_
              obtain ⟨n_5, v_11, v_12, h_9, b_6⟩ := in8 (k := 133 + 8 + 2 * n_3) hI4 (kd_k (by omega))
              have h_10 : Φ3 (x + (133 + 8 + 2 * n_3)) = some (o_ 12 [.ref (x + (133 + 8 + 2 * n_3 + 1)), .int (nI n_5), .int v_11, .int v_12]) := h_9
              refine z_callV (As := [.ref (x + 135), .int 511]) (rest := []) B (s_X10_copyFrom G l Φ3 sz x (ca) (133 + 8 + 2 * n_3) 135 511 hx hI4 (kd_k (by omega)) rfl (show (133 + 8 + 2 * n_3) ≠ 135 by omega) (show (133 + 8 + 2 * n_3) + 1 ≠ 135 by omega)) (cwV 2 B.1.2.2.2.2 gX0_readTemplates_X10_copyFrom rfl rfl rfl (by decide +kernel) ⟨Nat.le_of_ble_eq_true rfl, Nat.le_of_ble_eq_true rfl⟩) h_10 rfl rfl rfl rfl (Nat.le_of_ble_eq_true rfl) dX0_readTemplates_99 ⟨Nat.le_of_ble_eq_true rfl, Nat.le_of_ble_eq_true rfl⟩ (fun r_5 Φ4 sz4 st4 hp4 hs4 => ?_)
              obtain ⟨rfl, hq4, hI5, hF5⟩ := hp4
              subst sz4
              replace hs4 : st4 = [] := hs4
              subst st4
              replace hI5 : In G x (ca) Φ4 := hI5
              refine z_aload_n B dX0_readTemplates_102 rfl 4 rfl ?_
              have h_11 : Φ4 (x + 132) = some (o_ 2 [.ref (x + 3), .ref (x + 121), .ref (x + 133), .ref (x + 134), .ref (x + 135), .ref (x + 137), .ref (x + 138), .ref (x + 139), .ref (x + 140), .int (nI n_4), .int v_8, .int v_9]) := ((hF5 (x + 132) (fun j9 h8 h7 => by have h6 : j9 = (133 + 8 + 2 * n_3) ∨ j9 = (133 + 8 + 2 * n_3) + 1 := h7; omega)).trans h_6)
              refine z_get (ref := "FlowExporter$Collector") (C := RX0) (T := TX0) (N := 12) (ci := 2) (v := .ref (x + 134)) B hu_X0_readTemplates_X0 rfl 3 (Nat.le_of_ble_eq_true rfl) hv_X0_readTemplates_17 rfl h_11 rfl dX0_readTemplates_103 ?_
              refine z_iload B dX0_readTemplates_106 2 rfl ?_
              refine z_iload B dX0_readTemplates_108 8 rfl ?_
              obtain ⟨f_2, h_12⟩ := in15 (k := 134) hI5 rfl
              have h_13 : Φ4 (x + 134) = some (ai_ G 4 f_2) := h_12
              refine z_iast B h_13 (Nat.le_trans hx (Nat.le_add_right x 134)) (vp_in_nI (by omega) (by omega)) dX0_readTemplates_110 (fun Φ5 hΦ1 => ?_)
              have h_14 : Φ5 (x + 134) = some (ai_ G 4 (upd f_2 (nI n_3).toNatClampNeg d)) := fset_at hΦ1
              have hI6 : In G x (ca) Φ5 := In.put (k := 134) hI5 hΦ1 (ok15 (k := 134) rfl ⟨_, rfl⟩)
              refine z_iload B dX0_readTemplates_111 0 rfl ?_
              refine z_iconst (v := 4) B dX0_readTemplates_113 rfl ?_
              refine z_iload B dX0_readTemplates_114 1 rfl ?_
              refine z_imul B dX0_readTemplates_116 ?_
              refine z_fi (fun v_13 => ?_)
              refine z_iadd B dX0_readTemplates_117 ?_
              refine z_fi (fun v_14 => ?_)
              refine z_istore (lv' := [(5, .int v_14), (8, .int v_5), (7, .int (nI n_3)), (6, .int (nI i_1)), (0, .ref (x + 132)), (1, .ref (x + (k))), (2, .int a), (3, .int b), (4, .int d)]) B dX0_readTemplates_118 (Nat.le_of_ble_eq_true rfl) rfl ?_
              refine z_iinc (k := 3) (v := nI (i_1 + 1)) (lv' := [(6, .int (nI (i_1 + 1))), (5, .int v_14), (8, .int v_5), (7, .int (nI n_3)), (0, .ref (x + 132)), (1, .ref (x + (k))), (2, .int a), (3, .int b), (4, .int d)]) B dX0_readTemplates_120 rfl (nI_add i_1 1) (Nat.le_of_ble_eq_true rfl) rfl ?_
              refine z_goto (tgt := 6) B dX0_readTemplates_123 rfl ?_
              refine z_lv [0, 1, 4, 5, 6, 7, 8] rfl ?_
              exact ih1 (i_1 + 1, v_14) Φ5 (show 701 - (i_1 + 1) < 701 - i_1 by omega) ⟨hI6, (fun b9 h9 => ((fset_fr hΦ1 (fun h8 => h9 (134) h8 (show (134 ≤ 134 ∧ 134 < 137) ∨ (141 ≤ 134 ∧ 134 < 149) by decide))).trans ((hF5 b9 (fun j9 h8 h7 => h9 j9 h8 (show (134 ≤ j9 ∧ j9 < 137) ∨ (141 ≤ j9 ∧ j9 < 149) by have h6 : j9 = (133 + 8 + 2 * n_3) ∨ j9 = (133 + 8 + 2 * n_3) + 1 := h7; omega))).trans ((hF4 b9 (fun j9 h8 h7 => h9 j9 h8 (fq_351 j9 h7))).trans ((hF3 b9 (fun j9 h8 h7 => (show False from h7).elim)).trans ((hF2 b9 (fun j9 h8 h7 => (show False from h7).elim)).trans ((hF1 b9 h9).trans rfl))))))), (show (i_1 + 1) ≤ 701 by omega), trivial⟩
            · exact z_ret_v B dX0_readTemplates_84 ⟨rfl, rfl, hI4, (fun b9 h9 => ((hF4 b9 (fun j9 h8 h7 => h9 j9 h8 (fq_351 j9 h7))).trans ((hF3 b9 (fun j9 h8 h7 => (show False from h7).elim)).trans ((hF2 b9 (fun j9 h8 h7 => (show False from h7).elim)).trans ((hF1 b9 h9).trans rfl)))))⟩
          · exact z_ret_v B dX0_readTemplates_71 ⟨rfl, rfl, hI3, (fun b9 h9 => ((hF3 b9 (fun j9 h8 h7 => (show False from h7).elim)).trans ((hF2 b9 (fun j9 h8 h7 => (show False from h7).elim)).trans ((hF1 b9 h9).trans rfl))))⟩

theorem hu_X0_decode_X0 : ∀ w ∈ u_ws RX0 TX0 12, w ∈ wsX0_decode := fun _ h => List.mem_cons_of_mem _ (List.mem_append_left _ (List.mem_append_left _ (List.mem_append_left _ (List.mem_append_left _ (List.mem_append_left _ (List.mem_append_right _ (h)))))))

theorem hv_X0_decode_36 : Cond.fieldLink RX0 36 "FlowExporter$Collector" (TX0 8).2.1 (TX0 8).2.2.1 ∈ wsX0_decode := List.mem_cons_of_mem _ (List.mem_append_left _ (List.mem_append_left _ (List.mem_append_left _ (List.mem_append_left _ (List.mem_append_left _ (List.mem_append_left _ (List.mem_append_left _ (List.mem_of_getElem? (i := 0) rfl))))))))

theorem hu_X0_decode_X10 : ∀ w ∈ u_ws RX10 TX10 4, w ∈ wsX0_decode := fun _ h => List.mem_cons_of_mem _ (List.mem_append_left _ (List.mem_append_left _ (List.mem_append_left _ (List.mem_append_left _ (List.mem_append_right _ (h))))))

theorem hv_X0_decode_67 : Cond.fieldLink RX0 67 "FlowExporter$Template" (TX10 1).2.1 (TX10 1).2.2.1 ∈ wsX0_decode := List.mem_cons_of_mem _ (List.mem_append_left _ (List.mem_append_left _ (List.mem_append_left _ (List.mem_append_left _ (List.mem_append_left _ (List.mem_append_left _ (List.mem_append_left _ (List.mem_of_getElem? (i := 1) rfl))))))))

theorem fq_356 {x : Nat} : ∀ j9 : Nat, x + 132 = x + j9 → (j9 = 140) → False := by
  intro j9 h1 h2
  omega

theorem hv_X0_decode_53 : Cond.fieldLink RX0 53 "FlowExporter$Collector" (TX0 1).2.1 (TX0 1).2.2.1 ∈ wsX0_decode := List.mem_cons_of_mem _ (List.mem_append_left _ (List.mem_append_left _ (List.mem_append_left _ (List.mem_append_left _ (List.mem_append_left _ (List.mem_append_left _ (List.mem_append_left _ (List.mem_of_getElem? (i := 2) rfl))))))))

theorem fq_358 {x : Nat} : ∀ j9 : Nat, x + 132 = x + j9 → (121 ≤ j9 ∧ j9 < 132) → False := by
  intro j9 h1 h2
  omega

theorem fq_359 {x : Nat} : ∀ j9 : Nat, x + 140 = x + j9 → (121 ≤ j9 ∧ j9 < 132) → False := by
  intro j9 h1 h2
  omega

theorem hv_X0_decode_49 : Cond.fieldLink RX0 49 "FlowExporter$Collector" (TX0 0).2.1 (TX0 0).2.2.1 ∈ wsX0_decode := List.mem_cons_of_mem _ (List.mem_append_left _ (List.mem_append_left _ (List.mem_append_left _ (List.mem_append_left _ (List.mem_append_left _ (List.mem_append_left _ (List.mem_append_left _ (List.mem_of_getElem? (i := 4) rfl))))))))

theorem fq_361 : ∀ j9 : Nat, (j9 = 140) → ((121 ≤ j9 ∧ j9 < 133) ∨ (139 ≤ j9 ∧ j9 < 141)) := by
  intro j9 h
  omega

theorem fq_362 : ∀ j9 : Nat, (121 ≤ j9 ∧ j9 < 132) → ((121 ≤ j9 ∧ j9 < 133) ∨ (139 ≤ j9 ∧ j9 < 141)) := by
  intro j9 h
  omega

theorem fq_363 : ∀ j9 : Nat, (124 ≤ j9 ∧ j9 < 132) → ((121 ≤ j9 ∧ j9 < 133) ∨ (139 ≤ j9 ∧ j9 < 141)) := by
  intro j9 h
  omega

theorem hv_X0_decode_32 : Cond.fieldLink RX0 32 "FlowExporter$Collector" (TX0 7).2.1 (TX0 7).2.2.1 ∈ wsX0_decode := List.mem_cons_of_mem _ (List.mem_append_left _ (List.mem_append_left _ (List.mem_append_left _ (List.mem_append_left _ (List.mem_append_left _ (List.mem_append_left _ (List.mem_append_left _ (List.mem_of_getElem? (i := 3) rfl))))))))

set_option maxRecDepth 20000 in
theorem ggX0_readTemplates_X5_intAt : GoodIn wsX0_readTemplates wsX5_intAt := goodIn_ca ((goodIn_ca (goodIn_r _ [8, 9, 10, 11, 7, 12, 13, 14] rfl (by decide +kernel)) (goodIn_sub (fun _ h => List.mem_cons_of_mem _ (List.mem_append_left _ (List.mem_append_left _ (List.mem_append_right _ h)))) gw_wsX50))) (goodIn_sub (fun _ h => List.mem_cons_of_mem _ (List.mem_append_right _ h)) (all_fg _))
set_option maxRecDepth 20000 in
theorem gX0_readTemplates_X5_intAt : GoodIn wsX0_readTemplates (wsV RX0 92 RX5 yX5_intAt wsX5_intAt) := goodIn_app (goodIn_of _ (by decide +kernel)) ggX0_readTemplates_X5_intAt
set_option maxRecDepth 20000 in
theorem ggX0_readTemplates_X0_readCandidate : GoodIn wsX0_readTemplates wsX0_readCandidate := goodIn_ca ((goodIn_ca (goodIn_ca (goodIn_ca (goodIn_r _ [19, 2, 20, 21, 22, 23, 24, 25, 26, 27, 28, 4, 5, 6, 7, 8, 9, 10, 11, 12, 13, 14, 29, 30, 31, 32, 33, 34, 35, 36, 37, 38, 39, 40, 41] rfl (by decide +kernel)) (goodIn_sub (fun _ h => List.mem_cons_of_mem _ (List.mem_append_left _ (List.mem_append_left _ (List.mem_append_left _ (List.mem_append_right _ h))))) gw_wsX00)) (goodIn_sub (fun _ h => List.mem_cons_of_mem _ (List.mem_append_left _ (List.mem_append_right _ h))) gw_wsX100)) (goodIn_sub (fun _ h => List.mem_cons_of_mem _ (List.mem_append_left _ (List.mem_append_left _ (List.mem_append_right _ h)))) gw_wsX50))) (goodIn_sub (fun _ h => List.mem_cons_of_mem _ (List.mem_append_right _ h)) (all_fg _))
set_option maxRecDepth 20000 in
theorem gX0_readTemplates_X0_readCandidate : GoodIn wsX0_readTemplates (wsV RX0 126 RX0 yX0_readCandidate wsX0_readCandidate) := goodIn_app (goodIn_of _ (by decide +kernel)) ggX0_readTemplates_X0_readCandidate
set_option maxRecDepth 20000 in
theorem ggX0_readTemplates_X10_copyFrom : GoodIn wsX0_readTemplates wsX10_copyFrom := goodIn_ca ((goodIn_ca (goodIn_r _ [45, 26, 46, 22, 23, 24, 25, 27, 28, 47, 48, 49, 50, 41, 51, 38, 39, 40] rfl (by decide +kernel)) (goodIn_sub (fun _ h => List.mem_cons_of_mem _ (List.mem_append_left _ (List.mem_append_right _ h))) gw_wsX100))) (goodIn_sub (fun _ h => List.mem_cons_of_mem _ (List.mem_append_right _ h)) (all_fg _))
set_option maxRecDepth 20000 in
theorem gX0_readTemplates_X10_copyFrom : GoodIn wsX0_readTemplates (wsV RX0 130 RX10 yX10_copyFrom wsX10_copyFrom) := goodIn_app (goodIn_of _ (by decide +kernel)) ggX0_readTemplates_X10_copyFrom
theorem dX0_readTemplates_0 : decode cX0_readTemplates 0 = .ok (.iload_n 2, 1) := by decide +kernel
theorem dX0_readTemplates_1 : decode cX0_readTemplates 1 = .ok (.istore 5, 2) := by decide +kernel
theorem dX0_readTemplates_3 : decode cX0_readTemplates 3 = .ok (.iconst 0, 1) := by decide +kernel
theorem dX0_readTemplates_4 : decode cX0_readTemplates 4 = .ok (.istore 6, 2) := by decide +kernel
theorem dX0_readTemplates_6 : decode cX0_readTemplates 6 = .ok (.iload 6, 2) := by decide +kernel
theorem dX0_readTemplates_8 : decode cX0_readTemplates 8 = .ok (.sipush 700, 3) := by decide +kernel
theorem dX0_readTemplates_11 : decode cX0_readTemplates 11 = .ok (.if_icmp .gt 115, 3) := by decide +kernel
theorem dX0_readTemplates_14 : decode cX0_readTemplates 14 = .ok (.iload_n 3, 1) := by decide +kernel
theorem dX0_readTemplates_15 : decode cX0_readTemplates 15 = .ok (.iload 5, 2) := by decide +kernel
theorem dX0_readTemplates_17 : decode cX0_readTemplates 17 = .ok (.isub, 1) := by decide +kernel
theorem dX0_readTemplates_18 : decode cX0_readTemplates 18 = .ok (.iconst 4, 1) := by decide +kernel
theorem dX0_readTemplates_19 : decode cX0_readTemplates 19 = .ok (.if_icmp .lt 107, 3) := by decide +kernel
theorem dX0_readTemplates_22 : decode cX0_readTemplates 22 = .ok (.aload_n 1, 1) := by decide +kernel
theorem dX0_readTemplates_23 : decode cX0_readTemplates 23 = .ok (.iload 5, 2) := by decide +kernel
theorem dX0_readTemplates_25 : decode cX0_readTemplates 25 = .ok (.iconst 2, 1) := by decide +kernel
theorem dX0_readTemplates_26 : decode cX0_readTemplates 26 = .ok (.invokevirtual 92, 3) := by decide +kernel
theorem dX0_readTemplates_29 : decode cX0_readTemplates 29 = .ok (.sipush 256, 3) := by decide +kernel
theorem dX0_readTemplates_32 : decode cX0_readTemplates 32 = .ok (.isub, 1) := by decide +kernel
theorem dX0_readTemplates_33 : decode cX0_readTemplates 33 = .ok (.istore 7, 2) := by decide +kernel
theorem dX0_readTemplates_35 : decode cX0_readTemplates 35 = .ok (.aload_n 1, 1) := by decide +kernel
theorem dX0_readTemplates_36 : decode cX0_readTemplates 36 = .ok (.iload 5, 2) := by decide +kernel
theorem dX0_readTemplates_38 : decode cX0_readTemplates 38 = .ok (.iconst 2, 1) := by decide +kernel
theorem dX0_readTemplates_39 : decode cX0_readTemplates 39 = .ok (.iadd, 1) := by decide +kernel
theorem dX0_readTemplates_40 : decode cX0_readTemplates 40 = .ok (.iconst 2, 1) := by decide +kernel
theorem dX0_readTemplates_41 : decode cX0_readTemplates 41 = .ok (.invokevirtual 92, 3) := by decide +kernel
theorem dX0_readTemplates_44 : decode cX0_readTemplates 44 = .ok (.istore 8, 2) := by decide +kernel
theorem dX0_readTemplates_46 : decode cX0_readTemplates 46 = .ok (.iinc 5 4, 3) := by decide +kernel
theorem dX0_readTemplates_49 : decode cX0_readTemplates 49 = .ok (.iload 7, 2) := by decide +kernel
theorem dX0_readTemplates_51 : decode cX0_readTemplates 51 = .ok (.ifCond .lt 20, 3) := by decide +kernel
theorem dX0_readTemplates_54 : decode cX0_readTemplates 54 = .ok (.iload 7, 2) := by decide +kernel
theorem dX0_readTemplates_56 : decode cX0_readTemplates 56 = .ok (.iconst 4, 1) := by decide +kernel
theorem dX0_readTemplates_57 : decode cX0_readTemplates 57 = .ok (.if_icmp .ge 14, 3) := by decide +kernel
theorem dX0_readTemplates_60 : decode cX0_readTemplates 60 = .ok (.iconst 4, 1) := by decide +kernel
theorem dX0_readTemplates_61 : decode cX0_readTemplates 61 = .ok (.iload 8, 2) := by decide +kernel
theorem dX0_readTemplates_63 : decode cX0_readTemplates 63 = .ok (.imul, 1) := by decide +kernel
theorem dX0_readTemplates_64 : decode cX0_readTemplates 64 = .ok (.iload_n 3, 1) := by decide +kernel
theorem dX0_readTemplates_65 : decode cX0_readTemplates 65 = .ok (.iload 5, 2) := by decide +kernel
theorem dX0_readTemplates_67 : decode cX0_readTemplates 67 = .ok (.isub, 1) := by decide +kernel
theorem dX0_readTemplates_68 : decode cX0_readTemplates 68 = .ok (.if_icmp .le 4, 3) := by decide +kernel
theorem dX0_readTemplates_71 : decode cX0_readTemplates 71 = .ok (.return_, 1) := by decide +kernel
theorem dX0_readTemplates_72 : decode cX0_readTemplates 72 = .ok (.aload_n 0, 1) := by decide +kernel
theorem dX0_readTemplates_73 : decode cX0_readTemplates 73 = .ok (.aload_n 1, 1) := by decide +kernel
theorem dX0_readTemplates_74 : decode cX0_readTemplates 74 = .ok (.iload 5, 2) := by decide +kernel
theorem dX0_readTemplates_76 : decode cX0_readTemplates 76 = .ok (.iload 8, 2) := by decide +kernel
theorem dX0_readTemplates_78 : decode cX0_readTemplates 78 = .ok (.invokevirtual 126, 3) := by decide +kernel
theorem dX0_readTemplates_81 : decode cX0_readTemplates 81 = .ok (.ifCond .ne 4, 3) := by decide +kernel
theorem dX0_readTemplates_84 : decode cX0_readTemplates 84 = .ok (.return_, 1) := by decide +kernel
theorem dX0_readTemplates_85 : decode cX0_readTemplates 85 = .ok (.aload_n 0, 1) := by decide +kernel
theorem dX0_readTemplates_86 : decode cX0_readTemplates 86 = .ok (.getfield 11, 3) := by decide +kernel
theorem dX0_readTemplates_89 : decode cX0_readTemplates 89 = .ok (.iload 7, 2) := by decide +kernel
theorem dX0_readTemplates_91 : decode cX0_readTemplates 91 = .ok (.aaload, 1) := by decide +kernel
theorem dX0_readTemplates_92 : decode cX0_readTemplates 92 = .ok (.aload_n 0, 1) := by decide +kernel
theorem dX0_readTemplates_93 : decode cX0_readTemplates 93 = .ok (.getfield 22, 3) := by decide +kernel
theorem dX0_readTemplates_96 : decode cX0_readTemplates 96 = .ok (.sipush 511, 3) := by decide +kernel
theorem dX0_readTemplates_99 : decode cX0_readTemplates 99 = .ok (.invokevirtual 130, 3) := by decide +kernel
theorem dX0_readTemplates_102 : decode cX0_readTemplates 102 = .ok (.aload_n 0, 1) := by decide +kernel
theorem dX0_readTemplates_103 : decode cX0_readTemplates 103 = .ok (.getfield 17, 3) := by decide +kernel
theorem dX0_readTemplates_106 : decode cX0_readTemplates 106 = .ok (.iload 7, 2) := by decide +kernel
theorem dX0_readTemplates_108 : decode cX0_readTemplates 108 = .ok (.iload 4, 2) := by decide +kernel
theorem dX0_readTemplates_110 : decode cX0_readTemplates 110 = .ok (.iastore, 1) := by decide +kernel
theorem dX0_readTemplates_111 : decode cX0_readTemplates 111 = .ok (.iload 5, 2) := by decide +kernel
theorem dX0_readTemplates_113 : decode cX0_readTemplates 113 = .ok (.iconst 4, 1) := by decide +kernel
theorem dX0_readTemplates_114 : decode cX0_readTemplates 114 = .ok (.iload 8, 2) := by decide +kernel
theorem dX0_readTemplates_116 : decode cX0_readTemplates 116 = .ok (.imul, 1) := by decide +kernel
theorem dX0_readTemplates_117 : decode cX0_readTemplates 117 = .ok (.iadd, 1) := by decide +kernel
theorem dX0_readTemplates_118 : decode cX0_readTemplates 118 = .ok (.istore 5, 2) := by decide +kernel
theorem dX0_readTemplates_120 : decode cX0_readTemplates 120 = .ok (.iinc 6 1, 3) := by decide +kernel
theorem dX0_readTemplates_123 : decode cX0_readTemplates 123 = .ok (.goto (-117), 3) := by decide +kernel
theorem dX0_readTemplates_126 : decode cX0_readTemplates 126 = .ok (.return_, 1) := by decide +kernel
set_option maxRecDepth 20000 in
theorem ggX0_readCandidate_X10_clear : GoodIn wsX0_readCandidate wsX10_clear := (goodIn_ca (goodIn_r _ [7, 8, 9, 10] rfl (by decide +kernel)) (goodIn_sub (fun _ h => List.mem_cons_of_mem _ (List.mem_append_left _ (List.mem_append_left _ (List.mem_append_right _ h)))) gw_wsX100))
set_option maxRecDepth 20000 in
theorem gX0_readCandidate_X10_clear : GoodIn wsX0_readCandidate (wsV RX0 70 RX10 yX10_clear wsX10_clear) := goodIn_app (goodIn_of _ (by decide +kernel)) ggX0_readCandidate_X10_clear
set_option maxRecDepth 20000 in
theorem ggX0_readCandidate_X5_intAt : GoodIn wsX0_readCandidate wsX5_intAt := goodIn_ca ((goodIn_ca (goodIn_r _ [15, 16, 17, 18, 14, 19, 20, 21] rfl (by decide +kernel)) (goodIn_sub (fun _ h => List.mem_cons_of_mem _ (List.mem_append_left _ (List.mem_append_right _ h))) gw_wsX50))) (goodIn_sub (fun _ h => List.mem_cons_of_mem _ (List.mem_append_right _ h)) (all_fg _))
set_option maxRecDepth 20000 in
theorem gX0_readCandidate_X5_intAt : GoodIn wsX0_readCandidate (wsV RX0 92 RX5 yX5_intAt wsX5_intAt) := goodIn_app (goodIn_of _ (by decide +kernel)) ggX0_readCandidate_X5_intAt
set_option maxRecDepth 20000 in
theorem ggX0_readCandidate_X11_lengthOf : GoodIn wsX0_readCandidate wsX11_lengthOf := goodIn_ca ((goodIn_r _ [24, 25] rfl (by decide +kernel))) (goodIn_sub (fun _ h => List.mem_cons_of_mem _ (List.mem_append_right _ h)) (all_fg _))
set_option maxRecDepth 20000 in
theorem gX0_readCandidate_X11_lengthOf_n134 : GoodIn wsX0_readCandidate (wsX11_lengthOf) := ggX0_readCandidate_X11_lengthOf
set_option maxRecDepth 20000 in
theorem ggX0_readCandidate_X10_has : GoodIn wsX0_readCandidate wsX10_has := (goodIn_ca (goodIn_r _ [29, 9] rfl (by decide +kernel)) (goodIn_sub (fun _ h => List.mem_cons_of_mem _ (List.mem_append_left _ (List.mem_append_left _ (List.mem_append_right _ h)))) gw_wsX100))
set_option maxRecDepth 20000 in
theorem gX0_readCandidate_X10_has : GoodIn wsX0_readCandidate (wsV RX0 137 RX10 yX10_has wsX10_has) := goodIn_app (goodIn_of _ (by decide +kernel)) ggX0_readCandidate_X10_has
set_option maxRecDepth 20000 in
theorem ggX0_readCandidate_X10_addField : GoodIn wsX0_readCandidate wsX10_addField := goodIn_ca ((goodIn_ca (goodIn_r _ [33, 8, 9, 34, 10] rfl (by decide +kernel)) (goodIn_sub (fun _ h => List.mem_cons_of_mem _ (List.mem_append_left _ (List.mem_append_left _ (List.mem_append_right _ h)))) gw_wsX100))) (goodIn_sub (fun _ h => List.mem_cons_of_mem _ (List.mem_append_right _ h)) (all_fg _))
set_option maxRecDepth 20000 in
theorem gX0_readCandidate_X10_addField : GoodIn wsX0_readCandidate (wsV RX0 141 RX10 yX10_addField wsX10_addField) := goodIn_app (goodIn_of _ (by decide +kernel)) ggX0_readCandidate_X10_addField
theorem dX0_readCandidate_0 : decode cX0_readCandidate 0 = .ok (.aload_n 0, 1) := by decide +kernel
theorem dX0_readCandidate_1 : decode cX0_readCandidate 1 = .ok (.getfield 22, 3) := by decide +kernel
theorem dX0_readCandidate_4 : decode cX0_readCandidate 4 = .ok (.invokevirtual 70, 3) := by decide +kernel
theorem dX0_readCandidate_7 : decode cX0_readCandidate 7 = .ok (.iconst 0, 1) := by decide +kernel
theorem dX0_readCandidate_8 : decode cX0_readCandidate 8 = .ok (.istore 4, 2) := by decide +kernel
theorem dX0_readCandidate_10 : decode cX0_readCandidate 10 = .ok (.iload 4, 2) := by decide +kernel
theorem dX0_readCandidate_12 : decode cX0_readCandidate 12 = .ok (.iload_n 3, 1) := by decide +kernel
theorem dX0_readCandidate_13 : decode cX0_readCandidate 13 = .ok (.if_icmp .ge 77, 3) := by decide +kernel
theorem dX0_readCandidate_16 : decode cX0_readCandidate 16 = .ok (.aload_n 1, 1) := by decide +kernel
theorem dX0_readCandidate_17 : decode cX0_readCandidate 17 = .ok (.iload_n 2, 1) := by decide +kernel
theorem dX0_readCandidate_18 : decode cX0_readCandidate 18 = .ok (.iconst 4, 1) := by decide +kernel
theorem dX0_readCandidate_19 : decode cX0_readCandidate 19 = .ok (.iload 4, 2) := by decide +kernel
theorem dX0_readCandidate_21 : decode cX0_readCandidate 21 = .ok (.imul, 1) := by decide +kernel
theorem dX0_readCandidate_22 : decode cX0_readCandidate 22 = .ok (.iadd, 1) := by decide +kernel
theorem dX0_readCandidate_23 : decode cX0_readCandidate 23 = .ok (.iconst 2, 1) := by decide +kernel
theorem dX0_readCandidate_24 : decode cX0_readCandidate 24 = .ok (.invokevirtual 92, 3) := by decide +kernel
theorem dX0_readCandidate_27 : decode cX0_readCandidate 27 = .ok (.istore 5, 2) := by decide +kernel
theorem dX0_readCandidate_29 : decode cX0_readCandidate 29 = .ok (.aload_n 1, 1) := by decide +kernel
theorem dX0_readCandidate_30 : decode cX0_readCandidate 30 = .ok (.iload_n 2, 1) := by decide +kernel
theorem dX0_readCandidate_31 : decode cX0_readCandidate 31 = .ok (.iconst 4, 1) := by decide +kernel
theorem dX0_readCandidate_32 : decode cX0_readCandidate 32 = .ok (.iload 4, 2) := by decide +kernel
theorem dX0_readCandidate_34 : decode cX0_readCandidate 34 = .ok (.imul, 1) := by decide +kernel
theorem dX0_readCandidate_35 : decode cX0_readCandidate 35 = .ok (.iadd, 1) := by decide +kernel
theorem dX0_readCandidate_36 : decode cX0_readCandidate 36 = .ok (.iconst 2, 1) := by decide +kernel
theorem dX0_readCandidate_37 : decode cX0_readCandidate 37 = .ok (.iadd, 1) := by decide +kernel
theorem dX0_readCandidate_38 : decode cX0_readCandidate 38 = .ok (.iconst 2, 1) := by decide +kernel
theorem dX0_readCandidate_39 : decode cX0_readCandidate 39 = .ok (.invokevirtual 92, 3) := by decide +kernel
theorem dX0_readCandidate_42 : decode cX0_readCandidate 42 = .ok (.istore 6, 2) := by decide +kernel
theorem dX0_readCandidate_44 : decode cX0_readCandidate 44 = .ok (.iload 5, 2) := by decide +kernel
theorem dX0_readCandidate_46 : decode cX0_readCandidate 46 = .ok (.bipush 9, 2) := by decide +kernel
theorem dX0_readCandidate_48 : decode cX0_readCandidate 48 = .ok (.if_icmp .ge 25, 3) := by decide +kernel
theorem dX0_readCandidate_51 : decode cX0_readCandidate 51 = .ok (.iload 6, 2) := by decide +kernel
theorem dX0_readCandidate_53 : decode cX0_readCandidate 53 = .ok (.iload 5, 2) := by decide +kernel
theorem dX0_readCandidate_55 : decode cX0_readCandidate 55 = .ok (.invokestatic 134, 3) := by decide +kernel
theorem dX0_readCandidate_58 : decode cX0_readCandidate 58 = .ok (.if_icmp .ne 15, 3) := by decide +kernel
theorem dX0_readCandidate_61 : decode cX0_readCandidate 61 = .ok (.aload_n 0, 1) := by decide +kernel
theorem dX0_readCandidate_62 : decode cX0_readCandidate 62 = .ok (.getfield 22, 3) := by decide +kernel
theorem dX0_readCandidate_65 : decode cX0_readCandidate 65 = .ok (.iload 5, 2) := by decide +kernel
theorem dX0_readCandidate_67 : decode cX0_readCandidate 67 = .ok (.invokevirtual 137, 3) := by decide +kernel
theorem dX0_readCandidate_70 : decode cX0_readCandidate 70 = .ok (.ifCond .eq 5, 3) := by decide +kernel
theorem dX0_readCandidate_73 : decode cX0_readCandidate 73 = .ok (.iconst 0, 1) := by decide +kernel
theorem dX0_readCandidate_74 : decode cX0_readCandidate 74 = .ok (.ireturn, 1) := by decide +kernel
theorem dX0_readCandidate_75 : decode cX0_readCandidate 75 = .ok (.aload_n 0, 1) := by decide +kernel
theorem dX0_readCandidate_76 : decode cX0_readCandidate 76 = .ok (.getfield 22, 3) := by decide +kernel
theorem dX0_readCandidate_79 : decode cX0_readCandidate 79 = .ok (.iload 5, 2) := by decide +kernel
theorem dX0_readCandidate_81 : decode cX0_readCandidate 81 = .ok (.invokevirtual 141, 3) := by decide +kernel
theorem dX0_readCandidate_84 : decode cX0_readCandidate 84 = .ok (.iinc 4 1, 3) := by decide +kernel
theorem dX0_readCandidate_87 : decode cX0_readCandidate 87 = .ok (.goto (-77), 3) := by decide +kernel
theorem dX0_readCandidate_90 : decode cX0_readCandidate 90 = .ok (.aload_n 0, 1) := by decide +kernel
theorem dX0_readCandidate_91 : decode cX0_readCandidate 91 = .ok (.getfield 22, 3) := by decide +kernel
theorem dX0_readCandidate_94 : decode cX0_readCandidate 94 = .ok (.getfield 67, 3) := by decide +kernel
theorem dX0_readCandidate_97 : decode cX0_readCandidate 97 = .ok (.ifCond .le 7, 3) := by decide +kernel
theorem dX0_readCandidate_100 : decode cX0_readCandidate 100 = .ok (.iconst 1, 1) := by decide +kernel
theorem dX0_readCandidate_101 : decode cX0_readCandidate 101 = .ok (.goto 4, 3) := by decide +kernel
theorem dX0_readCandidate_104 : decode cX0_readCandidate 104 = .ok (.iconst 0, 1) := by decide +kernel
theorem dX0_readCandidate_105 : decode cX0_readCandidate 105 = .ok (.ireturn, 1) := by decide +kernel
set_option maxRecDepth 20000 in
theorem ggX0_decode_J7_fill_d0a16 : GoodIn wsX0_decode wsJ7_fill_d0a16 := (goodIn_r _ [9] rfl (by decide +kernel))
set_option maxRecDepth 20000 in
theorem gX0_decode_J7_fill_d0a16 : GoodIn wsX0_decode (va_wsS RX0 57 yJ7_fill_d0a16 wsJ7_fill_d0a16) := goodIn_app (goodIn_of _ (by decide +kernel)) ggX0_decode_J7_fill_d0a16
set_option maxRecDepth 20000 in
theorem ggX0_decode_X10_field : GoodIn wsX0_decode wsX10_field := goodIn_ca ((goodIn_ca (goodIn_r _ [14, 15, 16] rfl (by decide +kernel)) (goodIn_sub (fun _ h => List.mem_cons_of_mem _ (List.mem_append_left _ (List.mem_append_left _ (List.mem_append_left _ (List.mem_append_left _ (List.mem_append_right _ h)))))) gw_wsX100))) (goodIn_sub (fun _ h => List.mem_cons_of_mem _ (List.mem_append_right _ h)) (all_fg _))
set_option maxRecDepth 20000 in
theorem gX0_decode_X10_field : GoodIn wsX0_decode (wsV RX0 152 RX10 yX10_field wsX10_field) := goodIn_app (goodIn_of _ (by decide +kernel)) ggX0_decode_X10_field
set_option maxRecDepth 20000 in
theorem ggX0_decode_X5_numberAt : GoodIn wsX0_decode wsX5_numberAt := goodIn_ca ((goodIn_ca (goodIn_r _ [21, 22, 23] rfl (by decide +kernel)) (goodIn_sub (fun _ h => List.mem_cons_of_mem _ (List.mem_append_left _ (List.mem_append_left _ (List.mem_append_left _ (List.mem_append_right _ h))))) gw_wsX50))) (goodIn_sub (fun _ h => List.mem_cons_of_mem _ (List.mem_append_right _ h)) (all_fg _))
set_option maxRecDepth 20000 in
theorem gX0_decode_X5_numberAt : GoodIn wsX0_decode (wsV RX0 158 RX5 yX5_numberAt wsX5_numberAt) := goodIn_app (goodIn_of _ (by decide +kernel)) ggX0_decode_X5_numberAt
set_option maxRecDepth 20000 in
theorem ggX0_decode_X3_keyOf : GoodIn wsX0_decode wsX3_keyOf := (goodIn_r _ [27, 28, 29] rfl (by decide +kernel))
set_option maxRecDepth 20000 in
theorem gX0_decode_X3_keyOf : GoodIn wsX0_decode (va_wsS RX0 162 yX3_keyOf wsX3_keyOf) := goodIn_app (goodIn_of _ (by decide +kernel)) ggX0_decode_X3_keyOf
set_option maxRecDepth 20000 in
theorem ggX0_decode_X9_indexOrNew : GoodIn wsX0_decode wsX9_indexOrNew := goodIn_ca ((goodIn_ca (goodIn_r _ [34, 35, 36, 37, 38, 39, 40, 41, 42, 33, 43] rfl (by decide +kernel)) (goodIn_sub (fun _ h => List.mem_cons_of_mem _ (List.mem_append_left _ (List.mem_append_left _ (List.mem_append_right _ h)))) gw_wsX90))) (goodIn_sub (fun _ h => List.mem_cons_of_mem _ (List.mem_append_right _ h)) (all_fg _))
set_option maxRecDepth 20000 in
theorem gX0_decode_X9_indexOrNew : GoodIn wsX0_decode (wsV RX0 168 RX9 yX9_indexOrNew wsX9_indexOrNew) := goodIn_app (goodIn_of _ (by decide +kernel)) ggX0_decode_X9_indexOrNew
set_option maxRecDepth 20000 in
theorem ggX0_decode_X1_get : GoodIn wsX0_decode wsX1_get := goodIn_ca ((goodIn_ca (goodIn_r _ [48, 49] rfl (by decide +kernel)) (goodIn_sub (fun _ h => List.mem_cons_of_mem _ (List.mem_append_left _ (List.mem_append_right _ h))) gw_wsX10))) (goodIn_sub (fun _ h => List.mem_cons_of_mem _ (List.mem_append_right _ h)) (all_fg _))
set_option maxRecDepth 20000 in
theorem gX0_decode_X1_get : GoodIn wsX0_decode (wsV RX0 77 RX1 yX1_get wsX1_get) := goodIn_app (goodIn_of _ (by decide +kernel)) ggX0_decode_X1_get
set_option maxRecDepth 20000 in
theorem ggX0_decode_X0_rateOfBits : GoodIn wsX0_decode wsX0_rateOfBits := (goodIn_r _ [53, 54, 55, 56, 57, 58, 59, 60, 61] rfl (by decide +kernel))
set_option maxRecDepth 20000 in
theorem gX0_decode_X0_rateOfBits : GoodIn wsX0_decode (va_wsS RX0 174 yX0_rateOfBits wsX0_rateOfBits) := goodIn_app (goodIn_of _ (by decide +kernel)) ggX0_decode_X0_rateOfBits
set_option maxRecDepth 20000 in
theorem ggX0_decode_X9_add : GoodIn wsX0_decode wsX9_add := goodIn_ca ((goodIn_ca (goodIn_r _ [65, 35, 37, 38, 39] rfl (by decide +kernel)) (goodIn_sub (fun _ h => List.mem_cons_of_mem _ (List.mem_append_left _ (List.mem_append_left _ (List.mem_append_right _ h)))) gw_wsX90))) (goodIn_sub (fun _ h => List.mem_cons_of_mem _ (List.mem_append_right _ h)) (all_fg _))
set_option maxRecDepth 20000 in
theorem gX0_decode_X9_add : GoodIn wsX0_decode (wsV RX0 177 RX9 yX9_add wsX9_add) := goodIn_app (goodIn_of _ (by decide +kernel)) ggX0_decode_X9_add
theorem dX0_decode_0 : decode cX0_decode 0 = .ok (.aload_n 0, 1) := by decide +kernel
theorem dX0_decode_1 : decode cX0_decode 1 = .ok (.getfield 36, 3) := by decide +kernel
theorem dX0_decode_4 : decode cX0_decode 4 = .ok (.lconst 0, 1) := by decide +kernel
theorem dX0_decode_5 : decode cX0_decode 5 = .ok (.invokestatic 57, 3) := by decide +kernel
theorem dX0_decode_8 : decode cX0_decode 8 = .ok (.iload_n 2, 1) := by decide +kernel
theorem dX0_decode_9 : decode cX0_decode 9 = .ok (.istore 4, 2) := by decide +kernel
theorem dX0_decode_11 : decode cX0_decode 11 = .ok (.iconst 0, 1) := by decide +kernel
theorem dX0_decode_12 : decode cX0_decode 12 = .ok (.istore 5, 2) := by decide +kernel
theorem dX0_decode_14 : decode cX0_decode 14 = .ok (.iload 5, 2) := by decide +kernel
theorem dX0_decode_16 : decode cX0_decode 16 = .ok (.aload_n 3, 1) := by decide +kernel
theorem dX0_decode_17 : decode cX0_decode 17 = .ok (.getfield 67, 3) := by decide +kernel
theorem dX0_decode_20 : decode cX0_decode 20 = .ok (.if_icmp .ge 59, 3) := by decide +kernel
theorem dX0_decode_23 : decode cX0_decode 23 = .ok (.aload_n 3, 1) := by decide +kernel
theorem dX0_decode_24 : decode cX0_decode 24 = .ok (.iload 5, 2) := by decide +kernel
theorem dX0_decode_26 : decode cX0_decode 26 = .ok (.invokevirtual 152, 3) := by decide +kernel
theorem dX0_decode_29 : decode cX0_decode 29 = .ok (.istore 6, 2) := by decide +kernel
theorem dX0_decode_31 : decode cX0_decode 31 = .ok (.iload 6, 2) := by decide +kernel
theorem dX0_decode_33 : decode cX0_decode 33 = .ok (.ifCond .lt 40, 3) := by decide +kernel
theorem dX0_decode_36 : decode cX0_decode 36 = .ok (.iload 6, 2) := by decide +kernel
theorem dX0_decode_38 : decode cX0_decode 38 = .ok (.bipush 9, 2) := by decide +kernel
theorem dX0_decode_40 : decode cX0_decode 40 = .ok (.if_icmp .ge 33, 3) := by decide +kernel
theorem dX0_decode_43 : decode cX0_decode 43 = .ok (.aload_n 0, 1) := by decide +kernel
theorem dX0_decode_44 : decode cX0_decode 44 = .ok (.getfield 36, 3) := by decide +kernel
theorem dX0_decode_47 : decode cX0_decode 47 = .ok (.iload 6, 2) := by decide +kernel
theorem dX0_decode_49 : decode cX0_decode 49 = .ok (.aload_n 1, 1) := by decide +kernel
theorem dX0_decode_50 : decode cX0_decode 50 = .ok (.iload 4, 2) := by decide +kernel
theorem dX0_decode_52 : decode cX0_decode 52 = .ok (.getstatic 155, 3) := by decide +kernel
theorem dX0_decode_55 : decode cX0_decode 55 = .ok (.iload 6, 2) := by decide +kernel
theorem dX0_decode_57 : decode cX0_decode 57 = .ok (.iaload, 1) := by decide +kernel
theorem dX0_decode_58 : decode cX0_decode 58 = .ok (.invokevirtual 158, 3) := by decide +kernel
theorem dX0_decode_61 : decode cX0_decode 61 = .ok (.lastore, 1) := by decide +kernel
theorem dX0_decode_62 : decode cX0_decode 62 = .ok (.iload 4, 2) := by decide +kernel
theorem dX0_decode_64 : decode cX0_decode 64 = .ok (.getstatic 155, 3) := by decide +kernel
theorem dX0_decode_67 : decode cX0_decode 67 = .ok (.iload 6, 2) := by decide +kernel
theorem dX0_decode_69 : decode cX0_decode 69 = .ok (.iaload, 1) := by decide +kernel
theorem dX0_decode_70 : decode cX0_decode 70 = .ok (.iadd, 1) := by decide +kernel
theorem dX0_decode_71 : decode cX0_decode 71 = .ok (.istore 4, 2) := by decide +kernel
theorem dX0_decode_73 : decode cX0_decode 73 = .ok (.iinc 5 1, 3) := by decide +kernel
theorem dX0_decode_76 : decode cX0_decode 76 = .ok (.goto (-62), 3) := by decide +kernel
theorem dX0_decode_79 : decode cX0_decode 79 = .ok (.aload_n 0, 1) := by decide +kernel
theorem dX0_decode_80 : decode cX0_decode 80 = .ok (.getfield 36, 3) := by decide +kernel
theorem dX0_decode_83 : decode cX0_decode 83 = .ok (.iconst 0, 1) := by decide +kernel
theorem dX0_decode_84 : decode cX0_decode 84 = .ok (.laload, 1) := by decide +kernel
theorem dX0_decode_85 : decode cX0_decode 85 = .ok (.l2i, 1) := by decide +kernel
theorem dX0_decode_86 : decode cX0_decode 86 = .ok (.aload_n 0, 1) := by decide +kernel
theorem dX0_decode_87 : decode cX0_decode 87 = .ok (.getfield 36, 3) := by decide +kernel
theorem dX0_decode_90 : decode cX0_decode 90 = .ok (.iconst 1, 1) := by decide +kernel
theorem dX0_decode_91 : decode cX0_decode 91 = .ok (.laload, 1) := by decide +kernel
theorem dX0_decode_92 : decode cX0_decode 92 = .ok (.l2i, 1) := by decide +kernel
theorem dX0_decode_93 : decode cX0_decode 93 = .ok (.aload_n 0, 1) := by decide +kernel
theorem dX0_decode_94 : decode cX0_decode 94 = .ok (.getfield 36, 3) := by decide +kernel
theorem dX0_decode_97 : decode cX0_decode 97 = .ok (.iconst 2, 1) := by decide +kernel
theorem dX0_decode_98 : decode cX0_decode 98 = .ok (.laload, 1) := by decide +kernel
theorem dX0_decode_99 : decode cX0_decode 99 = .ok (.l2i, 1) := by decide +kernel
theorem dX0_decode_100 : decode cX0_decode 100 = .ok (.aload_n 0, 1) := by decide +kernel
theorem dX0_decode_101 : decode cX0_decode 101 = .ok (.getfield 36, 3) := by decide +kernel
theorem dX0_decode_104 : decode cX0_decode 104 = .ok (.iconst 3, 1) := by decide +kernel
theorem dX0_decode_105 : decode cX0_decode 105 = .ok (.laload, 1) := by decide +kernel
theorem dX0_decode_106 : decode cX0_decode 106 = .ok (.l2i, 1) := by decide +kernel
theorem dX0_decode_107 : decode cX0_decode 107 = .ok (.invokestatic 162, 3) := by decide +kernel
theorem dX0_decode_110 : decode cX0_decode 110 = .ok (.lstore 5, 2) := by decide +kernel
theorem dX0_decode_112 : decode cX0_decode 112 = .ok (.aload_n 0, 1) := by decide +kernel
theorem dX0_decode_113 : decode cX0_decode 113 = .ok (.getfield 53, 3) := by decide +kernel
theorem dX0_decode_116 : decode cX0_decode 116 = .ok (.lload 5, 2) := by decide +kernel
theorem dX0_decode_118 : decode cX0_decode 118 = .ok (.invokevirtual 168, 3) := by decide +kernel
theorem dX0_decode_121 : decode cX0_decode 121 = .ok (.istore 7, 2) := by decide +kernel
theorem dX0_decode_123 : decode cX0_decode 123 = .ok (.iload 7, 2) := by decide +kernel
theorem dX0_decode_125 : decode cX0_decode 125 = .ok (.iconst (-1), 1) := by decide +kernel
theorem dX0_decode_126 : decode cX0_decode 126 = .ok (.if_icmp .ne 15, 3) := by decide +kernel
theorem dX0_decode_129 : decode cX0_decode 129 = .ok (.aload_n 0, 1) := by decide +kernel
theorem dX0_decode_130 : decode cX0_decode 130 = .ok (.getfield 32, 3) := by decide +kernel
theorem dX0_decode_133 : decode cX0_decode 133 = .ok (.bipush 6, 2) := by decide +kernel
theorem dX0_decode_135 : decode cX0_decode 135 = .ok (.dup2, 1) := by decide +kernel
theorem dX0_decode_136 : decode cX0_decode 136 = .ok (.laload, 1) := by decide +kernel
theorem dX0_decode_137 : decode cX0_decode 137 = .ok (.lconst 1, 1) := by decide +kernel
theorem dX0_decode_138 : decode cX0_decode 138 = .ok (.ladd, 1) := by decide +kernel
theorem dX0_decode_139 : decode cX0_decode 139 = .ok (.lastore, 1) := by decide +kernel
theorem dX0_decode_140 : decode cX0_decode 140 = .ok (.return_, 1) := by decide +kernel
theorem dX0_decode_141 : decode cX0_decode 141 = .ok (.aload_n 0, 1) := by decide +kernel
theorem dX0_decode_142 : decode cX0_decode 142 = .ok (.getfield 36, 3) := by decide +kernel
theorem dX0_decode_145 : decode cX0_decode 145 = .ok (.bipush 8, 2) := by decide +kernel
theorem dX0_decode_147 : decode cX0_decode 147 = .ok (.laload, 1) := by decide +kernel
theorem dX0_decode_148 : decode cX0_decode 148 = .ok (.l2i, 1) := by decide +kernel
theorem dX0_decode_149 : decode cX0_decode 149 = .ok (.aload_n 0, 1) := by decide +kernel
theorem dX0_decode_150 : decode cX0_decode 150 = .ok (.getfield 49, 3) := by decide +kernel
theorem dX0_decode_153 : decode cX0_decode 153 = .ok (.bipush 8, 2) := by decide +kernel
theorem dX0_decode_155 : decode cX0_decode 155 = .ok (.invokevirtual 77, 3) := by decide +kernel
theorem dX0_decode_158 : decode cX0_decode 158 = .ok (.invokestatic 174, 3) := by decide +kernel
theorem dX0_decode_161 : decode cX0_decode 161 = .ok (.istore 8, 2) := by decide +kernel
theorem dX0_decode_163 : decode cX0_decode 163 = .ok (.aload_n 0, 1) := by decide +kernel
theorem dX0_decode_164 : decode cX0_decode 164 = .ok (.getfield 53, 3) := by decide +kernel
theorem dX0_decode_167 : decode cX0_decode 167 = .ok (.iload 7, 2) := by decide +kernel
theorem dX0_decode_169 : decode cX0_decode 169 = .ok (.aload_n 0, 1) := by decide +kernel
theorem dX0_decode_170 : decode cX0_decode 170 = .ok (.getfield 36, 3) := by decide +kernel
theorem dX0_decode_173 : decode cX0_decode 173 = .ok (.iconst 4, 1) := by decide +kernel
theorem dX0_decode_174 : decode cX0_decode 174 = .ok (.laload, 1) := by decide +kernel
theorem dX0_decode_175 : decode cX0_decode 175 = .ok (.aload_n 0, 1) := by decide +kernel
theorem dX0_decode_176 : decode cX0_decode 176 = .ok (.getfield 36, 3) := by decide +kernel
theorem dX0_decode_179 : decode cX0_decode 179 = .ok (.iconst 5, 1) := by decide +kernel
theorem dX0_decode_180 : decode cX0_decode 180 = .ok (.laload, 1) := by decide +kernel
theorem dX0_decode_181 : decode cX0_decode 181 = .ok (.iload 8, 2) := by decide +kernel
theorem dX0_decode_183 : decode cX0_decode 183 = .ok (.invokevirtual 177, 3) := by decide +kernel
theorem dX0_decode_186 : decode cX0_decode 186 = .ok (.return_, 1) := by decide +kernel
theorem dX0_rateOfBits_0 : decode cX0_rateOfBits 0 = .ok (.iload_n 0, 1) := by decide +kernel
theorem dX0_rateOfBits_1 : decode cX0_rateOfBits 1 = .ok (.ifCond .le 9, 3) := by decide +kernel
theorem dX0_rateOfBits_4 : decode cX0_rateOfBits 4 = .ok (.iload_n 0, 1) := by decide +kernel
theorem dX0_rateOfBits_5 : decode cX0_rateOfBits 5 = .ok (.ldc 181, 2) := by decide +kernel
theorem dX0_rateOfBits_7 : decode cX0_rateOfBits 7 = .ok (.if_icmp .le 5, 3) := by decide +kernel
theorem dX0_rateOfBits_10 : decode cX0_rateOfBits 10 = .ok (.iload_n 1, 1) := by decide +kernel
theorem dX0_rateOfBits_11 : decode cX0_rateOfBits 11 = .ok (.ireturn, 1) := by decide +kernel
theorem dX0_rateOfBits_12 : decode cX0_rateOfBits 12 = .ok (.iload_n 0, 1) := by decide +kernel
theorem dX0_rateOfBits_13 : decode cX0_rateOfBits 13 = .ok (.bipush 23, 2) := by decide +kernel
theorem dX0_rateOfBits_15 : decode cX0_rateOfBits 15 = .ok (.ishr, 1) := by decide +kernel
theorem dX0_rateOfBits_16 : decode cX0_rateOfBits 16 = .ok (.istore_n 2, 1) := by decide +kernel
theorem dX0_rateOfBits_17 : decode cX0_rateOfBits 17 = .ok (.iload_n 2, 1) := by decide +kernel
theorem dX0_rateOfBits_18 : decode cX0_rateOfBits 18 = .ok (.bipush 117, 2) := by decide +kernel
theorem dX0_rateOfBits_20 : decode cX0_rateOfBits 20 = .ok (.if_icmp .ge 7, 3) := by decide +kernel
theorem dX0_rateOfBits_23 : decode cX0_rateOfBits 23 = .ok (.sipush 1024, 3) := by decide +kernel
theorem dX0_rateOfBits_26 : decode cX0_rateOfBits 26 = .ok (.ireturn, 1) := by decide +kernel
theorem dX0_rateOfBits_27 : decode cX0_rateOfBits 27 = .ok (.iload_n 0, 1) := by decide +kernel
theorem dX0_rateOfBits_28 : decode cX0_rateOfBits 28 = .ok (.ldc 182, 2) := by decide +kernel
theorem dX0_rateOfBits_30 : decode cX0_rateOfBits 30 = .ok (.iand, 1) := by decide +kernel
theorem dX0_rateOfBits_31 : decode cX0_rateOfBits 31 = .ok (.ldc 183, 2) := by decide +kernel
theorem dX0_rateOfBits_33 : decode cX0_rateOfBits 33 = .ok (.ior, 1) := by decide +kernel
theorem dX0_rateOfBits_34 : decode cX0_rateOfBits 34 = .ok (.istore_n 3, 1) := by decide +kernel
theorem dX0_rateOfBits_35 : decode cX0_rateOfBits 35 = .ok (.iload_n 3, 1) := by decide +kernel
theorem dX0_rateOfBits_36 : decode cX0_rateOfBits 36 = .ok (.i2f, 1) := by decide +kernel
theorem dX0_rateOfBits_37 : decode cX0_rateOfBits 37 = .ok (.lconst 1, 1) := by decide +kernel
theorem dX0_rateOfBits_38 : decode cX0_rateOfBits 38 = .ok (.sipush 150, 3) := by decide +kernel
theorem dX0_rateOfBits_41 : decode cX0_rateOfBits 41 = .ok (.iload_n 2, 1) := by decide +kernel
theorem dX0_rateOfBits_42 : decode cX0_rateOfBits 42 = .ok (.isub, 1) := by decide +kernel
theorem dX0_rateOfBits_43 : decode cX0_rateOfBits 43 = .ok (.lshl, 1) := by decide +kernel
theorem dX0_rateOfBits_44 : decode cX0_rateOfBits 44 = .ok (.l2f, 1) := by decide +kernel
theorem dX0_rateOfBits_45 : decode cX0_rateOfBits 45 = .ok (.fdiv, 1) := by decide +kernel
theorem dX0_rateOfBits_46 : decode cX0_rateOfBits 46 = .ok (.fstore 4, 2) := by decide +kernel
theorem dX0_rateOfBits_48 : decode cX0_rateOfBits 48 = .ok (.fload 4, 2) := by decide +kernel
theorem dX0_rateOfBits_50 : decode cX0_rateOfBits 50 = .ok (.fconst 0, 1) := by decide +kernel
theorem dX0_rateOfBits_51 : decode cX0_rateOfBits 51 = .ok (.fcmp .l, 1) := by decide +kernel
theorem dX0_rateOfBits_52 : decode cX0_rateOfBits 52 = .ok (.ifCond .le 20, 3) := by decide +kernel
theorem dX0_rateOfBits_55 : decode cX0_rateOfBits 55 = .ok (.sipush 1024, 3) := by decide +kernel
theorem dX0_rateOfBits_58 : decode cX0_rateOfBits 58 = .ok (.fconst 1, 1) := by decide +kernel
theorem dX0_rateOfBits_59 : decode cX0_rateOfBits 59 = .ok (.fload 4, 2) := by decide +kernel
theorem dX0_rateOfBits_61 : decode cX0_rateOfBits 61 = .ok (.fdiv, 1) := by decide +kernel
theorem dX0_rateOfBits_62 : decode cX0_rateOfBits 62 = .ok (.ldc 184, 2) := by decide +kernel
theorem dX0_rateOfBits_64 : decode cX0_rateOfBits 64 = .ok (.fadd, 1) := by decide +kernel
theorem dX0_rateOfBits_65 : decode cX0_rateOfBits 65 = .ok (.f2i, 1) := by decide +kernel
theorem dX0_rateOfBits_66 : decode cX0_rateOfBits 66 = .ok (.invokestatic 185, 3) := by decide +kernel
theorem dX0_rateOfBits_69 : decode cX0_rateOfBits 69 = .ok (.goto 4, 3) := by decide +kernel
theorem dX0_rateOfBits_72 : decode cX0_rateOfBits 72 = .ok (.iload_n 1, 1) := by decide +kernel
theorem dX0_rateOfBits_73 : decode cX0_rateOfBits 73 = .ok (.ireturn, 1) := by decide +kernel
theorem dX3_keyOf_0 : decode cX3_keyOf 0 = .ok (.iload_n 0, 1) := by decide +kernel
theorem dX3_keyOf_1 : decode cX3_keyOf 1 = .ok (.ifCond .lt 21, 3) := by decide +kernel
theorem dX3_keyOf_4 : decode cX3_keyOf 4 = .ok (.iload_n 0, 1) := by decide +kernel
theorem dX3_keyOf_5 : decode cX3_keyOf 5 = .ok (.sipush 255, 3) := by decide +kernel
theorem dX3_keyOf_8 : decode cX3_keyOf 8 = .ok (.if_icmp .gt 14, 3) := by decide +kernel
theorem dX3_keyOf_11 : decode cX3_keyOf 11 = .ok (.iload_n 1, 1) := by decide +kernel
theorem dX3_keyOf_12 : decode cX3_keyOf 12 = .ok (.ifCond .lt 10, 3) := by decide +kernel
theorem dX3_keyOf_15 : decode cX3_keyOf 15 = .ok (.iload_n 1, 1) := by decide +kernel
theorem dX3_keyOf_16 : decode cX3_keyOf 16 = .ok (.sipush 255, 3) := by decide +kernel
theorem dX3_keyOf_19 : decode cX3_keyOf 19 = .ok (.if_icmp .le 7, 3) := by decide +kernel
theorem dX3_keyOf_22 : decode cX3_keyOf 22 = .ok (.ldc2_w 28, 3) := by decide +kernel
theorem dX3_keyOf_25 : decode cX3_keyOf 25 = .ok (.lreturn, 1) := by decide +kernel
theorem dX3_keyOf_26 : decode cX3_keyOf 26 = .ok (.iload_n 2, 1) := by decide +kernel
theorem dX3_keyOf_27 : decode cX3_keyOf 27 = .ok (.ifCond .lt 20, 3) := by decide +kernel
theorem dX3_keyOf_30 : decode cX3_keyOf 30 = .ok (.iload_n 2, 1) := by decide +kernel
theorem dX3_keyOf_31 : decode cX3_keyOf 31 = .ok (.ldc 30, 2) := by decide +kernel
theorem dX3_keyOf_33 : decode cX3_keyOf 33 = .ok (.if_icmp .gt 14, 3) := by decide +kernel
theorem dX3_keyOf_36 : decode cX3_keyOf 36 = .ok (.iload_n 3, 1) := by decide +kernel
theorem dX3_keyOf_37 : decode cX3_keyOf 37 = .ok (.ifCond .lt 10, 3) := by decide +kernel
theorem dX3_keyOf_40 : decode cX3_keyOf 40 = .ok (.iload_n 3, 1) := by decide +kernel
theorem dX3_keyOf_41 : decode cX3_keyOf 41 = .ok (.sipush 255, 3) := by decide +kernel
theorem dX3_keyOf_44 : decode cX3_keyOf 44 = .ok (.if_icmp .le 7, 3) := by decide +kernel
theorem dX3_keyOf_47 : decode cX3_keyOf 47 = .ok (.ldc2_w 28, 3) := by decide +kernel
theorem dX3_keyOf_50 : decode cX3_keyOf 50 = .ok (.lreturn, 1) := by decide +kernel
theorem dX3_keyOf_51 : decode cX3_keyOf 51 = .ok (.iload_n 0, 1) := by decide +kernel
theorem dX3_keyOf_52 : decode cX3_keyOf 52 = .ok (.i2l, 1) := by decide +kernel
theorem dX3_keyOf_53 : decode cX3_keyOf 53 = .ok (.bipush 32, 2) := by decide +kernel
theorem dX3_keyOf_55 : decode cX3_keyOf 55 = .ok (.lshl, 1) := by decide +kernel
theorem dX3_keyOf_56 : decode cX3_keyOf 56 = .ok (.iload_n 1, 1) := by decide +kernel
theorem dX3_keyOf_57 : decode cX3_keyOf 57 = .ok (.i2l, 1) := by decide +kernel
theorem dX3_keyOf_58 : decode cX3_keyOf 58 = .ok (.bipush 24, 2) := by decide +kernel
theorem dX3_keyOf_60 : decode cX3_keyOf 60 = .ok (.lshl, 1) := by decide +kernel
theorem dX3_keyOf_61 : decode cX3_keyOf 61 = .ok (.lor, 1) := by decide +kernel
theorem dX3_keyOf_62 : decode cX3_keyOf 62 = .ok (.iload_n 2, 1) := by decide +kernel
theorem dX3_keyOf_63 : decode cX3_keyOf 63 = .ok (.i2l, 1) := by decide +kernel
theorem dX3_keyOf_64 : decode cX3_keyOf 64 = .ok (.bipush 8, 2) := by decide +kernel
theorem dX3_keyOf_66 : decode cX3_keyOf 66 = .ok (.lshl, 1) := by decide +kernel
theorem dX3_keyOf_67 : decode cX3_keyOf 67 = .ok (.lor, 1) := by decide +kernel
theorem dX3_keyOf_68 : decode cX3_keyOf 68 = .ok (.iload_n 3, 1) := by decide +kernel
theorem dX3_keyOf_69 : decode cX3_keyOf 69 = .ok (.i2l, 1) := by decide +kernel
theorem dX3_keyOf_70 : decode cX3_keyOf 70 = .ok (.lor, 1) := by decide +kernel
theorem dX3_keyOf_71 : decode cX3_keyOf 71 = .ok (.lreturn, 1) := by decide +kernel
theorem dX9_add_0 : decode cX9_add 0 = .ok (.iload_n 1, 1) := by decide +kernel
theorem dX9_add_1 : decode cX9_add 1 = .ok (.ifCond .lt 11, 3) := by decide +kernel
theorem dX9_add_4 : decode cX9_add 4 = .ok (.iload_n 1, 1) := by decide +kernel
theorem dX9_add_5 : decode cX9_add 5 = .ok (.aload_n 0, 1) := by decide +kernel
theorem dX9_add_6 : decode cX9_add 6 = .ok (.getfield 28, 3) := by decide +kernel
theorem dX9_add_9 : decode cX9_add 9 = .ok (.if_icmp .lt 4, 3) := by decide +kernel
theorem dX9_add_12 : decode cX9_add 12 = .ok (.return_, 1) := by decide +kernel
theorem dX9_add_13 : decode cX9_add 13 = .ok (.iload 6, 2) := by decide +kernel
theorem dX9_add_15 : decode cX9_add 15 = .ok (.i2d, 1) := by decide +kernel
theorem dX9_add_16 : decode cX9_add 16 = .ok (.iload 6, 2) := by decide +kernel
theorem dX9_add_18 : decode cX9_add 18 = .ok (.iconst 1, 1) := by decide +kernel
theorem dX9_add_19 : decode cX9_add 19 = .ok (.isub, 1) := by decide +kernel
theorem dX9_add_20 : decode cX9_add 20 = .ok (.i2d, 1) := by decide +kernel
theorem dX9_add_21 : decode cX9_add 21 = .ok (.dmul, 1) := by decide +kernel
theorem dX9_add_22 : decode cX9_add 22 = .ok (.dstore 7, 2) := by decide +kernel
theorem dX9_add_24 : decode cX9_add 24 = .ok (.aload_n 0, 1) := by decide +kernel
theorem dX9_add_25 : decode cX9_add 25 = .ok (.getfield 17, 3) := by decide +kernel
theorem dX9_add_28 : decode cX9_add 28 = .ok (.iconst 0, 1) := by decide +kernel
theorem dX9_add_29 : decode cX9_add 29 = .ok (.aaload, 1) := by decide +kernel
theorem dX9_add_30 : decode cX9_add 30 = .ok (.iload_n 1, 1) := by decide +kernel
theorem dX9_add_31 : decode cX9_add 31 = .ok (.dup2, 1) := by decide +kernel
theorem dX9_add_32 : decode cX9_add 32 = .ok (.laload, 1) := by decide +kernel
theorem dX9_add_33 : decode cX9_add 33 = .ok (.lload_n 2, 1) := by decide +kernel
theorem dX9_add_34 : decode cX9_add 34 = .ok (.ladd, 1) := by decide +kernel
theorem dX9_add_35 : decode cX9_add 35 = .ok (.lastore, 1) := by decide +kernel
theorem dX9_add_36 : decode cX9_add 36 = .ok (.aload_n 0, 1) := by decide +kernel
theorem dX9_add_37 : decode cX9_add 37 = .ok (.getfield 17, 3) := by decide +kernel
theorem dX9_add_40 : decode cX9_add 40 = .ok (.iconst 1, 1) := by decide +kernel
theorem dX9_add_41 : decode cX9_add 41 = .ok (.aaload, 1) := by decide +kernel
theorem dX9_add_42 : decode cX9_add 42 = .ok (.iload_n 1, 1) := by decide +kernel
theorem dX9_add_43 : decode cX9_add 43 = .ok (.dup2, 1) := by decide +kernel
theorem dX9_add_44 : decode cX9_add 44 = .ok (.laload, 1) := by decide +kernel
theorem dX9_add_45 : decode cX9_add 45 = .ok (.lload 4, 2) := by decide +kernel
theorem dX9_add_47 : decode cX9_add 47 = .ok (.ladd, 1) := by decide +kernel
theorem dX9_add_48 : decode cX9_add 48 = .ok (.lastore, 1) := by decide +kernel
theorem dX9_add_49 : decode cX9_add 49 = .ok (.aload_n 0, 1) := by decide +kernel
theorem dX9_add_50 : decode cX9_add 50 = .ok (.getfield 20, 3) := by decide +kernel
theorem dX9_add_53 : decode cX9_add 53 = .ok (.iconst 0, 1) := by decide +kernel
theorem dX9_add_54 : decode cX9_add 54 = .ok (.aaload, 1) := by decide +kernel
theorem dX9_add_55 : decode cX9_add 55 = .ok (.iload_n 1, 1) := by decide +kernel
theorem dX9_add_56 : decode cX9_add 56 = .ok (.dup2, 1) := by decide +kernel
theorem dX9_add_57 : decode cX9_add 57 = .ok (.laload, 1) := by decide +kernel
theorem dX9_add_58 : decode cX9_add 58 = .ok (.iload 6, 2) := by decide +kernel
theorem dX9_add_60 : decode cX9_add 60 = .ok (.i2l, 1) := by decide +kernel
theorem dX9_add_61 : decode cX9_add 61 = .ok (.lload_n 2, 1) := by decide +kernel
theorem dX9_add_62 : decode cX9_add 62 = .ok (.lmul, 1) := by decide +kernel
theorem dX9_add_63 : decode cX9_add 63 = .ok (.ladd, 1) := by decide +kernel
theorem dX9_add_64 : decode cX9_add 64 = .ok (.lastore, 1) := by decide +kernel
theorem dX9_add_65 : decode cX9_add 65 = .ok (.aload_n 0, 1) := by decide +kernel
theorem dX9_add_66 : decode cX9_add 66 = .ok (.getfield 20, 3) := by decide +kernel
theorem dX9_add_69 : decode cX9_add 69 = .ok (.iconst 1, 1) := by decide +kernel
theorem dX9_add_70 : decode cX9_add 70 = .ok (.aaload, 1) := by decide +kernel
theorem dX9_add_71 : decode cX9_add 71 = .ok (.iload_n 1, 1) := by decide +kernel
theorem dX9_add_72 : decode cX9_add 72 = .ok (.dup2, 1) := by decide +kernel
theorem dX9_add_73 : decode cX9_add 73 = .ok (.laload, 1) := by decide +kernel
theorem dX9_add_74 : decode cX9_add 74 = .ok (.iload 6, 2) := by decide +kernel
theorem dX9_add_76 : decode cX9_add 76 = .ok (.i2l, 1) := by decide +kernel
theorem dX9_add_77 : decode cX9_add 77 = .ok (.lload 4, 2) := by decide +kernel
theorem dX9_add_79 : decode cX9_add 79 = .ok (.lmul, 1) := by decide +kernel
theorem dX9_add_80 : decode cX9_add 80 = .ok (.ladd, 1) := by decide +kernel
theorem dX9_add_81 : decode cX9_add 81 = .ok (.lastore, 1) := by decide +kernel
theorem dX9_add_82 : decode cX9_add 82 = .ok (.aload_n 0, 1) := by decide +kernel
theorem dX9_add_83 : decode cX9_add 83 = .ok (.getfield 25, 3) := by decide +kernel
theorem dX9_add_86 : decode cX9_add 86 = .ok (.iconst 0, 1) := by decide +kernel
theorem dX9_add_87 : decode cX9_add 87 = .ok (.aaload, 1) := by decide +kernel
theorem dX9_add_88 : decode cX9_add 88 = .ok (.iload_n 1, 1) := by decide +kernel
theorem dX9_add_89 : decode cX9_add 89 = .ok (.dup2, 1) := by decide +kernel
theorem dX9_add_90 : decode cX9_add 90 = .ok (.daload, 1) := by decide +kernel
theorem dX9_add_91 : decode cX9_add 91 = .ok (.dload 7, 2) := by decide +kernel
theorem dX9_add_93 : decode cX9_add 93 = .ok (.lload_n 2, 1) := by decide +kernel
theorem dX9_add_94 : decode cX9_add 94 = .ok (.l2d, 1) := by decide +kernel
theorem dX9_add_95 : decode cX9_add 95 = .ok (.dmul, 1) := by decide +kernel
theorem dX9_add_96 : decode cX9_add 96 = .ok (.dadd, 1) := by decide +kernel
theorem dX9_add_97 : decode cX9_add 97 = .ok (.dastore, 1) := by decide +kernel
theorem dX9_add_98 : decode cX9_add 98 = .ok (.lload_n 2, 1) := by decide +kernel
theorem dX9_add_99 : decode cX9_add 99 = .ok (.lconst 0, 1) := by decide +kernel
theorem dX9_add_100 : decode cX9_add 100 = .ok (.lcmp, 1) := by decide +kernel
theorem dX9_add_101 : decode cX9_add 101 = .ok (.ifCond .eq 27, 3) := by decide +kernel
theorem dX9_add_104 : decode cX9_add 104 = .ok (.aload_n 0, 1) := by decide +kernel
theorem dX9_add_105 : decode cX9_add 105 = .ok (.getfield 25, 3) := by decide +kernel
theorem dX9_add_108 : decode cX9_add 108 = .ok (.iconst 1, 1) := by decide +kernel
theorem dX9_add_109 : decode cX9_add 109 = .ok (.aaload, 1) := by decide +kernel
theorem dX9_add_110 : decode cX9_add 110 = .ok (.iload_n 1, 1) := by decide +kernel
theorem dX9_add_111 : decode cX9_add 111 = .ok (.dup2, 1) := by decide +kernel
theorem dX9_add_112 : decode cX9_add 112 = .ok (.daload, 1) := by decide +kernel
theorem dX9_add_113 : decode cX9_add 113 = .ok (.dload 7, 2) := by decide +kernel
theorem dX9_add_115 : decode cX9_add 115 = .ok (.lload 4, 2) := by decide +kernel
theorem dX9_add_117 : decode cX9_add 117 = .ok (.l2d, 1) := by decide +kernel
theorem dX9_add_118 : decode cX9_add 118 = .ok (.dmul, 1) := by decide +kernel
theorem dX9_add_119 : decode cX9_add 119 = .ok (.lload 4, 2) := by decide +kernel
theorem dX9_add_121 : decode cX9_add 121 = .ok (.l2d, 1) := by decide +kernel
theorem dX9_add_122 : decode cX9_add 122 = .ok (.dmul, 1) := by decide +kernel
theorem dX9_add_123 : decode cX9_add 123 = .ok (.lload_n 2, 1) := by decide +kernel
theorem dX9_add_124 : decode cX9_add 124 = .ok (.l2d, 1) := by decide +kernel
theorem dX9_add_125 : decode cX9_add 125 = .ok (.ddiv, 1) := by decide +kernel
theorem dX9_add_126 : decode cX9_add 126 = .ok (.dadd, 1) := by decide +kernel
theorem dX9_add_127 : decode cX9_add 127 = .ok (.dastore, 1) := by decide +kernel
theorem dX9_add_128 : decode cX9_add 128 = .ok (.return_, 1) := by decide +kernel
set_option maxHeartbeats 4000000 in
set_option maxRecDepth 100000 in
theorem s_X9_add (G : EnvG) (l : Launch) (Φ : Hm) (sz x ca : Nat) (a : Int32) (b : Int64) (d : Int64) (n : Nat) (hx : G.2.2.2 ≤ x) (hI : In G x ca Φ) (hb : 0 ≤ b) (hn : n < 2 ^ 31) : Ct G l yX9_add wsX9_add ({ frames := 0, cells := 0, slots := 0, locals := 0 }) 0 0 [.ref (x + 121), .int a, .long b, .long d, .int (nI n)] Φ sz (fun v Φ1 sz1 => (v = none) ∧ sz1 = sz ∧ In G x (ca) Φ1 ∧ Fr x (fun j9 => 124 ≤ j9 ∧ j9 < 132) Φ Φ1) := by
  refine Ct.of (cc := cX9_add) (maxL := 9) (ret := none) (by decide) rfl (Nat.le_of_ble_eq_true rfl) ?_
  intro p9 e9 s9 m9 w9 t9 k9 B
  show Z p9 l e9 _ s9 m9 _ w9 t9 k9 _ G 9 0 [(0, .ref (x + 121)), (1, .int a), (2, .long b), (4, .long d), (6, .int (nI n))] [] Φ sz 0 0
  refine z_iload_n B dX9_add_0 rfl 1 rfl ?_
  refine z_if_lt (tgt := 12) B dX9_add_1 rfl (fun c_1 => ?_) (fun c_1 => ?_)
  · exact z_ret_v B dX9_add_12 ⟨rfl, rfl, hI, (fun b9 h9 => rfl)⟩
  · obtain ⟨n_1, e_1, rfl⟩ := nI_of c_1
    refine z_iload_n B dX9_add_4 rfl 1 rfl ?_
    refine z_aload_n B dX9_add_5 rfl 0 rfl ?_
    obtain ⟨n_2, h_1, b_1⟩ := in20 (k := 121) hI rfl
    have h_2 : Φ (x + 121) = some (o_ 11 [.ref (x + 122), .ref (x + 123), .ref (x + 126), .ref (x + 129), .int (nI n_2)]) := h_1
    refine z_get (ref := "FlowExporter$Sums") (C := RX9) (T := TX9) (N := 5) (ci := 11) (v := .int (nI n_2)) B (by decide +kernel) rfl 4 (by decide) (by decide +kernel) rfl h_2 rfl dX9_add_6 ?_
    refine z_icmp_lt (tgt := 13) B dX9_add_9 rfl (fun c_2 => ?_) (fun c_2 => ?_)
    · have e_2 : n_1 < n_2 := (nI_ltI (a := n_1) (b := n_2) (by omega) (by omega)).mp c_2
      refine z_iload B dX9_add_13 4 rfl ?_
      refine z_i2d B dX9_add_15 ?_
      refine z_iload B dX9_add_16 4 rfl ?_
      refine z_iconst (v := 1) B dX9_add_18 rfl ?_
      refine z_isub B dX9_add_19 ?_
      refine z_i2d B dX9_add_20 ?_
      have q_2 : sm64 78 (FP.dmul (FP.i2d (nI n)) (FP.i2d (nI n - 1))) := (mul_sm (i2d_sm _) (i2d_sm _) (by decide) (by decide))
      have q_3 : pd64 (FP.dmul (FP.i2d (nI n)) (FP.i2d (nI n - 1))) := (fac_pd (by omega))
      refine z_dmul B dX9_add_21 (vf_of (sm_nn q_2)) ?_
      refine z_fdq (P := fun u9 : UInt64 => sm64 78 u9 ∧ pd64 u9) ⟨q_2, q_3⟩ (fun v_1 q_6 => ?_)
      obtain ⟨q_4, q_5⟩ := q_6
      replace q_4 : sm64 78 v_1 := q_4
      replace q_5 : pd64 v_1 := q_5
      refine z_dstore (lv' := [(7, .double v_1), (0, .ref (x + 121)), (1, .int (nI n_1)), (2, .long b), (4, .long d), (6, .int (nI n))]) B dX9_add_22 (Nat.le_of_ble_eq_true rfl) rfl ?_
      refine z_aload_n B dX9_add_24 rfl 1 rfl ?_
      refine z_get (ref := "FlowExporter$Sums") (C := RX9) (T := TX9) (N := 5) (ci := 11) (v := .ref (x + 123)) B (by decide +kernel) rfl 1 (by decide) (by decide +kernel) rfl h_2 rfl dX9_add_25 ?_
      refine z_iconst (v := 0) B dX9_add_28 rfl ?_
      obtain ⟨f_1, h_3, r_1⟩ := in22 (k := 123) hI rfl
      have h_4 : Φ (x + 123) = some (aq_ G 7 2 f_1) := h_3
      refine z_aaldA (b := x + 124) B rfl h_4 (vin rfl) ((r_1 0 (by omega))) dX9_add_29 ?_
      refine z_iload_n B dX9_add_30 rfl 2 rfl ?_
      refine z_dup2_11 B dX9_add_31 rfl rfl ?_
      obtain ⟨f_2, h_5⟩ := in21 (k := 124) hI rfl
      have h_6 : Φ (x + 124) = some (al_ G 24 f_2) := h_5
      refine z_lald B h_6 (vp_in_nI (by omega) (by omega)) dX9_add_32 ?_
      refine z_fl (fun v_2 => ?_)
      refine z_lload_n B dX9_add_33 rfl 3 rfl ?_
      refine z_ladd B dX9_add_34 ?_
      refine z_fl (fun v_3 => ?_)
      refine z_last B h_6 (Nat.le_trans hx (Nat.le_add_right x 124)) (vp_in_nI (by omega) (by omega)) dX9_add_35 (fun Φ1 hΦ1 => ?_)
      have h_7 : Φ1 (x + 124) = some (al_ G 24 (vp_updL f_2 (nI n_1).toNatClampNeg v_3)) := fset_at hΦ1
      have hI1 : In G x (ca) Φ1 := In.put (k := 124) hI hΦ1 (ok21 (k := 124) rfl ⟨_, rfl⟩)
      refine z_aload_n B dX9_add_36 rfl 1 rfl ?_
      have h_8 : Φ1 (x + 121) = some (o_ 11 [.ref (x + 122), .ref (x + 123), .ref (x + 126), .ref (x + 129), .int (nI n_2)]) := ((fset_fr hΦ1 (ne_off (x := x) (i := 121) (j := 124) rfl)).trans h_2)
      refine z_get (ref := "FlowExporter$Sums") (C := RX9) (T := TX9) (N := 5) (ci := 11) (v := .ref (x + 123)) B (by decide +kernel) rfl 1 (by decide) (by decide +kernel) rfl h_8 rfl dX9_add_37 ?_
      refine z_iconst (v := 1) B dX9_add_40 rfl ?_
      have h_9 : Φ1 (x + 123) = some (aq_ G 7 2 f_1) := ((fset_fr hΦ1 (ne_off (x := x) (i := 123) (j := 124) rfl)).trans h_4)
      refine z_aaldA (b := x + 125) B rfl h_9 (vin rfl) ((r_1 1 (by omega))) dX9_add_41 ?_
      refine z_iload_n B dX9_add_42 rfl 2 rfl ?_
      refine z_dup2_11 B dX9_add_43 rfl rfl ?_
      obtain ⟨f_3, h_10⟩ := in21 (k := 125) hI1 rfl
      have h_11 : Φ1 (x + 125) = some (al_ G 24 f_3) := h_10
      refine z_lald B h_11 (vp_in_nI (by omega) (by omega)) dX9_add_44 ?_
      refine z_fl (fun v_4 => ?_)
      refine z_lload B dX9_add_45 4 rfl ?_
      refine z_ladd B dX9_add_47 ?_
      refine z_fl (fun v_5 => ?_)
      refine z_last B h_11 (Nat.le_trans hx (Nat.le_add_right x 125)) (vp_in_nI (by omega) (by omega)) dX9_add_48 (fun Φ2 hΦ2 => ?_)
      have h_12 : Φ2 (x + 125) = some (al_ G 24 (vp_updL f_3 (nI n_1).toNatClampNeg v_5)) := fset_at hΦ2
      have hI2 : In G x (ca) Φ2 := In.put (k := 125) hI1 hΦ2 (ok21 (k := 125) rfl ⟨_, rfl⟩)
      refine z_aload_n B dX9_add_49 rfl 1 rfl ?_
      have h_13 : Φ2 (x + 121) = some (o_ 11 [.ref (x + 122), .ref (x + 123), .ref (x + 126), .ref (x + 129), .int (nI n_2)]) := ((fset_fr hΦ2 (ne_off (x := x) (i := 121) (j := 125) rfl)).trans h_8)
      refine z_get (ref := "FlowExporter$Sums") (C := RX9) (T := TX9) (N := 5) (ci := 11) (v := .ref (x + 126)) B (by decide +kernel) rfl 2 (by decide) (by decide +kernel) rfl h_13 rfl dX9_add_50 ?_
      refine z_iconst (v := 0) B dX9_add_53 rfl ?_
      obtain ⟨f_4, h_14, r_2⟩ := in22 (k := 126) hI2 rfl
      have h_15 : Φ2 (x + 126) = some (aq_ G 7 2 f_4) := h_14
      refine z_aaldA (b := x + 127) B rfl h_15 (vin rfl) ((r_2 0 (by omega))) dX9_add_54 ?_
      refine z_iload_n B dX9_add_55 rfl 2 rfl ?_
      refine z_dup2_11 B dX9_add_56 rfl rfl ?_
      obtain ⟨f_5, h_16⟩ := in21 (k := 127) hI2 rfl
      have h_17 : Φ2 (x + 127) = some (al_ G 24 f_5) := h_16
      refine z_lald B h_17 (vp_in_nI (by omega) (by omega)) dX9_add_57 ?_
      refine z_fl (fun v_6 => ?_)
      refine z_iload B dX9_add_58 5 rfl ?_
      refine z_i2l (v := (nI n).toInt64) B dX9_add_60 rfl ?_
      refine z_fl (fun v_7 => ?_)
      refine z_lload_n B dX9_add_61 rfl 3 rfl ?_
      refine z_lmul B dX9_add_62 ?_
      refine z_fl (fun v_8 => ?_)
      refine z_ladd B dX9_add_63 ?_
      refine z_fl (fun v_9 => ?_)
      refine z_last B h_17 (Nat.le_trans hx (Nat.le_add_right x 127)) (vp_in_nI (by omega) (by omega)) dX9_add_64 (fun Φ3 hΦ3 => ?_)
      have h_18 : Φ3 (x + 127) = some (al_ G 24 (vp_updL f_5 (nI n_1).toNatClampNeg v_9)) := fset_at hΦ3
      have hI3 : In G x (ca) Φ3 := In.put (k := 127) hI2 hΦ3 (ok21 (k := 127) rfl ⟨_, rfl⟩)
      refine z_aload_n B dX9_add_65 rfl 1 rfl ?_
      have h_19 : Φ3 (x + 121) = some (o_ 11 [.ref (x + 122), .ref (x + 123), .ref (x + 126), .ref (x + 129), .int (nI n_2)]) := ((fset_fr hΦ3 (ne_off (x := x) (i := 121) (j := 127) rfl)).trans h_13)
      refine z_get (ref := "FlowExporter$Sums") (C := RX9) (T := TX9) (N := 5) (ci := 11) (v := .ref (x + 126)) B (by decide +kernel) rfl 2 (by decide) (by decide +kernel) rfl h_19 rfl dX9_add_66 ?_
      refine z_iconst (v := 1) B dX9_add_69 rfl ?_
      have h_20 : Φ3 (x + 126) = some (aq_ G 7 2 f_4) := ((fset_fr hΦ3 (ne_off (x := x) (i := 126) (j := 127) rfl)).trans h_15)
      refine z_aaldA (b := x + 128) B rfl h_20 (vin rfl) ((r_2 1 (by omega))) dX9_add_70 ?_
      refine z_iload_n B dX9_add_71 rfl 2 rfl ?_
      refine z_dup2_11 B dX9_add_72 rfl rfl ?_
      obtain ⟨f_6, h_21⟩ := in21 (k := 128) hI3 rfl
      have h_22 : Φ3 (x + 128) = some (al_ G 24 f_6) := h_21
      refine z_lald B h_22 (vp_in_nI (by omega) (by omega)) dX9_add_73 ?_
      refine z_fl (fun v_10 => ?_)
      refine z_iload B dX9_add_74 5 rfl ?_
      refine z_i2l (v := (nI n).toInt64) B dX9_add_76 rfl ?_
      refine z_fl (fun v_11 => ?_)
      refine z_lload B dX9_add_77 4 rfl ?_
      refine z_lmul B dX9_add_79 ?_
      refine z_fl (fun v_12 => ?_)
      refine z_ladd B dX9_add_80 ?_
      refine z_fl (fun v_13 => ?_)
      refine z_last B h_22 (Nat.le_trans hx (Nat.le_add_right x 128)) (vp_in_nI (by omega) (by omega)) dX9_add_81 (fun Φ4 hΦ4 => ?_)
      have h_23 : Φ4 (x + 128) = some (al_ G 24 (vp_updL f_6 (nI n_1).toNatClampNeg v_13)) := fset_at hΦ4
      have hI4 : In G x (ca) Φ4 := In.put (k := 128) hI3 hΦ4 (ok21 (k := 128) rfl ⟨_, rfl⟩)
      refine z_aload_n B dX9_add_82 rfl 1 rfl ?_
      have h_24 : Φ4 (x + 121) = some (o_ 11 [.ref (x + 122), .ref (x + 123), .ref (x + 126), .ref (x + 129), .int (nI n_2)]) := ((fset_fr hΦ4 (ne_off (x := x) (i := 121) (j := 128) rfl)).trans h_19)
      refine z_get (ref := "FlowExporter$Sums") (C := RX9) (T := TX9) (N := 5) (ci := 11) (v := .ref (x + 129)) B (by decide +kernel) rfl 3 (by decide) (by decide +kernel) rfl h_24 rfl dX9_add_83 ?_
      refine z_iconst (v := 0) B dX9_add_86 rfl ?_
      obtain ⟨f_7, h_25, r_3⟩ := in23 (k := 129) hI4 rfl
      have h_26 : Φ4 (x + 129) = some (aq_ G 8 2 f_7) := h_25
      refine z_aaldA (b := x + 130) B rfl h_26 (vin rfl) ((r_3 0 (by omega))) dX9_add_87 ?_
      refine z_iload_n B dX9_add_88 rfl 2 rfl ?_
      refine z_dup2_11 B dX9_add_89 rfl rfl ?_
      obtain ⟨f_8, h_27, r_4⟩ := in24 (k := 130) hI4 rfl
      have h_28 : Φ4 (x + 130) = some (ad_ G 24 f_8) := h_27
      refine z_dald B h_28 (vp_in_nI (by omega) (by omega)) dX9_add_90 ?_
      refine z_fdq (P := fun u9 : UInt64 => pd64 u9) (r_4 _) (fun v_15 q_8 => ?_)
      replace q_8 : pd64 v_15 := q_8
      refine z_dload B dX9_add_91 0 rfl ?_
      refine z_lload_n B dX9_add_93 rfl 3 rfl ?_
      refine z_l2d B dX9_add_94 ?_
      refine z_fdq (P := fun u9 : UInt64 => sm64 12 u9 ∧ pd64 u9) ⟨(l2d_sm b), (l2d_pd hb)⟩ (fun v_16 q_11 => ?_)
      obtain ⟨q_9, q_10⟩ := q_11
      replace q_9 : sm64 12 v_16 := q_9
      replace q_10 : pd64 v_16 := q_10
      have q_13 : sm64 144 (FP.dmul v_1 v_16) := (mul_sm q_4 q_9 (by decide) (by decide))
      have q_14 : pd64 (FP.dmul v_1 v_16) := (mul_pd q_4 q_9 q_5 q_10)
      refine z_dmul B dX9_add_95 (vf_of (sm_nn q_13)) ?_
      refine z_fdq (P := fun u9 : UInt64 => sm64 144 u9 ∧ pd64 u9) ⟨q_13, q_14⟩ (fun v_17 q_17 => ?_)
      obtain ⟨q_15, q_16⟩ := q_17
      replace q_15 : sm64 144 v_17 := q_15
      replace q_16 : pd64 v_17 := q_16
      have q_19 : pd64 (FP.dadd v_15 v_17) := (pd_add q_8 q_16)
      refine z_dadd B dX9_add_96 (vf_of (pd_nn q_19)) ?_
      refine z_fdq (P := fun u9 : UInt64 => pd64 u9) q_19 (fun v_18 q_21 => ?_)
      replace q_21 : pd64 v_18 := q_21
      refine z_dast B h_28 (Nat.le_trans hx (Nat.le_add_right x 130)) (vp_in_nI (by omega) (by omega)) dX9_add_97 (fun Φ5 hΦ5 => ?_)
      have h_29 : Φ5 (x + 130) = some (ad_ G 24 (vf_upd f_8 (nI n_1).toNatClampNeg v_18)) := fset_at hΦ5
      have hI5 : In G x (ca) Φ5 := In.put (k := 130) hI4 hΦ5 (ok24 (k := 130) rfl ⟨_, rfl, pd_upd r_4 q_21⟩)
      refine z_lload_n B dX9_add_98 rfl 3 rfl ?_
      refine z_lconst (v := 0) B dX9_add_99 rfl ?_
      refine z_lcmp B dX9_add_100 ?_
      refine z_if_eq (tgt := 128) B dX9_add_101 rfl (fun c_3 => ?_) (fun c_3 => ?_)
      · exact z_ret_v B dX9_add_128 ⟨rfl, rfl, hI5, (fun b9 h9 => ((fset_fr hΦ5 (fun h8 => h9 (130) h8 (show 124 ≤ 130 ∧ 130 < 132 by omega))).trans ((fset_fr hΦ4 (fun h8 => h9 (128) h8 (show 124 ≤ 128 ∧ 128 < 132 by omega))).trans ((fset_fr hΦ3 (fun h8 => h9 (127) h8 (show 124 ≤ 127 ∧ 127 < 132 by omega))).trans ((fset_fr hΦ2 (fun h8 => h9 (125) h8 (show 124 ≤ 125 ∧ 125 < 132 by omega))).trans ((fset_fr hΦ1 (fun h8 => h9 (124) h8 (show 124 ≤ 124 ∧ 124 < 132 by omega))).trans rfl))))))⟩
      · refine z_aload_n B dX9_add_104 rfl 1 rfl ?_
        have h_30 : Φ5 (x + 121) = some (o_ 11 [.ref (x + 122), .ref (x + 123), .ref (x + 126), .ref (x + 129), .int (nI n_2)]) := ((fset_fr hΦ5 (ne_off (x := x) (i := 121) (j := 130) rfl)).trans h_24)
        refine z_get (ref := "FlowExporter$Sums") (C := RX9) (T := TX9) (N := 5) (ci := 11) (v := .ref (x + 129)) B (by decide +kernel) rfl 3 (by decide) (by decide +kernel) rfl h_30 rfl dX9_add_105 ?_
        refine z_iconst (v := 1) B dX9_add_108 rfl ?_
        have h_31 : Φ5 (x + 129) = some (aq_ G 8 2 f_7) := ((fset_fr hΦ5 (ne_off (x := x) (i := 129) (j := 130) rfl)).trans h_26)
        refine z_aaldA (b := x + 131) B rfl h_31 (vin rfl) ((r_3 1 (by omega))) dX9_add_109 ?_
        refine z_iload_n B dX9_add_110 rfl 2 rfl ?_
        refine z_dup2_11 B dX9_add_111 rfl rfl ?_
        obtain ⟨f_9, h_32, r_5⟩ := in24 (k := 131) hI5 rfl
        have h_33 : Φ5 (x + 131) = some (ad_ G 24 f_9) := h_32
        refine z_dald B h_33 (vp_in_nI (by omega) (by omega)) dX9_add_112 ?_
        refine z_fdq (P := fun u9 : UInt64 => pd64 u9) (r_5 _) (fun v_20 q_23 => ?_)
        replace q_23 : pd64 v_20 := q_23
        refine z_dload B dX9_add_113 0 rfl ?_
        refine z_lload B dX9_add_115 4 rfl ?_
        refine z_l2d B dX9_add_117 ?_
        refine z_dmul B dX9_add_118 (vf_of (sm_nn (mul_sm q_4 (l2d_sm _) (by decide) (by decide)))) ?_
        refine z_lload B dX9_add_119 4 rfl ?_
        refine z_l2d B dX9_add_121 ?_
        have q_25 : sm64 210 (FP.dmul (FP.dmul v_1 (FP.l2d d)) (FP.l2d d)) := (mul_sm (mul_sm q_4 (l2d_sm _) (by decide) (by decide)) (l2d_sm _) (by decide) (by decide))
        have q_26 : pd64 (FP.dmul (FP.dmul v_1 (FP.l2d d)) (FP.l2d d)) := (sq_pd q_4 q_5 _)
        refine z_dmul B dX9_add_122 (vf_of (sm_nn q_25)) ?_
        refine z_fdq (P := fun u9 : UInt64 => sm64 210 u9 ∧ pd64 u9) ⟨q_25, q_26⟩ (fun v_21 q_29 => ?_)
        obtain ⟨q_27, q_28⟩ := q_29
        replace q_27 : sm64 210 v_21 := q_27
        replace q_28 : pd64 v_21 := q_28
        refine z_lload_n B dX9_add_123 rfl 3 rfl ?_
        refine z_l2d B dX9_add_124 ?_
        have q_31 : pd64 (FP.ddiv v_21 (FP.l2d b)) := (div_pd q_27 q_28 hb (fun h8 => c_3 ((lg_cmp_eq _ _).mpr h8)))
        refine z_ddiv B dX9_add_125 (vf_of (pd_nn q_31)) ?_
        refine z_fdq (P := fun u9 : UInt64 => pd64 u9) q_31 (fun v_22 q_33 => ?_)
        replace q_33 : pd64 v_22 := q_33
        have q_35 : pd64 (FP.dadd v_20 v_22) := (pd_add q_23 q_33)
        refine z_dadd B dX9_add_126 (vf_of (pd_nn q_35)) ?_
        refine z_fdq (P := fun u9 : UInt64 => pd64 u9) q_35 (fun v_23 q_37 => ?_)
        replace q_37 : pd64 v_23 := q_37
        refine z_dast B h_33 (Nat.le_trans hx (Nat.le_add_right x 131)) (vp_in_nI (by omega) (by omega)) dX9_add_127 (fun Φ6 hΦ6 => ?_)
        have h_34 : Φ6 (x + 131) = some (ad_ G 24 (vf_upd f_9 (nI n_1).toNatClampNeg v_23)) := fset_at hΦ6
        have hI6 : In G x (ca) Φ6 := In.put (k := 131) hI5 hΦ6 (ok24 (k := 131) rfl ⟨_, rfl, pd_upd r_5 q_37⟩)
        exact z_ret_v B dX9_add_128 ⟨rfl, rfl, hI6, (fun b9 h9 => ((fset_fr hΦ6 (fun h8 => h9 (131) h8 (show 124 ≤ 131 ∧ 131 < 132 by omega))).trans ((fset_fr hΦ5 (fun h8 => h9 (130) h8 (show 124 ≤ 130 ∧ 130 < 132 by omega))).trans ((fset_fr hΦ4 (fun h8 => h9 (128) h8 (show 124 ≤ 128 ∧ 128 < 132 by omega))).trans ((fset_fr hΦ3 (fun h8 => h9 (127) h8 (show 124 ≤ 127 ∧ 127 < 132 by omega))).trans ((fset_fr hΦ2 (fun h8 => h9 (125) h8 (show 124 ≤ 125 ∧ 125 < 132 by omega))).trans ((fset_fr hΦ1 (fun h8 => h9 (124) h8 (show 124 ≤ 124 ∧ 124 < 132 by omega))).trans rfl)))))))⟩
    · have e_3 : ¬ (n_1 < n_2) := fun h9 => c_2 ((nI_ltI (a := n_1) (b := n_2) (by omega) (by omega)).mpr h9)
      exact z_ret_v B dX9_add_12 ⟨rfl, rfl, hI, (fun b9 h9 => rfl)⟩

set_option maxHeartbeats 4000000 in
set_option maxRecDepth 100000 in
theorem s_X0_rateOfBits (G : EnvG) (l : Launch) (Φ : Hm) (sz x ca : Nat) (a : Int32) (b : Nat) (hx : G.2.2.2 ≤ x) (hI : In G x ca Φ) (hb : b < 2 ^ 31) : Ct G l yX0_rateOfBits wsX0_rateOfBits ({ frames := 1, cells := 0, slots := 0, locals := 13 }) 0 0 [.int a, .int (nI b)] Φ sz (fun v Φ1 sz1 => (∃ n9 : Nat, v = some (.int (nI n9)) ∧ n9 < 2 ^ 31) ∧ sz1 = sz ∧ In G x (ca) Φ1 ∧ Fr x (fun j9 => False) Φ Φ1) := by
  refine Ct.of (cc := cX0_rateOfBits) (maxL := 5) (ret := (some .int)) (by decide) rfl (Nat.le_of_ble_eq_true rfl) ?_
  intro p9 e9 s9 m9 w9 t9 k9 B
  show Z p9 l e9 _ s9 m9 _ w9 t9 k9 _ G 5 0 [(0, .int a), (1, .int (nI b))] [] Φ sz 0 0
  refine z_iload_n B dX0_rateOfBits_0 rfl 0 rfl ?_
  refine z_if_le (tgt := 10) B dX0_rateOfBits_1 rfl (fun c_1 => ?_) (fun c_1 => ?_)
  · refine z_iload_n B dX0_rateOfBits_10 rfl 1 rfl ?_
    exact z_ret_i B dX0_rateOfBits_11 ⟨⟨b, rfl, (show b < 2 ^ 31 by omega)⟩, rfl, hI, (fun b9 h9 => rfl)⟩
  · obtain ⟨n_1, e_2, e_1, rfl⟩ := nI_ofp c_1
    refine z_iload_n B dX0_rateOfBits_4 rfl 0 rfl ?_
    refine z_ldc (v := 1065353216) B (by decide +kernel) dX0_rateOfBits_5 ?_
    refine z_icmp_le (tgt := 12) B dX0_rateOfBits_7 rfl (fun c_2 => ?_) (fun c_2 => ?_)
    · have e_3 : n_1 ≤ 1065353216 := (nI_leI (a := n_1) (b := 1065353216) (by omega) (by omega)).mp c_2
      refine z_iload_n B dX0_rateOfBits_12 rfl 0 rfl ?_
      refine z_bipush (v := 23) B dX0_rateOfBits_13 rfl ?_
      refine z_ishr B dX0_rateOfBits_15 ?_
      refine z_fi (fun v_1 => ?_)
      refine z_istore_n (lv' := [(2, .int v_1), (0, .int (nI n_1)), (1, .int (nI b))]) B dX0_rateOfBits_16 rfl (Nat.le_of_ble_eq_true rfl) rfl ?_
      refine z_iload_n B dX0_rateOfBits_17 rfl 0 rfl ?_
      refine z_bipush (v := 117) B dX0_rateOfBits_18 rfl ?_
      refine z_icmp_ge (tgt := 27) B dX0_rateOfBits_20 rfl (fun c_3 => ?_) (fun c_3 => ?_)
      · obtain ⟨n_2, e_5, e_4, rfl⟩ := nI_ofge (c := 117) (by omega) (Int32.not_lt.mpr c_3)
        refine z_iload_n B dX0_rateOfBits_27 rfl 1 rfl ?_
        refine z_ldc (v := 8388607) B (by decide +kernel) dX0_rateOfBits_28 ?_
        refine z_iand B dX0_rateOfBits_30 ?_
        refine z_fi (fun v_2 => ?_)
        refine z_ldc (v := 8388608) B (by decide +kernel) dX0_rateOfBits_31 ?_
        refine z_ior B dX0_rateOfBits_33 ?_
        refine z_istore_n (lv' := [(3, .int (v_2 ||| 8388608)), (2, .int (nI n_2)), (0, .int (nI n_1)), (1, .int (nI b))]) B dX0_rateOfBits_34 rfl (Nat.le_of_ble_eq_true rfl) rfl ?_
        refine z_iload_n B dX0_rateOfBits_35 rfl 0 rfl ?_
        refine z_i2f B dX0_rateOfBits_36 ?_
        refine z_lconst (v := 1) B dX0_rateOfBits_37 rfl ?_
        refine z_sipush (v := 150) B dX0_rateOfBits_38 rfl ?_
        refine z_iload_n B dX0_rateOfBits_41 rfl 1 rfl ?_
        refine z_isub B dX0_rateOfBits_42 ?_
        refine z_fi (fun v_3 => ?_)
        refine z_lshl (v := 1 <<< ((v_3 : Int32).toInt64 &&& 63)) B dX0_rateOfBits_43 rfl ?_
        refine z_l2f B dX0_rateOfBits_44 ?_
        refine z_fdiv B dX0_rateOfBits_45 (vf32_of (fdiv1 _ _)) ?_
        refine z_ffq (P := nn32) (fdiv1 _ _) (fun v_4 hu9 => ?_)
        refine z_fstore (lv' := [(4, .float v_4), (3, .int (v_2 ||| 8388608)), (2, .int (nI n_2)), (0, .int (nI n_1)), (1, .int (nI b))]) B dX0_rateOfBits_46 (Nat.le_of_ble_eq_true rfl) rfl ?_
        refine z_fload B dX0_rateOfBits_48 0 rfl ?_
        refine z_fconst0 B dX0_rateOfBits_50 ?_
        refine z_fcmp B dX0_rateOfBits_51 ?_
        refine z_if_le (tgt := 72) B dX0_rateOfBits_52 rfl (fun c_4 => ?_) (fun c_4 => ?_)
        · refine z_iload_n B dX0_rateOfBits_72 rfl 4 rfl ?_
          exact z_ret_i B dX0_rateOfBits_73 ⟨⟨b, rfl, (show b < 2 ^ 31 by omega)⟩, rfl, hI, (fun b9 h9 => rfl)⟩
        · refine z_sipush (v := 1024) B dX0_rateOfBits_55 rfl ?_
          refine z_fconst1 B dX0_rateOfBits_58 ?_
          refine z_fload B dX0_rateOfBits_59 0 rfl ?_
          refine z_fdiv B dX0_rateOfBits_61 (vf32_of (inv_nn hu9)) ?_
          refine z_ldcf (v := 1056964608) B (by decide +kernel) dX0_rateOfBits_62 ?_
          refine z_fadd B dX0_rateOfBits_64 (vf32_of (inv_add_nn hu9)) ?_
          refine z_f2i B dX0_rateOfBits_65 ?_
          obtain ⟨n_3, b_1, e_6⟩ := f2i_nat c_4
          refine z_top (st1 := [.int (nI n_3), .int 1024]) (congrArg (fun w9 : Int32 => ([.int w9, .int 1024] : List Value)) (e_6)) ?_
          refine z_mmin (v := nI (min 1024 n_3)) B (by decide +kernel) (by decide +kernel) (by decide +kernel) (by decide +kernel) (nI_min (a := 1024) (b := n_3) (by omega) (by omega)) ⟨Nat.le_of_ble_eq_true rfl, Nat.le_of_ble_eq_true rfl⟩ ⟨Nat.le_of_ble_eq_true rfl, Nat.le_of_ble_eq_true rfl⟩ dX0_rateOfBits_66 ?_
          refine z_goto (tgt := 73) B dX0_rateOfBits_69 rfl ?_
          exact z_ret_i B dX0_rateOfBits_73 ⟨⟨min 1024 n_3, rfl, (show (min 1024 n_3) < 2 ^ 31 by omega)⟩, rfl, hI, (fun b9 h9 => rfl)⟩
      · refine z_sipush (v := 1024) B dX0_rateOfBits_23 rfl ?_
        exact z_ret_i B dX0_rateOfBits_26 ⟨⟨1024, rfl, (show 1024 < 2 ^ 31 by omega)⟩, rfl, hI, (fun b9 h9 => rfl)⟩
    · have e_8 : ¬ (n_1 ≤ 1065353216) := fun h9 => c_2 ((nI_leI (a := n_1) (b := 1065353216) (by omega) (by omega)).mpr h9)
      refine z_iload_n B dX0_rateOfBits_10 rfl 1 rfl ?_
      exact z_ret_i B dX0_rateOfBits_11 ⟨⟨b, rfl, (show b < 2 ^ 31 by omega)⟩, rfl, hI, (fun b9 h9 => rfl)⟩

set_option maxHeartbeats 4000000 in
set_option maxRecDepth 100000 in
theorem s_X3_keyOf (G : EnvG) (l : Launch) (Φ : Hm) (sz x ca : Nat) (a : Int32) (b : Int32) (d : Int32) (f : Int32) (hx : G.2.2.2 ≤ x) (hI : In G x ca Φ)  : Ct G l yX3_keyOf wsX3_keyOf ({ frames := 0, cells := 0, slots := 0, locals := 0 }) 0 0 [.int a, .int b, .int d, .int f] Φ sz (fun v Φ1 sz1 => (∃ r9 : Int64, v = some (.long r9)) ∧ sz1 = sz ∧ In G x (ca) Φ1 ∧ Fr x (fun j9 => False) Φ Φ1) := by
  refine Ct.of (cc := cX3_keyOf) (maxL := 4) (ret := (some .long)) (by decide) rfl (Nat.le_of_ble_eq_true rfl) ?_
  intro p9 e9 s9 m9 w9 t9 k9 B
  show Z p9 l e9 _ s9 m9 _ w9 t9 k9 _ G 4 0 [(0, .int a), (1, .int b), (2, .int d), (3, .int f)] [] Φ sz 0 0
  refine z_iload_n B dX3_keyOf_0 rfl 0 rfl ?_
  refine z_if_lt (tgt := 22) B dX3_keyOf_1 rfl (fun c_1 => ?_) (fun c_1 => ?_)
  · refine z_ldc2 (v := (-1)) B (by decide +kernel) dX3_keyOf_22 ?_
    exact z_ret_l B dX3_keyOf_25 ⟨⟨_, rfl⟩, rfl, hI, (fun b9 h9 => rfl)⟩
  · obtain ⟨n_1, e_1, rfl⟩ := nI_of c_1
    refine z_iload_n B dX3_keyOf_4 rfl 0 rfl ?_
    refine z_sipush (v := 255) B dX3_keyOf_5 rfl ?_
    refine z_icmp_gt (tgt := 22) B dX3_keyOf_8 rfl (fun c_2 => ?_) (fun c_2 => ?_)
    · have e_2 : 255 < n_1 := (nI_ltI (a := 255) (b := n_1) (by omega) (by omega)).mp c_2
      refine z_ldc2 (v := (-1)) B (by decide +kernel) dX3_keyOf_22 ?_
      exact z_ret_l B dX3_keyOf_25 ⟨⟨_, rfl⟩, rfl, hI, (fun b9 h9 => rfl)⟩
    · have e_3 : ¬ (255 < n_1) := fun h9 => c_2 ((nI_ltI (a := 255) (b := n_1) (by omega) (by omega)).mpr h9)
      refine z_iload_n B dX3_keyOf_11 rfl 1 rfl ?_
      refine z_if_lt (tgt := 22) B dX3_keyOf_12 rfl (fun c_3 => ?_) (fun c_3 => ?_)
      · refine z_ldc2 (v := (-1)) B (by decide +kernel) dX3_keyOf_22 ?_
        exact z_ret_l B dX3_keyOf_25 ⟨⟨_, rfl⟩, rfl, hI, (fun b9 h9 => rfl)⟩
      · obtain ⟨n_2, e_4, rfl⟩ := nI_of c_3
        refine z_iload_n B dX3_keyOf_15 rfl 1 rfl ?_
        refine z_sipush (v := 255) B dX3_keyOf_16 rfl ?_
        refine z_icmp_le (tgt := 26) B dX3_keyOf_19 rfl (fun c_4 => ?_) (fun c_4 => ?_)
        · have e_5 : n_2 ≤ 255 := (nI_leI (a := n_2) (b := 255) (by omega) (by omega)).mp c_4
          refine z_iload_n B dX3_keyOf_26 rfl 2 rfl ?_
          refine z_if_lt (tgt := 47) B dX3_keyOf_27 rfl (fun c_5 => ?_) (fun c_5 => ?_)
          · refine z_ldc2 (v := (-1)) B (by decide +kernel) dX3_keyOf_47 ?_
            exact z_ret_l B dX3_keyOf_50 ⟨⟨_, rfl⟩, rfl, hI, (fun b9 h9 => rfl)⟩
          · obtain ⟨n_3, e_6, rfl⟩ := nI_of c_5
            refine z_iload_n B dX3_keyOf_30 rfl 2 rfl ?_
            refine z_ldc (v := 65535) B (by decide +kernel) dX3_keyOf_31 ?_
            refine z_icmp_gt (tgt := 47) B dX3_keyOf_33 rfl (fun c_6 => ?_) (fun c_6 => ?_)
            · have e_7 : 65535 < n_3 := (nI_ltI (a := 65535) (b := n_3) (by omega) (by omega)).mp c_6
              refine z_ldc2 (v := (-1)) B (by decide +kernel) dX3_keyOf_47 ?_
              exact z_ret_l B dX3_keyOf_50 ⟨⟨_, rfl⟩, rfl, hI, (fun b9 h9 => rfl)⟩
            · have e_8 : ¬ (65535 < n_3) := fun h9 => c_6 ((nI_ltI (a := 65535) (b := n_3) (by omega) (by omega)).mpr h9)
              refine z_iload_n B dX3_keyOf_36 rfl 3 rfl ?_
              refine z_if_lt (tgt := 47) B dX3_keyOf_37 rfl (fun c_7 => ?_) (fun c_7 => ?_)
              · refine z_ldc2 (v := (-1)) B (by decide +kernel) dX3_keyOf_47 ?_
                exact z_ret_l B dX3_keyOf_50 ⟨⟨_, rfl⟩, rfl, hI, (fun b9 h9 => rfl)⟩
              · obtain ⟨n_4, e_9, rfl⟩ := nI_of c_7
                refine z_iload_n B dX3_keyOf_40 rfl 3 rfl ?_
                refine z_sipush (v := 255) B dX3_keyOf_41 rfl ?_
                refine z_icmp_le (tgt := 51) B dX3_keyOf_44 rfl (fun c_8 => ?_) (fun c_8 => ?_)
                · have e_10 : n_4 ≤ 255 := (nI_leI (a := n_4) (b := 255) (by omega) (by omega)).mp c_8
                  refine z_iload_n B dX3_keyOf_51 rfl 0 rfl ?_
                  refine z_i2l (v := (nI n_1).toInt64) B dX3_keyOf_52 rfl ?_
                  refine z_fl (fun v_1 => ?_)
                  refine z_bipush (v := 32) B dX3_keyOf_53 rfl ?_
                  refine z_lshl (v := v_1 <<< ((32 : Int32).toInt64 &&& 63)) B dX3_keyOf_55 rfl ?_
                  refine z_fl (fun v_2 => ?_)
                  refine z_iload_n B dX3_keyOf_56 rfl 1 rfl ?_
                  refine z_i2l (v := (nI n_2).toInt64) B dX3_keyOf_57 rfl ?_
                  refine z_fl (fun v_3 => ?_)
                  refine z_bipush (v := 24) B dX3_keyOf_58 rfl ?_
                  refine z_lshl (v := v_3 <<< ((24 : Int32).toInt64 &&& 63)) B dX3_keyOf_60 rfl ?_
                  refine z_fl (fun v_4 => ?_)
                  refine z_lor B dX3_keyOf_61 ?_
                  refine z_fl (fun v_5 => ?_)
                  refine z_iload_n B dX3_keyOf_62 rfl 2 rfl ?_
                  refine z_i2l (v := (nI n_3).toInt64) B dX3_keyOf_63 rfl ?_
                  refine z_fl (fun v_6 => ?_)
                  refine z_bipush (v := 8) B dX3_keyOf_64 rfl ?_
                  refine z_lshl (v := v_6 <<< ((8 : Int32).toInt64 &&& 63)) B dX3_keyOf_66 rfl ?_
                  refine z_fl (fun v_7 => ?_)
                  refine z_lor B dX3_keyOf_67 ?_
                  refine z_fl (fun v_8 => ?_)
                  refine z_iload_n B dX3_keyOf_68 rfl 3 rfl ?_
                  refine z_i2l (v := (nI n_4).toInt64) B dX3_keyOf_69 rfl ?_
                  refine z_fl (fun v_9 => ?_)
                  refine z_lor B dX3_keyOf_70 ?_
                  refine z_fl (fun v_10 => ?_)
                  exact z_ret_l B dX3_keyOf_71 ⟨⟨_, rfl⟩, rfl, hI, (fun b9 h9 => rfl)⟩
                · have e_11 : ¬ (n_4 ≤ 255) := fun h9 => c_8 ((nI_leI (a := n_4) (b := 255) (by omega) (by omega)).mpr h9)
                  refine z_ldc2 (v := (-1)) B (by decide +kernel) dX3_keyOf_47 ?_
                  exact z_ret_l B dX3_keyOf_50 ⟨⟨_, rfl⟩, rfl, hI, (fun b9 h9 => rfl)⟩
        · have e_12 : ¬ (n_2 ≤ 255) := fun h9 => c_4 ((nI_leI (a := n_2) (b := 255) (by omega) (by omega)).mpr h9)
          refine z_ldc2 (v := (-1)) B (by decide +kernel) dX3_keyOf_22 ?_
          exact z_ret_l B dX3_keyOf_25 ⟨⟨_, rfl⟩, rfl, hI, (fun b9 h9 => rfl)⟩

set_option maxHeartbeats 4000000 in
set_option maxRecDepth 100000 in
theorem s_X0_readCandidate (G : EnvG) (l : Launch) (Φ : Hm) (sz x ca : Nat) (k : Nat) (a : Int32) (b : Int32) (hx : G.2.2.2 ≤ x) (hI : In G x ca Φ) (hk_k : kd k = 1) : Ct G l yX0_readCandidate wsX0_readCandidate ({ frames := 2, cells := 0, slots := 0, locals := 48 }) 0 0 [.ref (x + 132), .ref (x + (k)), .int a, .int b] Φ sz (fun v Φ1 sz1 => (∃ r9 : Int32, v = some (.int r9) ∧ (r9 = 0 ∨ r9 = 1)) ∧ sz1 = sz ∧ In G x (ca) Φ1 ∧ Fr x (fun j9 => (135 ≤ j9 ∧ j9 < 137)) Φ Φ1) := by
  refine Ct.of (cc := cX0_readCandidate) (maxL := 7) (ret := (some .boolean)) (by decide) rfl (Nat.le_of_ble_eq_true rfl) ?_
  intro p9 e9 s9 m9 w9 t9 k9 B
  show Z p9 l e9 _ s9 m9 _ w9 t9 k9 _ G 7 0 [(0, .ref (x + 132)), (1, .ref (x + (k))), (2, .int a), (3, .int b)] [] Φ sz 0 0
  refine z_aload_n B dX0_readCandidate_0 rfl 0 rfl ?_
  obtain ⟨n_1, v_1, v_2, h_1, b_1⟩ := in25 (k := 132) hI rfl
  have h_2 : Φ (x + 132) = some (o_ 2 [.ref (x + 3), .ref (x + 121), .ref (x + 133), .ref (x + 134), .ref (x + 135), .ref (x + 137), .ref (x + 138), .ref (x + 139), .ref (x + 140), .int (nI n_1), .int v_1, .int v_2]) := h_1
  refine z_get (ref := "FlowExporter$Collector") (C := RX0) (T := TX0) (N := 12) (ci := 2) (v := .ref (x + 135)) B (by decide +kernel) rfl 4 (by decide) (by decide +kernel) rfl h_2 rfl dX0_readCandidate_1 ?_
  obtain ⟨n_2, v_3, v_4, h_3, b_2⟩ := in8 (k := 135) hI rfl
  have h_4 : Φ (x + 135) = some (o_ 12 [.ref (x + 136), .int (nI n_2), .int v_3, .int v_4]) := h_3
  refine z_callV (As := []) (rest := []) B (s_X10_clear G l Φ sz x (ca) 135 hx hI rfl) (cwV 0 B.1.2.2.2.2 gX0_readCandidate_X10_clear rfl rfl rfl (by decide +kernel) ⟨Nat.le_of_ble_eq_true rfl, Nat.le_of_ble_eq_true rfl⟩) h_4 rfl rfl rfl rfl (Nat.le_of_ble_eq_true rfl) dX0_readCandidate_4 ⟨Nat.le_of_ble_eq_true rfl, Nat.le_of_ble_eq_true rfl⟩ (fun r_1 Φ1 sz1 st1 hp1 hs1 => ?_)
  obtain ⟨rfl, hq1, hI1, hF1⟩ := hp1
  subst sz1
  replace hs1 : st1 = [] := hs1
  subst st1
  replace hI1 : In G x (ca) Φ1 := hI1
  refine z_iconst (v := 0) B dX0_readCandidate_7 rfl ?_
  refine z_istore (lv' := [(4, .int 0), (0, .ref (x + 132)), (1, .ref (x + (k))), (2, .int a), (3, .int b)]) B dX0_readCandidate_8 (Nat.le_of_ble_eq_true rfl) rfl ?_
  refine z_lv [0, 1, 2, 3, 4] rfl ?_
  refine z_loop (α := Int32) (fun (a9 : Int32) Φi => In G x (ca) Φi ∧ Fr x (fun j9 => (135 ≤ j9 ∧ j9 < 137)) Φ1 Φi ∧ True) (fun a9 => [(4, .int a9), (0, .ref (x + 132)), (1, .ref (x + (k))), (2, .int a), (3, .int b)]) (fun a9 => ((b).toInt - (a9).toInt).toNat) ?_ (0) ⟨hI1, fun _ _ => rfl, trivial⟩
  rintro i_1 Φl1 ⟨hI2, hF2, -⟩ ih1
  replace hI2 : In G x (ca) Φl1 := hI2
  show Z p9 l e9 _ s9 m9 _ w9 t9 k9 _ G 7 10 [(4, .int i_1), (0, .ref (x + 132)), (1, .ref (x + (k))), (2, .int a), (3, .int b)] [] Φl1 _ _ _
  refine z_iload B dX0_readCandidate_10 0 rfl ?_
  refine z_iload_n B dX0_readCandidate_12 rfl 4 rfl ?_
  refine z_icmp_ge (tgt := 90) B dX0_readCandidate_13 rfl (fun c_1 => ?_) (fun c_1 => ?_)
  · refine z_aload_n B dX0_readCandidate_90 rfl 1 rfl ?_
    have h_5 : Φl1 (x + 132) = some (o_ 2 [.ref (x + 3), .ref (x + 121), .ref (x + 133), .ref (x + 134), .ref (x + 135), .ref (x + 137), .ref (x + 138), .ref (x + 139), .ref (x + 140), .int (nI n_1), .int v_1, .int v_2]) := ((hF2 (x + 132) (fun j9 h8 h7 => by have h6 : (135 ≤ j9 ∧ j9 < 137) := h7; omega)).trans ((hF1 (x + 132) (fun j9 h8 h7 => by have h6 : j9 = 135 := h7; omega)).trans h_2))
    refine z_get (ref := "FlowExporter$Collector") (C := RX0) (T := TX0) (N := 12) (ci := 2) (v := .ref (x + 135)) B (by decide +kernel) rfl 4 (by decide) (by decide +kernel) rfl h_5 rfl dX0_readCandidate_91 ?_
    obtain ⟨n_3, v_5, v_6, h_6, b_3⟩ := in8 (k := 135) hI2 rfl
    have h_7 : Φl1 (x + 135) = some (o_ 12 [.ref (x + 136), .int (nI n_3), .int v_5, .int v_6]) := h_6
    refine z_get (ref := "FlowExporter$Template") (C := RX10) (T := TX10) (N := 4) (ci := 12) (v := .int (nI n_3)) B (by decide +kernel) rfl 1 (by decide) (by decide +kernel) rfl h_7 rfl dX0_readCandidate_94 ?_
    refine z_if_le (tgt := 104) B dX0_readCandidate_97 rfl (fun c_2 => ?_) (fun c_2 => ?_)
    · have e_1 : n_3 ≤ 0 := (nI_leI (a := n_3) (b := 0) (by omega) (by omega)).mp c_2
      refine z_iconst (v := 0) B dX0_readCandidate_104 rfl ?_
      exact z_ret_z B dX0_readCandidate_105 (by decide) ⟨⟨_, rfl, by decide⟩, rfl, hI2, (fun b9 h9 => ((hF2 b9 (fun j9 h8 h7 => h9 j9 h8 (show (135 ≤ j9 ∧ j9 < 137) by have h6 : (135 ≤ j9 ∧ j9 < 137) := h7; omega))).trans ((hF1 b9 (fun j9 h8 h7 => h9 j9 h8 (show (135 ≤ j9 ∧ j9 < 137) by have h6 : j9 = 135 := h7; omega))).trans rfl)))⟩
    · have e_2 : ¬ (n_3 ≤ 0) := fun h9 => c_2 ((nI_leI (a := n_3) (b := 0) (by omega) (by omega)).mpr h9)
      refine z_iconst (v := 1) B dX0_readCandidate_100 rfl ?_
      refine z_goto (tgt := 105) B dX0_readCandidate_101 rfl ?_
      exact z_ret_z B dX0_readCandidate_105 (by decide) ⟨⟨_, rfl, by decide⟩, rfl, hI2, (fun b9 h9 => ((hF2 b9 (fun j9 h8 h7 => h9 j9 h8 (show (135 ≤ j9 ∧ j9 < 137) by have h6 : (135 ≤ j9 ∧ j9 < 137) := h7; omega))).trans ((hF1 b9 (fun j9 h8 h7 => h9 j9 h8 (show (135 ≤ j9 ∧ j9 < 137) by have h6 : j9 = 135 := h7; omega))).trans rfl)))⟩
  · refine z_aload_n B dX0_readCandidate_16 rfl 2 rfl ?_
    refine z_iload_n B dX0_readCandidate_17 rfl 3 rfl ?_
    refine z_iconst (v := 4) B dX0_readCandidate_18 rfl ?_
    refine z_iload B dX0_readCandidate_19 0 rfl ?_
    refine z_imul B dX0_readCandidate_21 ?_
    refine z_fi (fun v_7 => ?_)
    refine z_iadd B dX0_readCandidate_22 ?_
    refine z_fi (fun v_8 => ?_)
    refine z_iconst (v := 2) B dX0_readCandidate_23 rfl ?_
    obtain ⟨n_4, h_8, b_4⟩ := in1 (k := k) hI2 hk_k
    replace b_4 : n_4 ≤ cap (k) := b_4
    have b_5 := cap_le (k)
    have h_9 : Φl1 (x + (k)) = some (o_ 7 [.ref (x + (k + 1)), .int (nI n_4)]) := h_8
    refine z_callV (As := [.int v_8, .int 2]) (rest := []) B (s_X5_intAt G l Φl1 sz x (ca) k v_8 2 hx hI2 hk_k (show 2 ≤ 8 by omega)) (cwV 2 B.1.2.2.2.2 gX0_readCandidate_X5_intAt rfl rfl rfl (by decide +kernel) ⟨Nat.le_of_ble_eq_true rfl, Nat.le_of_ble_eq_true rfl⟩) h_9 rfl rfl rfl rfl (Nat.le_of_ble_eq_true rfl) dX0_readCandidate_24 ⟨Nat.le_of_ble_eq_true rfl, Nat.le_of_ble_eq_true rfl⟩ (fun r_2 Φ2 sz2 st2 hp2 hs2 => ?_)
    obtain ⟨⟨v_9, rfl⟩, hq2, hI3, hF3⟩ := hp2
    subst sz2
    replace hs2 : st2 = [.int v_9] := hs2
    subst st2
    replace hI3 : In G x (ca) Φ2 := hI3
    refine z_istore (lv' := [(5, .int v_9), (4, .int i_1), (0, .ref (x + 132)), (1, .ref (x + (k))), (2, .int a), (3, .int b)]) B dX0_readCandidate_27 (Nat.le_of_ble_eq_true rfl) rfl ?_
    refine z_aload_n B dX0_readCandidate_29 rfl 3 rfl ?_
    refine z_iload_n B dX0_readCandidate_30 rfl 4 rfl ?_
    refine z_iconst (v := 4) B dX0_readCandidate_31 rfl ?_
    refine z_iload B dX0_readCandidate_32 1 rfl ?_
    refine z_imul B dX0_readCandidate_34 ?_
    refine z_fi (fun v_10 => ?_)
    refine z_iadd B dX0_readCandidate_35 ?_
    refine z_fi (fun v_11 => ?_)
    refine z_iconst (v := 2) B dX0_readCandidate_36 rfl ?_
    refine z_iadd B dX0_readCandidate_37 ?_
    refine z_fi (fun v_12 => ?_)
    refine z_iconst (v := 2) B dX0_readCandidate_38 rfl ?_
    have h_10 : Φ2 (x + (k)) = some (o_ 7 [.ref (x + (k + 1)), .int (nI n_4)]) := ((hF3 (x + (k)) (fun j9 h8 h7 => (show False from h7).elim)).trans h_9)
    refine z_callV (As := [.int v_12, .int 2]) (rest := []) B (s_X5_intAt G l Φ2 sz x (ca) k v_12 2 hx hI3 hk_k (show 2 ≤ 8 by omega)) (cwV 2 B.1.2.2.2.2 gX0_readCandidate_X5_intAt rfl rfl rfl (by decide +kernel) ⟨Nat.le_of_ble_eq_true rfl, Nat.le_of_ble_eq_true rfl⟩) h_10 rfl rfl rfl rfl (Nat.le_of_ble_eq_true rfl) dX0_readCandidate_39 ⟨Nat.le_of_ble_eq_true rfl, Nat.le_of_ble_eq_true rfl⟩ (fun r_3 Φ3 sz3 st3 hp3 hs3 => ?_)
    obtain ⟨⟨v_13, rfl⟩, hq3, hI4, hF4⟩ := hp3
    subst sz3
    replace hs3 : st3 = [.int v_13] := hs3
    subst st3
    replace hI4 : In G x (ca) Φ3 := hI4
    refine z_istore (lv' := [(6, .int v_13), (5, .int v_9), (4, .int i_1), (0, .ref (x + 132)), (1, .ref (x + (k))), (2, .int a), (3, .int b)]) B dX0_readCandidate_42 (Nat.le_of_ble_eq_true rfl) rfl ?_
    refine z_iload B dX0_readCandidate_44 1 rfl ?_
    refine z_bipush (v := 9) B dX0_readCandidate_46 rfl ?_
    refine z_icmp_ge (tgt := 73) B dX0_readCandidate_48 rfl (fun c_3 => ?_) (fun c_3 => ?_)
    · obtain ⟨n_5, e_4, e_3, rfl⟩ := nI_ofge (c := 9) (by omega) (Int32.not_lt.mpr c_3)
      refine z_iconst (v := 0) B dX0_readCandidate_73 rfl ?_
      exact z_ret_z B dX0_readCandidate_74 (by decide) ⟨⟨_, rfl, by decide⟩, rfl, hI4, (fun b9 h9 => ((hF4 b9 (fun j9 h8 h7 => (show False from h7).elim)).trans ((hF3 b9 (fun j9 h8 h7 => (show False from h7).elim)).trans ((hF2 b9 (fun j9 h8 h7 => h9 j9 h8 (show (135 ≤ j9 ∧ j9 < 137) by have h6 : (135 ≤ j9 ∧ j9 < 137) := h7; omega))).trans ((hF1 b9 (fun j9 h8 h7 => h9 j9 h8 (show (135 ≤ j9 ∧ j9 < 137) by have h6 : j9 = 135 := h7; omega))).trans rfl)))))⟩
    · refine z_iload B dX0_readCandidate_51 0 rfl ?_
      refine z_iload B dX0_readCandidate_53 1 rfl ?_
      refine z_callSN (As := [.int v_9]) (rest := [.int v_13]) B (s_X11_lengthOf G l Φ3 sz x (ca) v_9 hx hI4 ) ⟨va_cnB 1 B.1.2.2.2.2 gX0_readCandidate_X11_lengthOf_n134 rfl rfl rfl (B.2.2.2.2.1.2.2.1 (RX0, 134, yX11_lengthOf) (by decide +kernel)) (B.1.2.2.2.2 _ (by decide +kernel)) (by decide +kernel) ⟨Nat.le_of_ble_eq_true rfl, Nat.le_of_ble_eq_true rfl⟩, B.1.2.2.2.2 _ (by decide +kernel), trivial⟩ rfl rfl (Nat.le_of_ble_eq_true rfl) dX0_readCandidate_55 ⟨Nat.le_of_ble_eq_true rfl, Nat.le_of_ble_eq_true rfl⟩ (fun r_4 Φ4 sz4 st4 hp4 hs4 => ?_)
      obtain ⟨⟨n_6, rfl, b_6⟩, hq4, hI5, hF5⟩ := hp4
      subst sz4
      replace hs4 : st4 = [.int (nI n_6), .int v_13] := hs4
      subst st4
      replace hI5 : In G x (ca) Φ4 := hI5
      replace b_6 : n_6 ≤ 8 := b_6
      refine z_icmp_ne (tgt := 73) B dX0_readCandidate_58 rfl (fun c_4 => ?_) (fun c_4 => ?_)
      · refine z_iconst (v := 0) B dX0_readCandidate_73 rfl ?_
        exact z_ret_z B dX0_readCandidate_74 (by decide) ⟨⟨_, rfl, by decide⟩, rfl, hI5, (fun b9 h9 => ((hF5 b9 (fun j9 h8 h7 => (show False from h7).elim)).trans ((hF4 b9 (fun j9 h8 h7 => (show False from h7).elim)).trans ((hF3 b9 (fun j9 h8 h7 => (show False from h7).elim)).trans ((hF2 b9 (fun j9 h8 h7 => h9 j9 h8 (show (135 ≤ j9 ∧ j9 < 137) by have h6 : (135 ≤ j9 ∧ j9 < 137) := h7; omega))).trans ((hF1 b9 (fun j9 h8 h7 => h9 j9 h8 (show (135 ≤ j9 ∧ j9 < 137) by have h6 : j9 = 135 := h7; omega))).trans rfl))))))⟩
      · refine z_aload_n B dX0_readCandidate_61 rfl 3 rfl ?_
        have h_11 : Φ4 (x + 132) = some (o_ 2 [.ref (x + 3), .ref (x + 121), .ref (x + 133), .ref (x + 134), .ref (x + 135), .ref (x + 137), .ref (x + 138), .ref (x + 139), .ref (x + 140), .int (nI n_1), .int v_1, .int v_2]) := ((hF5 (x + 132) (fun j9 h8 h7 => (show False from h7).elim)).trans ((hF4 (x + 132) (fun j9 h8 h7 => (show False from h7).elim)).trans ((hF3 (x + 132) (fun j9 h8 h7 => (show False from h7).elim)).trans ((hF2 (x + 132) (fun j9 h8 h7 => by have h6 : (135 ≤ j9 ∧ j9 < 137) := h7; omega)).trans ((hF1 (x + 132) (fun j9 h8 h7 => by have h6 : j9 = 135 := h7; omega)).trans h_2)))))
        refine z_get (ref := "FlowExporter$Collector") (C := RX0) (T := TX0) (N := 12) (ci := 2) (v := .ref (x + 135)) B (by decide +kernel) rfl 4 (by decide) (by decide +kernel) rfl h_11 rfl dX0_readCandidate_62 ?_
        refine z_iload B dX0_readCandidate_65 1 rfl ?_
        obtain ⟨n_7, v_14, v_15, h_12, b_7⟩ := in8 (k := 135) hI5 rfl
        have h_13 : Φ4 (x + 135) = some (o_ 12 [.ref (x + 136), .int (nI n_7), .int v_14, .int v_15]) := h_12
        refine z_callV (As := [.int v_9]) (rest := []) B (s_X10_has G l Φ4 sz x (ca) 135 v_9 hx hI5 rfl) (cwV 1 B.1.2.2.2.2 gX0_readCandidate_X10_has rfl rfl rfl (by decide +kernel) ⟨Nat.le_of_ble_eq_true rfl, Nat.le_of_ble_eq_true rfl⟩) h_13 rfl rfl rfl rfl (Nat.le_of_ble_eq_true rfl) dX0_readCandidate_67 ⟨Nat.le_of_ble_eq_true rfl, Nat.le_of_ble_eq_true rfl⟩ (fun r_5 Φ5 sz5 st5 hp5 hs5 => ?_)
        obtain ⟨⟨v_16, rfl, b_8⟩, hq5, hI6, hF6⟩ := hp5
        subst sz5
        replace hs5 : st5 = [.int v_16] := hs5
        subst st5
        replace hI6 : In G x (ca) Φ5 := hI6
        refine z_if_eq (tgt := 75) B dX0_readCandidate_70 rfl (fun c_5 => ?_) (fun c_5 => ?_)
        · refine z_aload_n B dX0_readCandidate_75 rfl 3 rfl ?_
          have h_14 : Φ5 (x + 132) = some (o_ 2 [.ref (x + 3), .ref (x + 121), .ref (x + 133), .ref (x + 134), .ref (x + 135), .ref (x + 137), .ref (x + 138), .ref (x + 139), .ref (x + 140), .int (nI n_1), .int v_1, .int v_2]) := ((hF6 (x + 132) (fun j9 h8 h7 => (show False from h7).elim)).trans h_11)
          refine z_get (ref := "FlowExporter$Collector") (C := RX0) (T := TX0) (N := 12) (ci := 2) (v := .ref (x + 135)) B (by decide +kernel) rfl 4 (by decide) (by decide +kernel) rfl h_14 rfl dX0_readCandidate_76 ?_
          refine z_iload B dX0_readCandidate_79 1 rfl ?_
          have h_15 : Φ5 (x + 135) = some (o_ 12 [.ref (x + 136), .int (nI n_7), .int v_14, .int v_15]) := ((hF6 (x + 135) (fun j9 h8 h7 => (show False from h7).elim)).trans h_13)
          refine z_callV (As := [.int v_9]) (rest := []) B (s_X10_addField G l Φ5 sz x (ca) 135 v_9 hx hI6 rfl) (cwV 1 B.1.2.2.2.2 gX0_readCandidate_X10_addField rfl rfl rfl (by decide +kernel) ⟨Nat.le_of_ble_eq_true rfl, Nat.le_of_ble_eq_true rfl⟩) h_15 rfl rfl rfl rfl (Nat.le_of_ble_eq_true rfl) dX0_readCandidate_81 ⟨Nat.le_of_ble_eq_true rfl, Nat.le_of_ble_eq_true rfl⟩ (fun r_6 Φ6 sz6 st6 hp6 hs6 => ?_)
          obtain ⟨rfl, hq6, hI7, hF7⟩ := hp6
          subst sz6
          replace hs6 : st6 = [] := hs6
          subst st6
          replace hI7 : In G x (ca) Φ6 := hI7
          refine z_iinc (k := 2) (v := i_1 + 1) (lv' := [(4, .int (i_1 + 1)), (6, .int v_13), (5, .int v_9), (0, .ref (x + 132)), (1, .ref (x + (k))), (2, .int a), (3, .int b)]) B dX0_readCandidate_84 rfl rfl (Nat.le_of_ble_eq_true rfl) rfl ?_
          refine z_goto (tgt := 10) B dX0_readCandidate_87 rfl ?_
          refine z_lv [0, 3, 4, 5, 6] rfl ?_
          exact ih1 (i_1 + 1) Φ6 (up_dec c_1) ⟨hI7, (fun b9 h9 => ((hF7 b9 (fun j9 h8 h7 => h9 j9 h8 (show (135 ≤ j9 ∧ j9 < 137) by have h6 : j9 = 135 ∨ j9 = 135 + 1 := h7; omega))).trans ((hF6 b9 (fun j9 h8 h7 => (show False from h7).elim)).trans ((hF5 b9 (fun j9 h8 h7 => (show False from h7).elim)).trans ((hF4 b9 (fun j9 h8 h7 => (show False from h7).elim)).trans ((hF3 b9 (fun j9 h8 h7 => (show False from h7).elim)).trans ((hF2 b9 (fun j9 h8 h7 => h9 j9 h8 (show (135 ≤ j9 ∧ j9 < 137) by have h6 : (135 ≤ j9 ∧ j9 < 137) := h7; omega))).trans rfl))))))), trivial⟩
        · refine z_iconst (v := 0) B dX0_readCandidate_73 rfl ?_
          exact z_ret_z B dX0_readCandidate_74 (by decide) ⟨⟨_, rfl, by decide⟩, rfl, hI6, (fun b9 h9 => ((hF6 b9 (fun j9 h8 h7 => (show False from h7).elim)).trans ((hF5 b9 (fun j9 h8 h7 => (show False from h7).elim)).trans ((hF4 b9 (fun j9 h8 h7 => (show False from h7).elim)).trans ((hF3 b9 (fun j9 h8 h7 => (show False from h7).elim)).trans ((hF2 b9 (fun j9 h8 h7 => h9 j9 h8 (show (135 ≤ j9 ∧ j9 < 137) by have h6 : (135 ≤ j9 ∧ j9 < 137) := h7; omega))).trans ((hF1 b9 (fun j9 h8 h7 => h9 j9 h8 (show (135 ≤ j9 ∧ j9 < 137) by have h6 : j9 = 135 := h7; omega))).trans rfl)))))))⟩

set_option maxHeartbeats 4000000 in
set_option maxRecDepth 100000 in
theorem s_X0_readTemplates (G : EnvG) (l : Launch) (Φ : Hm) (sz x ca : Nat) (k : Nat) (a : Int32) (b : Int32) (d : Int32) (hx : G.2.2.2 ≤ x) (hI : In G x ca Φ) (hk_k : kd k = 1) : Ct G l yX0_readTemplates wsX0_readTemplates ({ frames := 3, cells := 0, slots := 0, locals := 74 }) 0 0 [.ref (x + 132), .ref (x + (k)), .int a, .int b, .int d] Φ sz (fun v Φ1 sz1 => (v = none) ∧ sz1 = sz ∧ In G x (ca) Φ1 ∧ Fr x (fun j9 => (134 ≤ j9 ∧ j9 < 137) ∨ (141 ≤ j9 ∧ j9 < 149)) Φ Φ1) := by
  refine Ct.of (cc := cX0_readTemplates) (maxL := 9) (ret := none) (by decide) rfl (Nat.le_of_ble_eq_true rfl) ?_
  intro p9 e9 s9 m9 w9 t9 k9 B
  show Z p9 l e9 _ s9 m9 _ w9 t9 k9 _ G 9 0 [(0, .ref (x + 132)), (1, .ref (x + (k))), (2, .int a), (3, .int b), (4, .int d)] [] Φ sz 0 0
  refine z_iload_n B dX0_readTemplates_0 rfl 2 rfl ?_
  refine z_istore (lv' := [(5, .int a), (0, .ref (x + 132)), (1, .ref (x + (k))), (2, .int a), (3, .int b), (4, .int d)]) B dX0_readTemplates_1 (Nat.le_of_ble_eq_true rfl) rfl ?_
  refine z_iconst (v := 0) B dX0_readTemplates_3 rfl ?_
  refine z_istore (lv' := [(6, .int 0), (5, .int a), (0, .ref (x + 132)), (1, .ref (x + (k))), (2, .int a), (3, .int b), (4, .int d)]) B dX0_readTemplates_4 (Nat.le_of_ble_eq_true rfl) rfl ?_
  refine z_lv [0, 1, 2, 3, 4, 5, 6] rfl ?_
  refine z_loop (α := Nat × Int32) (fun (a9 : Nat × Int32) Φi => In G x (ca) Φi ∧ Fr x (fun j9 => (134 ≤ j9 ∧ j9 < 137) ∨ (141 ≤ j9 ∧ j9 < 149)) Φ Φi ∧ (a9.1 ≤ 701) ∧ True) (fun a9 => [(6, .int (nI (a9.1))), (5, .int a9.2), (0, .ref (x + 132)), (1, .ref (x + (k))), (2, .int a), (3, .int b), (4, .int d)]) (fun a9 => 701 - a9.1) ?_ (0, a) ⟨hI, fun _ _ => rfl, (show 0 ≤ 701 by omega), trivial⟩
  rintro ⟨i_1, i_2⟩ Φl1 ⟨hI1, hF1, b_1, -⟩ ih1
  replace hI1 : In G x (ca) Φl1 := hI1
  replace b_1 : i_1 ≤ 701 := b_1
  show Z p9 l e9 _ s9 m9 _ w9 t9 k9 _ G 9 6 [(6, .int (nI i_1)), (5, .int i_2), (0, .ref (x + 132)), (1, .ref (x + (k))), (2, .int a), (3, .int b), (4, .int d)] [] Φl1 _ _ _
  refine z_iload B dX0_readTemplates_6 0 rfl ?_
  refine z_sipush (v := 700) B dX0_readTemplates_8 rfl ?_
  refine z_icmp_gt (tgt := 126) B dX0_readTemplates_11 rfl (fun c_1 => ?_) (fun c_1 => ?_)
  · have e_1 : 700 < i_1 := (nI_ltI (a := 700) (b := i_1) (by omega) (by omega)).mp c_1
    exact z_ret_v B dX0_readTemplates_126 ⟨rfl, rfl, hI1, (fun b9 h9 => ((hF1 b9 (fun j9 h8 h7 => h9 j9 h8 (show (134 ≤ j9 ∧ j9 < 137) ∨ (141 ≤ j9 ∧ j9 < 149) by have h6 : (134 ≤ j9 ∧ j9 < 137) ∨ (141 ≤ j9 ∧ j9 < 149) := h7; omega))).trans rfl))⟩
  · have e_2 : ¬ (700 < i_1) := fun h9 => c_1 ((nI_ltI (a := 700) (b := i_1) (by omega) (by omega)).mpr h9)
    refine z_iload_n B dX0_readTemplates_14 rfl 5 rfl ?_
    refine z_iload B dX0_readTemplates_15 1 rfl ?_
    refine z_isub B dX0_readTemplates_17 ?_
    refine z_fi (fun v_1 => ?_)
    refine z_iconst (v := 4) B dX0_readTemplates_18 rfl ?_
    refine z_icmp_lt (tgt := 126) B dX0_readTemplates_19 rfl (fun c_2 => ?_) (fun c_2 => ?_)
    · exact z_ret_v B dX0_readTemplates_126 ⟨rfl, rfl, hI1, (fun b9 h9 => ((hF1 b9 (fun j9 h8 h7 => h9 j9 h8 (show (134 ≤ j9 ∧ j9 < 137) ∨ (141 ≤ j9 ∧ j9 < 149) by have h6 : (134 ≤ j9 ∧ j9 < 137) ∨ (141 ≤ j9 ∧ j9 < 149) := h7; omega))).trans rfl))⟩
    · obtain ⟨n_1, e_4, e_3, rfl⟩ := nI_ofge (c := 4) (by omega) c_2
      refine z_aload_n B dX0_readTemplates_22 rfl 3 rfl ?_
      refine z_iload B dX0_readTemplates_23 1 rfl ?_
      refine z_iconst (v := 2) B dX0_readTemplates_25 rfl ?_
      obtain ⟨n_2, h_1, b_2⟩ := in1 (k := k) hI1 hk_k
      replace b_2 : n_2 ≤ cap (k) := b_2
      have b_3 := cap_le (k)
      have h_2 : Φl1 (x + (k)) = some (o_ 7 [.ref (x + (k + 1)), .int (nI n_2)]) := h_1
      refine z_callV (As := [.int i_2, .int 2]) (rest := []) B (s_X5_intAt G l Φl1 sz x (ca) k i_2 2 hx hI1 hk_k (show 2 ≤ 8 by omega)) (cwV 2 B.1.2.2.2.2 gX0_readTemplates_X5_intAt rfl rfl rfl (by decide +kernel) ⟨Nat.le_of_ble_eq_true rfl, Nat.le_of_ble_eq_true rfl⟩) h_2 rfl rfl rfl rfl (Nat.le_of_ble_eq_true rfl) dX0_readTemplates_26 ⟨Nat.le_of_ble_eq_true rfl, Nat.le_of_ble_eq_true rfl⟩ (fun r_1 Φ1 sz1 st1 hp1 hs1 => ?_)
      obtain ⟨⟨v_2, rfl⟩, hq1, hI2, hF2⟩ := hp1
      subst sz1
      replace hs1 : st1 = [.int v_2] := hs1
      subst st1
      replace hI2 : In G x (ca) Φ1 := hI2
      refine z_sipush (v := 256) B dX0_readTemplates_29 rfl ?_
      refine z_isub B dX0_readTemplates_32 ?_
      refine z_fi (fun v_3 => ?_)
      refine z_istore (lv' := [(7, .int v_3), (6, .int (nI i_1)), (5, .int i_2), (0, .ref (x + 132)), (1, .ref (x + (k))), (2, .int a), (3, .int b), (4, .int d)]) B dX0_readTemplates_33 (Nat.le_of_ble_eq_true rfl) rfl ?_
      refine z_aload_n B dX0_readTemplates_35 rfl 4 rfl ?_
      refine z_iload B dX0_readTemplates_36 2 rfl ?_
      refine z_iconst (v := 2) B dX0_readTemplates_38 rfl ?_
      refine z_iadd B dX0_readTemplates_39 ?_
      refine z_fi (fun v_4 => ?_)
      refine z_iconst (v := 2) B dX0_readTemplates_40 rfl ?_
      have h_3 : Φ1 (x + (k)) = some (o_ 7 [.ref (x + (k + 1)), .int (nI n_2)]) := ((hF2 (x + (k)) (fun j9 h8 h7 => (show False from h7).elim)).trans h_2)
      refine z_callV (As := [.int v_4, .int 2]) (rest := []) B (s_X5_intAt G l Φ1 sz x (ca) k v_4 2 hx hI2 hk_k (show 2 ≤ 8 by omega)) (cwV 2 B.1.2.2.2.2 gX0_readTemplates_X5_intAt rfl rfl rfl (by decide +kernel) ⟨Nat.le_of_ble_eq_true rfl, Nat.le_of_ble_eq_true rfl⟩) h_3 rfl rfl rfl rfl (Nat.le_of_ble_eq_true rfl) dX0_readTemplates_41 ⟨Nat.le_of_ble_eq_true rfl, Nat.le_of_ble_eq_true rfl⟩ (fun r_2 Φ2 sz2 st2 hp2 hs2 => ?_)
      obtain ⟨⟨v_5, rfl⟩, hq2, hI3, hF3⟩ := hp2
      subst sz2
      replace hs2 : st2 = [.int v_5] := hs2
      subst st2
      replace hI3 : In G x (ca) Φ2 := hI3
      refine z_istore (lv' := [(8, .int v_5), (7, .int v_3), (6, .int (nI i_1)), (5, .int i_2), (0, .ref (x + 132)), (1, .ref (x + (k))), (2, .int a), (3, .int b), (4, .int d)]) B dX0_readTemplates_44 (Nat.le_of_ble_eq_true rfl) rfl ?_
      refine z_iinc (k := 3) (v := i_2 + 4) (lv' := [(5, .int (i_2 + 4)), (8, .int v_5), (7, .int v_3), (6, .int (nI i_1)), (0, .ref (x + 132)), (1, .ref (x + (k))), (2, .int a), (3, .int b), (4, .int d)]) B dX0_readTemplates_46 rfl rfl (Nat.le_of_ble_eq_true rfl) rfl ?_
      refine z_iload B dX0_readTemplates_49 2 rfl ?_
      refine z_if_lt (tgt := 71) B dX0_readTemplates_51 rfl (fun c_3 => ?_) (fun c_3 => ?_)
      · exact z_ret_v B dX0_readTemplates_71 ⟨rfl, rfl, hI3, (fun b9 h9 => ((hF3 b9 (fun j9 h8 h7 => (show False from h7).elim)).trans ((hF2 b9 (fun j9 h8 h7 => (show False from h7).elim)).trans ((hF1 b9 (fun j9 h8 h7 => h9 j9 h8 (show (134 ≤ j9 ∧ j9 < 137) ∨ (141 ≤ j9 ∧ j9 < 149) by have h6 : (134 ≤ j9 ∧ j9 < 137) ∨ (141 ≤ j9 ∧ j9 < 149) := h7; omega))).trans rfl))))⟩
      · obtain ⟨n_3, e_5, rfl⟩ := nI_of c_3
        refine z_iload B dX0_readTemplates_54 2 rfl ?_
        refine z_iconst (v := 4) B dX0_readTemplates_56 rfl ?_
        refine z_icmp_ge (tgt := 71) B dX0_readTemplates_57 rfl (fun c_4 => ?_) (fun c_4 => ?_)
        · have e_6 : 4 ≤ n_3 := (nI_leI (a := 4) (b := n_3) (by omega) (by omega)).mp c_4
          exact z_ret_v B dX0_readTemplates_71 ⟨rfl, rfl, hI3, (fun b9 h9 => ((hF3 b9 (fun j9 h8 h7 => (show False from h7).elim)).trans ((hF2 b9 (fun j9 h8 h7 => (show False from h7).elim)).trans ((hF1 b9 (fun j9 h8 h7 => h9 j9 h8 (show (134 ≤ j9 ∧ j9 < 137) ∨ (141 ≤ j9 ∧ j9 < 149) by have h6 : (134 ≤ j9 ∧ j9 < 137) ∨ (141 ≤ j9 ∧ j9 < 149) := h7; omega))).trans rfl))))⟩
        · have e_7 : ¬ (4 ≤ n_3) := fun h9 => c_4 ((nI_leI (a := 4) (b := n_3) (by omega) (by omega)).mpr h9)
          refine z_iconst (v := 4) B dX0_readTemplates_60 rfl ?_
          refine z_iload B dX0_readTemplates_61 1 rfl ?_
          refine z_imul B dX0_readTemplates_63 ?_
          refine z_fi (fun v_6 => ?_)
          refine z_iload_n B dX0_readTemplates_64 rfl 7 rfl ?_
          refine z_iload B dX0_readTemplates_65 0 rfl ?_
          refine z_isub B dX0_readTemplates_67 ?_
          refine z_fi (fun v_7 => ?_)
          refine z_icmp_le (tgt := 72) B dX0_readTemplates_68 rfl (fun c_5 => ?_) (fun c_5 => ?_)
          · refine z_aload_n B dX0_readTemplates_72 rfl 4 rfl ?_
            refine z_aload_n B dX0_readTemplates_73 rfl 5 rfl ?_
            refine z_iload B dX0_readTemplates_74 0 rfl ?_
            refine z_iload B dX0_readTemplates_76 1 rfl ?_
            obtain ⟨n_4, v_8, v_9, h_4, b_4⟩ := in25 (k := 132) hI3 rfl
            have h_5 : Φ2 (x + 132) = some (o_ 2 [.ref (x + 3), .ref (x + 121), .ref (x + 133), .ref (x + 134), .ref (x + 135), .ref (x + 137), .ref (x + 138), .ref (x + 139), .ref (x + 140), .int (nI n_4), .int v_8, .int v_9]) := h_4
            refine z_callV (As := [.ref (x + (k)), .int (i_2 + 4), .int v_5]) (rest := []) B (s_X0_readCandidate G l Φ2 sz x (ca) k (i_2 + 4) v_5 hx hI3 hk_k) (cwV 3 B.1.2.2.2.2 gX0_readTemplates_X0_readCandidate rfl rfl rfl (by decide +kernel) ⟨Nat.le_of_ble_eq_true rfl, Nat.le_of_ble_eq_true rfl⟩) h_5 rfl rfl rfl rfl (Nat.le_of_ble_eq_true rfl) dX0_readTemplates_78 ⟨Nat.le_of_ble_eq_true rfl, Nat.le_of_ble_eq_true rfl⟩ (fun r_3 Φ3 sz3 st3 hp3 hs3 => ?_)
            obtain ⟨⟨v_10, rfl, b_5⟩, hq3, hI4, hF4⟩ := hp3
            subst sz3
            replace hs3 : st3 = [.int v_10] := hs3
            subst st3
            replace hI4 : In G x (ca) Φ3 := hI4
            refine z_if_ne (tgt := 85) B dX0_readTemplates_81 rfl (fun c_6 => ?_) (fun c_6 => ?_)
            · refine z_aload_n B dX0_readTemplates_85 rfl 4 rfl ?_
              have h_6 : Φ3 (x + 132) = some (o_ 2 [.ref (x + 3), .ref (x + 121), .ref (x + 133), .ref (x + 134), .ref (x + 135), .ref (x + 137), .ref (x + 138), .ref (x + 139), .ref (x + 140), .int (nI n_4), .int v_8, .int v_9]) := ((hF4 (x + 132) (fun j9 h8 h7 => by have h6 : (135 ≤ j9 ∧ j9 < 137) := h7; omega)).trans h_5)
              refine z_get (ref := "FlowExporter$Collector") (C := RX0) (T := TX0) (N := 12) (ci := 2) (v := .ref (x + 133)) B (by decide +kernel) rfl 2 (by decide) (by decide +kernel) rfl h_6 rfl dX0_readTemplates_86 ?_
              refine z_iload B dX0_readTemplates_89 2 rfl ?_
              obtain ⟨f_1, h_7, r_4⟩ := in26 (k := 133) hI4 rfl
              have h_8 : Φ3 (x + 133) = some (aq_ G 4 4 f_1) := h_7
              refine z_aald (b := x + (133 + 8 + 2 * n_3)) B rfl h_8 (vp_in_nI (by omega) (by omega)) ((congrArg f_1 (nI_clamp (by omega))).trans (r_4 n_3 (by omega))) dX0_readTemplates_91 ?_
              refine z_aload_n B dX0_readTemplates_92 rfl 4 rfl ?_
              refine z_get (ref := "FlowExporter$Collector") (C := RX0) (T := TX0) (N := 12) (ci := 2) (v := .ref (x + 135)) B (by decide +kernel) rfl 4 (by decide) (by decide +kernel) rfl h_6 rfl dX0_readTemplates_93 ?_
              refine z_sipush (v := 511) B dX0_readTemplates_96 rfl ?_
              obtain ⟨n_5, v_11, v_12, h_9, b_6⟩ := in8 (k := 133 + 8 + 2 * n_3) hI4 (kd_k (by omega))
              have h_10 : Φ3 (x + (133 + 8 + 2 * n_3)) = some (o_ 12 [.ref (x + (133 + 8 + 2 * n_3 + 1)), .int (nI n_5), .int v_11, .int v_12]) := h_9
              refine z_callV (As := [.ref (x + 135), .int 511]) (rest := []) B (s_X10_copyFrom G l Φ3 sz x (ca) (133 + 8 + 2 * n_3) 135 511 hx hI4 (kd_k (by omega)) rfl (show (133 + 8 + 2 * n_3) ≠ 135 by omega) (show (133 + 8 + 2 * n_3) + 1 ≠ 135 by omega)) (cwV 2 B.1.2.2.2.2 gX0_readTemplates_X10_copyFrom rfl rfl rfl (by decide +kernel) ⟨Nat.le_of_ble_eq_true rfl, Nat.le_of_ble_eq_true rfl⟩) h_10 rfl rfl rfl rfl (Nat.le_of_ble_eq_true rfl) dX0_readTemplates_99 ⟨Nat.le_of_ble_eq_true rfl, Nat.le_of_ble_eq_true rfl⟩ (fun r_5 Φ4 sz4 st4 hp4 hs4 => ?_)
              obtain ⟨rfl, hq4, hI5, hF5⟩ := hp4
              subst sz4
              replace hs4 : st4 = [] := hs4
              subst st4
              replace hI5 : In G x (ca) Φ4 := hI5
              refine z_aload_n B dX0_readTemplates_102 rfl 4 rfl ?_
              have h_11 : Φ4 (x + 132) = some (o_ 2 [.ref (x + 3), .ref (x + 121), .ref (x + 133), .ref (x + 134), .ref (x + 135), .ref (x + 137), .ref (x + 138), .ref (x + 139), .ref (x + 140), .int (nI n_4), .int v_8, .int v_9]) := ((hF5 (x + 132) (fun j9 h8 h7 => by have h6 : j9 = (133 + 8 + 2 * n_3) ∨ j9 = (133 + 8 + 2 * n_3) + 1 := h7; omega)).trans h_6)
              refine z_get (ref := "FlowExporter$Collector") (C := RX0) (T := TX0) (N := 12) (ci := 2) (v := .ref (x + 134)) B (by decide +kernel) rfl 3 (by decide) (by decide +kernel) rfl h_11 rfl dX0_readTemplates_103 ?_
              refine z_iload B dX0_readTemplates_106 2 rfl ?_
              refine z_iload B dX0_readTemplates_108 8 rfl ?_
              obtain ⟨f_2, h_12⟩ := in15 (k := 134) hI5 rfl
              have h_13 : Φ4 (x + 134) = some (ai_ G 4 f_2) := h_12
              refine z_iast B h_13 (Nat.le_trans hx (Nat.le_add_right x 134)) (vp_in_nI (by omega) (by omega)) dX0_readTemplates_110 (fun Φ5 hΦ1 => ?_)
              have h_14 : Φ5 (x + 134) = some (ai_ G 4 (upd f_2 (nI n_3).toNatClampNeg d)) := fset_at hΦ1
              have hI6 : In G x (ca) Φ5 := In.put (k := 134) hI5 hΦ1 (ok15 (k := 134) rfl ⟨_, rfl⟩)
              refine z_iload B dX0_readTemplates_111 0 rfl ?_
              refine z_iconst (v := 4) B dX0_readTemplates_113 rfl ?_
              refine z_iload B dX0_readTemplates_114 1 rfl ?_
              refine z_imul B dX0_readTemplates_116 ?_
              refine z_fi (fun v_13 => ?_)
              refine z_iadd B dX0_readTemplates_117 ?_
              refine z_fi (fun v_14 => ?_)
              refine z_istore (lv' := [(5, .int v_14), (8, .int v_5), (7, .int (nI n_3)), (6, .int (nI i_1)), (0, .ref (x + 132)), (1, .ref (x + (k))), (2, .int a), (3, .int b), (4, .int d)]) B dX0_readTemplates_118 (Nat.le_of_ble_eq_true rfl) rfl ?_
              refine z_iinc (k := 3) (v := nI (i_1 + 1)) (lv' := [(6, .int (nI (i_1 + 1))), (5, .int v_14), (8, .int v_5), (7, .int (nI n_3)), (0, .ref (x + 132)), (1, .ref (x + (k))), (2, .int a), (3, .int b), (4, .int d)]) B dX0_readTemplates_120 rfl (nI_add i_1 1) (Nat.le_of_ble_eq_true rfl) rfl ?_
              refine z_goto (tgt := 6) B dX0_readTemplates_123 rfl ?_
              refine z_lv [0, 1, 4, 5, 6, 7, 8] rfl ?_
              exact ih1 (i_1 + 1, v_14) Φ5 (show 701 - (i_1 + 1) < 701 - i_1 by omega) ⟨hI6, (fun b9 h9 => ((fset_fr hΦ1 (fun h8 => h9 (134) h8 (show (134 ≤ 134 ∧ 134 < 137) ∨ (141 ≤ 134 ∧ 134 < 149) by omega))).trans ((hF5 b9 (fun j9 h8 h7 => h9 j9 h8 (show (134 ≤ j9 ∧ j9 < 137) ∨ (141 ≤ j9 ∧ j9 < 149) by have h6 : j9 = (133 + 8 + 2 * n_3) ∨ j9 = (133 + 8 + 2 * n_3) + 1 := h7; omega))).trans ((hF4 b9 (fun j9 h8 h7 => h9 j9 h8 (show (134 ≤ j9 ∧ j9 < 137) ∨ (141 ≤ j9 ∧ j9 < 149) by have h6 : (135 ≤ j9 ∧ j9 < 137) := h7; omega))).trans ((hF3 b9 (fun j9 h8 h7 => (show False from h7).elim)).trans ((hF2 b9 (fun j9 h8 h7 => (show False from h7).elim)).trans ((hF1 b9 (fun j9 h8 h7 => h9 j9 h8 (show (134 ≤ j9 ∧ j9 < 137) ∨ (141 ≤ j9 ∧ j9 < 149) by have h6 : (134 ≤ j9 ∧ j9 < 137) ∨ (141 ≤ j9 ∧ j9 < 149) := h7; omega))).trans rfl))))))), (show (i_1 + 1) ≤ 701 by omega), trivial⟩
            · exact z_ret_v B dX0_readTemplates_84 ⟨rfl, rfl, hI4, (fun b9 h9 => ((hF4 b9 (fun j9 h8 h7 => h9 j9 h8 (show (134 ≤ j9 ∧ j9 < 137) ∨ (141 ≤ j9 ∧ j9 < 149) by have h6 : (135 ≤ j9 ∧ j9 < 137) := h7; omega))).trans ((hF3 b9 (fun j9 h8 h7 => (show False from h7).elim)).trans ((hF2 b9 (fun j9 h8 h7 => (show False from h7).elim)).trans ((hF1 b9 (fun j9 h8 h7 => h9 j9 h8 (show (134 ≤ j9 ∧ j9 < 137) ∨ (141 ≤ j9 ∧ j9 < 149) by have h6 : (134 ≤ j9 ∧ j9 < 137) ∨ (141 ≤ j9 ∧ j9 < 149) := h7; omega))).trans rfl)))))⟩
          · exact z_ret_v B dX0_readTemplates_71 ⟨rfl, rfl, hI3, (fun b9 h9 => ((hF3 b9 (fun j9 h8 h7 => (show False from h7).elim)).trans ((hF2 b9 (fun j9 h8 h7 => (show False from h7).elim)).trans ((hF1 b9 (fun j9 h8 h7 => h9 j9 h8 (show (134 ≤ j9 ∧ j9 < 137) ∨ (141 ≤ j9 ∧ j9 < 149) by have h6 : (134 ≤ j9 ∧ j9 < 137) ∨ (141 ≤ j9 ∧ j9 < 149) := h7; omega))).trans rfl))))⟩

set_option maxHeartbeats 4000000 in
set_option maxRecDepth 100000 in
theorem s_X0_decode (G : EnvG) (l : Launch) (Φ : Hm) (sz x ca : Nat) (k : Nat) (a : Int32) (q : Nat) (hx : G.2.2.2 ≤ x) (hI : In G x ca Φ) (hk_k : kd k = 1) (hk_q : kd q = 8) (hq : 141 ≤ q) : Ct G l yX0_decode wsX0_decode ({ frames := 2, cells := 0, slots := 0, locals := 47 }) 0 0 [.ref (x + 132), .ref (x + (k)), .int a, .ref (x + (q))] Φ sz (fun v Φ1 sz1 => (v = none) ∧ sz1 = sz ∧ In G x (ca) Φ1 ∧ Fr x (fun j9 => (121 ≤ j9 ∧ j9 < 133) ∨ (139 ≤ j9 ∧ j9 < 141)) Φ Φ1) := by
  refine Ct.of (cc := cX0_decode) (maxL := 9) (ret := none) (by decide) rfl (Nat.le_of_ble_eq_true rfl) ?_
  intro p9 e9 s9 m9 w9 t9 k9 B
  show Z p9 l e9 _ s9 m9 _ w9 t9 k9 _ G 9 0 [(0, .ref (x + 132)), (1, .ref (x + (k))), (2, .int a), (3, .ref (x + (q)))] [] Φ sz 0 0
  refine z_aload_n B dX0_decode_0 rfl 0 rfl ?_
  obtain ⟨n_1, v_1, v_2, h_1, b_1⟩ := in25 (k := 132) hI rfl
  have h_2 : Φ (x + 132) = some (o_ 2 [.ref (x + 3), .ref (x + 121), .ref (x + 133), .ref (x + 134), .ref (x + 135), .ref (x + 137), .ref (x + 138), .ref (x + 139), .ref (x + 140), .int (nI n_1), .int v_1, .int v_2]) := h_1
  refine z_get (ref := "FlowExporter$Collector") (C := RX0) (T := TX0) (N := 12) (ci := 2) (v := .ref (x + 140)) B (by decide +kernel) rfl 8 (by decide) (by decide +kernel) rfl h_2 rfl dX0_decode_1 ?_
  refine z_lconst (v := 0) B dX0_decode_4 rfl ?_
  obtain ⟨f_1, h_3, r_1⟩ := in29 (k := 140) hI rfl
  have h_4 : Φ (x + 140) = some (al_ G 9 f_1) := h_3
  refine z_callS (As := [.ref (x + 140), .long 0]) (rest := []) B (c_J7_fill_d0a16 G l Φ sz (x + 140) 9 f_1 0 h_4 (Nat.le_trans hx (Nat.le_add_right x 140)) (by decide)) (va_cwS 2 B.1.2.2.2.2 gX0_decode_J7_fill_d0a16 rfl rfl rfl (by decide +kernel) ⟨Nat.le_of_ble_eq_true rfl, Nat.le_of_ble_eq_true rfl⟩) rfl rfl (Nat.le_of_ble_eq_true rfl) dX0_decode_5 ⟨Nat.le_of_ble_eq_true rfl, Nat.le_of_ble_eq_true rfl⟩ (fun r_2 Φ1 sz1 st1 hp1 hs1 => ?_)
  obtain ⟨rfl, hq1, fr1, h_5⟩ := hp1
  subst sz1
  replace hs1 : st1 = [] := hs1
  subst st1
  have hΦ1 : Φ1 = fset Φ (x + 140) (al_ G 9 (fun _ => 0)) := fset_of fr1 h_5
  have h_6 : Φ1 (x + 140) = some (al_ G 9 (fun _ => 0)) := fset_at hΦ1
  have hI1 : In G x (ca) Φ1 := In.put (k := 140) hI hΦ1 (ok29 (k := 140) rfl ⟨_, rfl, by decide⟩)
  refine z_iload_n B dX0_decode_8 rfl 2 rfl ?_
  refine z_istore (lv' := [(4, .int a), (0, .ref (x + 132)), (1, .ref (x + (k))), (2, .int a), (3, .ref (x + (q)))]) B dX0_decode_9 (Nat.le_of_ble_eq_true rfl) rfl ?_
  refine z_iconst (v := 0) B dX0_decode_11 rfl ?_
  refine z_istore (lv' := [(5, .int 0), (4, .int a), (0, .ref (x + 132)), (1, .ref (x + (k))), (2, .int a), (3, .ref (x + (q)))]) B dX0_decode_12 (Nat.le_of_ble_eq_true rfl) rfl ?_
  refine z_lv [0, 1, 2, 3, 4, 5] rfl ?_
  refine z_loop (α := Nat × Int32) (fun (a9 : Nat × Int32) Φi => In G x (ca) Φi ∧ Fr x (fun j9 => j9 = 140) Φ1 Φi ∧ (a9.1 ≤ 9) ∧ True) (fun a9 => [(5, .int (nI (a9.1))), (4, .int a9.2), (0, .ref (x + 132)), (1, .ref (x + (k))), (2, .int a), (3, .ref (x + (q)))]) (fun a9 => 9 - a9.1) ?_ (0, a) ⟨hI1, fun _ _ => rfl, (show 0 ≤ 9 by omega), trivial⟩
  rintro ⟨i_1, i_2⟩ Φl1 ⟨hI2, hF1, b_2, -⟩ ih1
  replace hI2 : In G x (ca) Φl1 := hI2
  replace b_2 : i_1 ≤ 9 := b_2
  show Z p9 l e9 _ s9 m9 _ w9 t9 k9 _ G 9 14 [(5, .int (nI i_1)), (4, .int i_2), (0, .ref (x + 132)), (1, .ref (x + (k))), (2, .int a), (3, .ref (x + (q)))] [] Φl1 _ _ _
  refine z_iload B dX0_decode_14 0 rfl ?_
  refine z_aload_n B dX0_decode_16 rfl 5 rfl ?_
  obtain ⟨n_2, v_3, v_4, h_7, b_3⟩ := in8 (k := q) hI2 hk_q
  have h_8 : Φl1 (x + (q)) = some (o_ 12 [.ref (x + (q + 1)), .int (nI n_2), .int v_3, .int v_4]) := h_7
  refine z_get (ref := "FlowExporter$Template") (C := RX10) (T := TX10) (N := 4) (ci := 12) (v := .int (nI n_2)) B (by decide +kernel) rfl 1 (by decide) (by decide +kernel) rfl h_8 rfl dX0_decode_17 ?_
  refine z_icmp_ge (tgt := 79) B dX0_decode_20 rfl (fun c_1 => ?_) (fun c_1 => ?_)
  · have e_1 : n_2 ≤ i_1 := (nI_leI (a := n_2) (b := i_1) (by omega) (by omega)).mp c_1
    refine z_aload_n B dX0_decode_79 rfl 2 rfl ?_
    have h_9 : Φl1 (x + 132) = some (o_ 2 [.ref (x + 3), .ref (x + 121), .ref (x + 133), .ref (x + 134), .ref (x + 135), .ref (x + 137), .ref (x + 138), .ref (x + 139), .ref (x + 140), .int (nI n_1), .int v_1, .int v_2]) := ((hF1 (x + 132) (fun j9 h8 h7 => by have h6 : j9 = 140 := h7; omega)).trans ((fset_fr hΦ1 (ne_off (x := x) (i := 132) (j := 140) rfl)).trans h_2))
    refine z_get (ref := "FlowExporter$Collector") (C := RX0) (T := TX0) (N := 12) (ci := 2) (v := .ref (x + 140)) B (by decide +kernel) rfl 8 (by decide) (by decide +kernel) rfl h_9 rfl dX0_decode_80 ?_
    refine z_iconst (v := 0) B dX0_decode_83 rfl ?_
    obtain ⟨f_2, h_10, r_3⟩ := in29 (k := 140) hI2 rfl
    have h_11 : Φl1 (x + 140) = some (al_ G 9 f_2) := h_10
    refine z_lald B h_11 (vin rfl) dX0_decode_84 ?_
    refine z_fl (fun v_5 => ?_)
    refine z_l2i (v := v_5.toInt32) B dX0_decode_85 rfl ?_
    refine z_fi (fun v_6 => ?_)
    refine z_aload_n B dX0_decode_86 rfl 2 rfl ?_
    refine z_get (ref := "FlowExporter$Collector") (C := RX0) (T := TX0) (N := 12) (ci := 2) (v := .ref (x + 140)) B (by decide +kernel) rfl 8 (by decide) (by decide +kernel) rfl h_9 rfl dX0_decode_87 ?_
    refine z_iconst (v := 1) B dX0_decode_90 rfl ?_
    refine z_lald B h_11 (vin rfl) dX0_decode_91 ?_
    refine z_fl (fun v_7 => ?_)
    refine z_l2i (v := v_7.toInt32) B dX0_decode_92 rfl ?_
    refine z_fi (fun v_8 => ?_)
    refine z_aload_n B dX0_decode_93 rfl 2 rfl ?_
    refine z_get (ref := "FlowExporter$Collector") (C := RX0) (T := TX0) (N := 12) (ci := 2) (v := .ref (x + 140)) B (by decide +kernel) rfl 8 (by decide) (by decide +kernel) rfl h_9 rfl dX0_decode_94 ?_
    refine z_iconst (v := 2) B dX0_decode_97 rfl ?_
    refine z_lald B h_11 (vin rfl) dX0_decode_98 ?_
    refine z_fl (fun v_9 => ?_)
    refine z_l2i (v := v_9.toInt32) B dX0_decode_99 rfl ?_
    refine z_fi (fun v_10 => ?_)
    refine z_aload_n B dX0_decode_100 rfl 2 rfl ?_
    refine z_get (ref := "FlowExporter$Collector") (C := RX0) (T := TX0) (N := 12) (ci := 2) (v := .ref (x + 140)) B (by decide +kernel) rfl 8 (by decide) (by decide +kernel) rfl h_9 rfl dX0_decode_101 ?_
    refine z_iconst (v := 3) B dX0_decode_104 rfl ?_
    refine z_lald B h_11 (vin rfl) dX0_decode_105 ?_
    refine z_fl (fun v_11 => ?_)
    refine z_l2i (v := v_11.toInt32) B dX0_decode_106 rfl ?_
    refine z_fi (fun v_12 => ?_)
    refine z_callS (As := [.int v_6, .int v_8, .int v_10, .int v_12]) (rest := []) B (s_X3_keyOf G l Φl1 sz x (ca) v_6 v_8 v_10 v_12 hx hI2 ) (va_cwS 4 B.1.2.2.2.2 gX0_decode_X3_keyOf rfl rfl rfl (by decide +kernel) ⟨Nat.le_of_ble_eq_true rfl, Nat.le_of_ble_eq_true rfl⟩) rfl rfl (Nat.le_of_ble_eq_true rfl) dX0_decode_107 ⟨Nat.le_of_ble_eq_true rfl, Nat.le_of_ble_eq_true rfl⟩ (fun r_4 Φ2 sz2 st2 hp2 hs2 => ?_)
    obtain ⟨⟨v_13, rfl⟩, hq2, hI3, hF2⟩ := hp2
    subst sz2
    replace hs2 : st2 = [.long v_13] := hs2
    subst st2
    replace hI3 : In G x (ca) Φ2 := hI3
    refine z_lstore (lv' := [(5, .long v_13), (4, .int i_2), (0, .ref (x + 132)), (1, .ref (x + (k))), (2, .int a), (3, .ref (x + (q)))]) B dX0_decode_110 (Nat.le_of_ble_eq_true rfl) rfl ?_
    refine z_aload_n B dX0_decode_112 rfl 2 rfl ?_
    have h_12 : Φ2 (x + 132) = some (o_ 2 [.ref (x + 3), .ref (x + 121), .ref (x + 133), .ref (x + 134), .ref (x + 135), .ref (x + 137), .ref (x + 138), .ref (x + 139), .ref (x + 140), .int (nI n_1), .int v_1, .int v_2]) := ((hF2 (x + 132) (fun j9 h8 h7 => (show False from h7).elim)).trans h_9)
    refine z_get (ref := "FlowExporter$Collector") (C := RX0) (T := TX0) (N := 12) (ci := 2) (v := .ref (x + 121)) B (by decide +kernel) rfl 1 (by decide) (by decide +kernel) rfl h_12 rfl dX0_decode_113 ?_
    refine z_lload B dX0_decode_116 0 rfl ?_
    obtain ⟨n_3, h_13, b_4⟩ := in20 (k := 121) hI3 rfl
    have h_14 : Φ2 (x + 121) = some (o_ 11 [.ref (x + 122), .ref (x + 123), .ref (x + 126), .ref (x + 129), .int (nI n_3)]) := h_13
    refine z_callV (As := [.long v_13]) (rest := []) B (s_X9_indexOrNew G l Φ2 sz x (ca) v_13 hx hI3 ) (cwV 1 B.1.2.2.2.2 gX0_decode_X9_indexOrNew rfl rfl rfl (by decide +kernel) ⟨Nat.le_of_ble_eq_true rfl, Nat.le_of_ble_eq_true rfl⟩) h_14 rfl rfl rfl rfl (Nat.le_of_ble_eq_true rfl) dX0_decode_118 ⟨Nat.le_of_ble_eq_true rfl, Nat.le_of_ble_eq_true rfl⟩ (fun r_5 Φ3 sz3 st3 hp3 hs3 => ?_)
    obtain ⟨⟨v_14, rfl⟩, hq3, hI4, hF3⟩ := hp3
    subst sz3
    replace hs3 : st3 = [.int v_14] := hs3
    subst st3
    replace hI4 : In G x (ca) Φ3 := hI4
    refine z_istore (lv' := [(7, .int v_14), (5, .long v_13), (4, .int i_2), (0, .ref (x + 132)), (1, .ref (x + (k))), (2, .int a), (3, .ref (x + (q)))]) B dX0_decode_121 (Nat.le_of_ble_eq_true rfl) rfl ?_
    refine z_iload B dX0_decode_123 0 rfl ?_
    refine z_iconst (v := (-1)) B dX0_decode_125 rfl ?_
    refine z_icmp_ne (tgt := 141) B dX0_decode_126 rfl (fun c_2 => ?_) (fun c_2 => ?_)
    · refine z_aload_n B dX0_decode_141 rfl 3 rfl ?_
      have h_15 : Φ3 (x + 132) = some (o_ 2 [.ref (x + 3), .ref (x + 121), .ref (x + 133), .ref (x + 134), .ref (x + 135), .ref (x + 137), .ref (x + 138), .ref (x + 139), .ref (x + 140), .int (nI n_1), .int v_1, .int v_2]) := ((hF3 (x + 132) (fun j9 h8 h7 => by have h6 : 121 ≤ j9 ∧ j9 < 132 := h7; omega)).trans h_12)
      refine z_get (ref := "FlowExporter$Collector") (C := RX0) (T := TX0) (N := 12) (ci := 2) (v := .ref (x + 140)) B (by decide +kernel) rfl 8 (by decide) (by decide +kernel) rfl h_15 rfl dX0_decode_142 ?_
      refine z_bipush (v := 8) B dX0_decode_145 rfl ?_
      have h_16 : Φ3 (x + 140) = some (al_ G 9 f_2) := ((hF3 (x + 140) (fun j9 h8 h7 => by have h6 : 121 ≤ j9 ∧ j9 < 132 := h7; omega)).trans ((hF2 (x + 140) (fun j9 h8 h7 => (show False from h7).elim)).trans h_11))
      refine z_lald B h_16 (vin rfl) dX0_decode_147 ?_
      refine z_fl (fun v_15 => ?_)
      refine z_l2i (v := v_15.toInt32) B dX0_decode_148 rfl ?_
      refine z_fi (fun v_16 => ?_)
      refine z_aload_n B dX0_decode_149 rfl 3 rfl ?_
      refine z_get (ref := "FlowExporter$Collector") (C := RX0) (T := TX0) (N := 12) (ci := 2) (v := .ref (x + 3)) B (by decide +kernel) rfl 0 (by decide) (by decide +kernel) rfl h_15 rfl dX0_decode_150 ?_
      refine z_bipush (v := 8) B dX0_decode_153 rfl ?_
      obtain ⟨v_17, v_18, h_17⟩ := in3 (k := 3) hI4 rfl
      have h_18 : Φ3 (x + 3) = some (o_ 3 [.ref (x + 4), .ref (x + 5), .ref (x + 6), .ref (x + 7), .int v_17, .int v_18]) := h_17
      refine z_callV (As := [.int 8]) (rest := [.int v_16]) B (s_X1_get G l Φ3 sz x (ca) 3 8 hx hI4 rfl) (cwV 1 B.1.2.2.2.2 gX0_decode_X1_get rfl rfl rfl (by decide +kernel) ⟨Nat.le_of_ble_eq_true rfl, Nat.le_of_ble_eq_true rfl⟩) h_18 rfl rfl rfl rfl (Nat.le_of_ble_eq_true rfl) dX0_decode_155 ⟨Nat.le_of_ble_eq_true rfl, Nat.le_of_ble_eq_true rfl⟩ (fun r_6 Φ4 sz4 st4 hp4 hs4 => ?_)
      obtain ⟨⟨n_4, rfl, b_5⟩, hq4, hI5, hF4⟩ := hp4
      subst sz4
      replace hs4 : st4 = [.int (nI n_4), .int v_16] := hs4
      subst st4
      replace hI5 : In G x (ca) Φ4 := hI5
      replace b_5 : n_4 < 2 ^ 31 := b_5
      refine z_callS (As := [.int v_16, .int (nI n_4)]) (rest := []) B (s_X0_rateOfBits G l Φ4 sz x (ca) v_16 n_4 hx hI5 (show n_4 < 2 ^ 31 by omega)) (va_cwS 2 B.1.2.2.2.2 gX0_decode_X0_rateOfBits rfl rfl rfl (by decide +kernel) ⟨Nat.le_of_ble_eq_true rfl, Nat.le_of_ble_eq_true rfl⟩) rfl rfl (Nat.le_of_ble_eq_true rfl) dX0_decode_158 ⟨Nat.le_of_ble_eq_true rfl, Nat.le_of_ble_eq_true rfl⟩ (fun r_7 Φ5 sz5 st5 hp5 hs5 => ?_)
      obtain ⟨⟨n_5, rfl, b_6⟩, hq5, hI6, hF5⟩ := hp5
      subst sz5
      replace hs5 : st5 = [.int (nI n_5)] := hs5
      subst st5
      replace hI6 : In G x (ca) Φ5 := hI6
      replace b_6 : n_5 < 2 ^ 31 := b_6
      refine z_istore (lv' := [(8, .int (nI n_5)), (7, .int v_14), (5, .long v_13), (4, .int i_2), (0, .ref (x + 132)), (1, .ref (x + (k))), (2, .int a), (3, .ref (x + (q)))]) B dX0_decode_161 (Nat.le_of_ble_eq_true rfl) rfl ?_
      refine z_aload_n B dX0_decode_163 rfl 4 rfl ?_
      have h_19 : Φ5 (x + 132) = some (o_ 2 [.ref (x + 3), .ref (x + 121), .ref (x + 133), .ref (x + 134), .ref (x + 135), .ref (x + 137), .ref (x + 138), .ref (x + 139), .ref (x + 140), .int (nI n_1), .int v_1, .int v_2]) := ((hF5 (x + 132) (fun j9 h8 h7 => (show False from h7).elim)).trans ((hF4 (x + 132) (fun j9 h8 h7 => (show False from h7).elim)).trans h_15))
      refine z_get (ref := "FlowExporter$Collector") (C := RX0) (T := TX0) (N := 12) (ci := 2) (v := .ref (x + 121)) B (by decide +kernel) rfl 1 (by decide) (by decide +kernel) rfl h_19 rfl dX0_decode_164 ?_
      refine z_iload B dX0_decode_167 1 rfl ?_
      refine z_aload_n B dX0_decode_169 rfl 4 rfl ?_
      refine z_get (ref := "FlowExporter$Collector") (C := RX0) (T := TX0) (N := 12) (ci := 2) (v := .ref (x + 140)) B (by decide +kernel) rfl 8 (by decide) (by decide +kernel) rfl h_19 rfl dX0_decode_170 ?_
      refine z_iconst (v := 4) B dX0_decode_173 rfl ?_
      have h_20 : Φ5 (x + 140) = some (al_ G 9 f_2) := ((hF5 (x + 140) (fun j9 h8 h7 => (show False from h7).elim)).trans ((hF4 (x + 140) (fun j9 h8 h7 => (show False from h7).elim)).trans h_16))
      refine z_lald B h_20 (vin rfl) dX0_decode_174 ?_
      refine z_flq (P := fun w9 => 0 ≤ w9) r_3 (fun v_19 q_1 => ?_)
      refine z_aload_n B dX0_decode_175 rfl 4 rfl ?_
      refine z_get (ref := "FlowExporter$Collector") (C := RX0) (T := TX0) (N := 12) (ci := 2) (v := .ref (x + 140)) B (by decide +kernel) rfl 8 (by decide) (by decide +kernel) rfl h_19 rfl dX0_decode_176 ?_
      refine z_iconst (v := 5) B dX0_decode_179 rfl ?_
      refine z_lald B h_20 (vin rfl) dX0_decode_180 ?_
      refine z_fl (fun v_20 => ?_)
      refine z_iload B dX0_decode_181 0 rfl ?_
      obtain ⟨n_6, h_21, b_7⟩ := in20 (k := 121) hI6 rfl
      have h_22 : Φ5 (x + 121) = some (o_ 11 [.ref (x + 122), .ref (x + 123), .ref (x + 126), .ref (x + 129), .int (nI n_6)]) := h_21
      refine z_callV (As := [.int v_14, .long v_19, .long v_20, .int (nI n_5)]) (rest := []) B (s_X9_add G l Φ5 sz x (ca) v_14 v_19 v_20 n_5 hx hI6 q_1 (show n_5 < 2 ^ 31 by omega)) (cwV 4 B.1.2.2.2.2 gX0_decode_X9_add rfl rfl rfl (by decide +kernel) ⟨Nat.le_of_ble_eq_true rfl, Nat.le_of_ble_eq_true rfl⟩) h_22 rfl rfl rfl rfl (Nat.le_of_ble_eq_true rfl) dX0_decode_183 ⟨Nat.le_of_ble_eq_true rfl, Nat.le_of_ble_eq_true rfl⟩ (fun r_8 Φ6 sz6 st6 hp6 hs6 => ?_)
      obtain ⟨rfl, hq6, hI7, hF6⟩ := hp6
      subst sz6
      replace hs6 : st6 = [] := hs6
      subst st6
      replace hI7 : In G x (ca) Φ6 := hI7
      exact z_ret_v B dX0_decode_186 ⟨rfl, rfl, hI7, (fun b9 h9 => ((hF6 b9 (fun j9 h8 h7 => h9 j9 h8 (show (121 ≤ j9 ∧ j9 < 133) ∨ (139 ≤ j9 ∧ j9 < 141) by have h6 : 124 ≤ j9 ∧ j9 < 132 := h7; omega))).trans ((hF5 b9 (fun j9 h8 h7 => (show False from h7).elim)).trans ((hF4 b9 (fun j9 h8 h7 => (show False from h7).elim)).trans ((hF3 b9 (fun j9 h8 h7 => h9 j9 h8 (show (121 ≤ j9 ∧ j9 < 133) ∨ (139 ≤ j9 ∧ j9 < 141) by have h6 : 121 ≤ j9 ∧ j9 < 132 := h7; omega))).trans ((hF2 b9 (fun j9 h8 h7 => (show False from h7).elim)).trans ((hF1 b9 (fun j9 h8 h7 => h9 j9 h8 (show (121 ≤ j9 ∧ j9 < 133) ∨ (139 ≤ j9 ∧ j9 < 141) by have h6 : j9 = 140 := h7; omega))).trans ((fset_fr hΦ1 (fun h8 => h9 (140) h8 (show (121 ≤ 140 ∧ 140 < 133) ∨ (139 ≤ 140 ∧ 140 < 141) by omega))).trans rfl))))))))⟩
    · refine z_aload_n B dX0_decode_129 rfl 3 rfl ?_
      have h_23 : Φ3 (x + 132) = some (o_ 2 [.ref (x + 3), .ref (x + 121), .ref (x + 133), .ref (x + 134), .ref (x + 135), .ref (x + 137), .ref (x + 138), .ref (x + 139), .ref (x + 140), .int (nI n_1), .int v_1, .int v_2]) := ((hF3 (x + 132) (fun j9 h8 h7 => by have h6 : 121 ≤ j9 ∧ j9 < 132 := h7; omega)).trans h_12)
      refine z_get (ref := "FlowExporter$Collector") (C := RX0) (T := TX0) (N := 12) (ci := 2) (v := .ref (x + 139)) B (by decide +kernel) rfl 7 (by decide) (by decide +kernel) rfl h_23 rfl dX0_decode_130 ?_
      refine z_bipush (v := 6) B dX0_decode_133 rfl ?_
      refine z_dup2_11 B dX0_decode_135 rfl rfl ?_
      obtain ⟨f_3, h_24⟩ := in28 (k := 139) hI4 rfl
      have h_25 : Φ3 (x + 139) = some (al_ G 9 f_3) := h_24
      refine z_lald B h_25 (vin rfl) dX0_decode_136 ?_
      refine z_fl (fun v_21 => ?_)
      refine z_lconst (v := 1) B dX0_decode_137 rfl ?_
      refine z_ladd B dX0_decode_138 ?_
      refine z_fl (fun v_22 => ?_)
      refine z_last B h_25 (Nat.le_trans hx (Nat.le_add_right x 139)) (vin rfl) dX0_decode_139 (fun Φ7 hΦ2 => ?_)
      have h_26 : Φ7 (x + 139) = some (al_ G 9 (vp_updL f_3 (6 : Int32).toNatClampNeg v_22)) := fset_at hΦ2
      have hI8 : In G x (ca) Φ7 := In.put (k := 139) hI4 hΦ2 (ok28 (k := 139) rfl ⟨_, rfl⟩)
      exact z_ret_v B dX0_decode_140 ⟨rfl, rfl, hI8, (fun b9 h9 => ((fset_fr hΦ2 (fun h8 => h9 (139) h8 (show (121 ≤ 139 ∧ 139 < 133) ∨ (139 ≤ 139 ∧ 139 < 141) by omega))).trans ((hF3 b9 (fun j9 h8 h7 => h9 j9 h8 (show (121 ≤ j9 ∧ j9 < 133) ∨ (139 ≤ j9 ∧ j9 < 141) by have h6 : 121 ≤ j9 ∧ j9 < 132 := h7; omega))).trans ((hF2 b9 (fun j9 h8 h7 => (show False from h7).elim)).trans ((hF1 b9 (fun j9 h8 h7 => h9 j9 h8 (show (121 ≤ j9 ∧ j9 < 133) ∨ (139 ≤ j9 ∧ j9 < 141) by have h6 : j9 = 140 := h7; omega))).trans ((fset_fr hΦ1 (fun h8 => h9 (140) h8 (show (121 ≤ 140 ∧ 140 < 133) ∨ (139 ≤ 140 ∧ 140 < 141) by omega))).trans rfl))))))⟩
  · have e_2 : ¬ (n_2 ≤ i_1) := fun h9 => c_1 ((nI_leI (a := n_2) (b := i_1) (by omega) (by omega)).mpr h9)
    refine z_aload_n B dX0_decode_23 rfl 5 rfl ?_
    refine z_iload B dX0_decode_24 0 rfl ?_
    refine z_callV (As := [.int (nI i_1)]) (rest := []) B (s_X10_field G l Φl1 sz x (ca) q (nI i_1) hx hI2 hk_q) (cwV 1 B.1.2.2.2.2 gX0_decode_X10_field rfl rfl rfl (by decide +kernel) ⟨Nat.le_of_ble_eq_true rfl, Nat.le_of_ble_eq_true rfl⟩) h_8 rfl rfl rfl rfl (Nat.le_of_ble_eq_true rfl) dX0_decode_26 ⟨Nat.le_of_ble_eq_true rfl, Nat.le_of_ble_eq_true rfl⟩ (fun r_9 Φ8 sz7 st7 hp7 hs7 => ?_)
    obtain ⟨⟨v_23, rfl⟩, hq7, hI9, hF7⟩ := hp7
    subst sz7
    replace hs7 : st7 = [.int v_23] := hs7
    subst st7
    replace hI9 : In G x (ca) Φ8 := hI9
    refine z_istore (lv' := [(6, .int v_23), (5, .int (nI i_1)), (4, .int i_2), (0, .ref (x + 132)), (1, .ref (x + (k))), (2, .int a), (3, .ref (x + (q)))]) B dX0_decode_29 (Nat.le_of_ble_eq_true rfl) rfl ?_
    refine z_iload B dX0_decode_31 0 rfl ?_
    refine z_if_lt (tgt := 73) B dX0_decode_33 rfl (fun c_3 => ?_) (fun c_3 => ?_)
    · refine z_iinc (k := 1) (v := nI (i_1 + 1)) (lv' := [(5, .int (nI (i_1 + 1))), (6, .int v_23), (4, .int i_2), (0, .ref (x + 132)), (1, .ref (x + (k))), (2, .int a), (3, .ref (x + (q)))]) B dX0_decode_73 rfl (nI_add i_1 1) (Nat.le_of_ble_eq_true rfl) rfl ?_
      refine z_goto (tgt := 14) B dX0_decode_76 rfl ?_
      refine z_lv [0, 2, 3, 4, 5, 6] rfl ?_
      exact ih1 (i_1 + 1, i_2) Φ8 (show 9 - (i_1 + 1) < 9 - i_1 by omega) ⟨hI9, (fun b9 h9 => ((hF7 b9 (fun j9 h8 h7 => (show False from h7).elim)).trans ((hF1 b9 (fun j9 h8 h7 => h9 j9 h8 (show j9 = 140 by have h6 : j9 = 140 := h7; omega))).trans rfl))), (show (i_1 + 1) ≤ 9 by omega), trivial⟩
    · obtain ⟨n_7, e_3, rfl⟩ := nI_of c_3
      refine z_iload B dX0_decode_36 0 rfl ?_
      refine z_bipush (v := 9) B dX0_decode_38 rfl ?_
      refine z_icmp_ge (tgt := 73) B dX0_decode_40 rfl (fun c_4 => ?_) (fun c_4 => ?_)
      · have e_4 : 9 ≤ n_7 := (nI_leI (a := 9) (b := n_7) (by omega) (by omega)).mp c_4
        refine z_iinc (k := 1) (v := nI (i_1 + 1)) (lv' := [(5, .int (nI (i_1 + 1))), (6, .int (nI n_7)), (4, .int i_2), (0, .ref (x + 132)), (1, .ref (x + (k))), (2, .int a), (3, .ref (x + (q)))]) B dX0_decode_73 rfl (nI_add i_1 1) (Nat.le_of_ble_eq_true rfl) rfl ?_
        refine z_goto (tgt := 14) B dX0_decode_76 rfl ?_
        refine z_lv [0, 2, 3, 4, 5, 6] rfl ?_
        exact ih1 (i_1 + 1, i_2) Φ8 (show 9 - (i_1 + 1) < 9 - i_1 by omega) ⟨hI9, (fun b9 h9 => ((hF7 b9 (fun j9 h8 h7 => (show False from h7).elim)).trans ((hF1 b9 (fun j9 h8 h7 => h9 j9 h8 (show j9 = 140 by have h6 : j9 = 140 := h7; omega))).trans rfl))), (show (i_1 + 1) ≤ 9 by omega), trivial⟩
      · have e_5 : ¬ (9 ≤ n_7) := fun h9 => c_4 ((nI_leI (a := 9) (b := n_7) (by omega) (by omega)).mpr h9)
        refine z_aload_n B dX0_decode_43 rfl 3 rfl ?_
        have h_27 : Φ8 (x + 132) = some (o_ 2 [.ref (x + 3), .ref (x + 121), .ref (x + 133), .ref (x + 134), .ref (x + 135), .ref (x + 137), .ref (x + 138), .ref (x + 139), .ref (x + 140), .int (nI n_1), .int v_1, .int v_2]) := ((hF7 (x + 132) (fun j9 h8 h7 => (show False from h7).elim)).trans ((hF1 (x + 132) (fun j9 h8 h7 => by have h6 : j9 = 140 := h7; omega)).trans ((fset_fr hΦ1 (ne_off (x := x) (i := 132) (j := 140) rfl)).trans h_2)))
        refine z_get (ref := "FlowExporter$Collector") (C := RX0) (T := TX0) (N := 12) (ci := 2) (v := .ref (x + 140)) B (by decide +kernel) rfl 8 (by decide) (by decide +kernel) rfl h_27 rfl dX0_decode_44 ?_
        refine z_iload B dX0_decode_47 0 rfl ?_
        refine z_aload_n B dX0_decode_49 rfl 4 rfl ?_
        refine z_iload B dX0_decode_50 2 rfl ?_
        refine z_staN (n := "FIELD_BYTES") B B.2.2.2.2.2.1.1.1 (by decide +kernel) dX0_decode_52 ?_
        refine z_iload B dX0_decode_55 0 rfl ?_
        refine z_sald B B.2.2.2.2.2.1.2.2.2.1.1 (B.2.2.2.2.2.1.2.2.2.2 0 (by decide)) (vp_in_nI (by omega) (by omega)) dX0_decode_57 ?_
        obtain ⟨n_8, b_8, e_6, e_7⟩ := fbT_nat4 (show n_7 < 9 by omega)
        refine z_top (st1 := [.int (nI n_8), .int i_2, .ref (x + (k)), .int (nI n_7), .ref (x + 140)]) (congrArg (fun w9 : Int32 => ([.int w9, .int i_2, .ref (x + (k)), .int (nI n_7), .ref (x + 140)] : List Value)) ((congrArg fbT (nI_clamp (by omega))).trans e_6)) ?_
        obtain ⟨n_9, h_28, b_9⟩ := in1 (k := k) hI9 hk_k
        replace b_9 : n_9 ≤ cap (k) := b_9
        have b_10 := cap_le (k)
        have h_29 : Φ8 (x + (k)) = some (o_ 7 [.ref (x + (k + 1)), .int (nI n_9)]) := h_28
        refine z_callV (As := [.int i_2, .int (nI n_8)]) (rest := [.int (nI n_7), .ref (x + 140)]) B (s_X5_numberAt G l Φ8 sz x (ca) k i_2 n_8 hx hI9 hk_k (show n_8 ≤ 8 by omega)) (cwV 2 B.1.2.2.2.2 gX0_decode_X5_numberAt rfl rfl rfl (by decide +kernel) ⟨Nat.le_of_ble_eq_true rfl, Nat.le_of_ble_eq_true rfl⟩) h_29 rfl rfl rfl rfl (Nat.le_of_ble_eq_true rfl) dX0_decode_58 ⟨Nat.le_of_ble_eq_true rfl, Nat.le_of_ble_eq_true rfl⟩ (fun r_10 Φ9 sz8 st8 hp8 hs8 => ?_)
        obtain ⟨⟨v_24, rfl, q_2⟩, hq8, hI10, hF8⟩ := hp8
        subst sz8
        replace hs8 : st8 = [.long v_24, .int (nI n_7), .ref (x + 140)] := hs8
        subst st8
        replace hI10 : In G x (ca) Φ9 := hI10
        obtain ⟨f_4, h_30, r_11⟩ := in29 (k := 140) hI10 rfl
        have h_31 : Φ9 (x + 140) = some (al_ G 9 f_4) := h_30
        refine z_last B h_31 (Nat.le_trans hx (Nat.le_add_right x 140)) (vp_in_nI (by omega) (by omega)) dX0_decode_61 (fun Φ10 hΦ3 => ?_)
        have h_32 : Φ10 (x + 140) = some (al_ G 9 (vp_updL f_4 (nI n_7).toNatClampNeg v_24)) := fset_at hΦ3
        have hI11 : In G x (ca) Φ10 := In.put (k := 140) hI10 hΦ3 (ok29 (k := 140) rfl ⟨_, rfl, upd4 r_11 (fun h9 => np_nn q_2 (e_7 (by have h8 : (nI n_7).toNatClampNeg = n_7 := nI_clamp (by omega); omega)))⟩)
        refine z_iload B dX0_decode_62 2 rfl ?_
        refine z_staN (n := "FIELD_BYTES") B B.2.2.2.2.2.1.1.1 (by decide +kernel) dX0_decode_64 ?_
        refine z_iload B dX0_decode_67 0 rfl ?_
        refine z_sald B B.2.2.2.2.2.1.2.2.2.1.1 (B.2.2.2.2.2.1.2.2.2.2 0 (by decide)) (vp_in_nI (by omega) (by omega)) dX0_decode_69 ?_
        obtain ⟨n_10, b_11, e_8⟩ := fbT_nat (show n_7 < 9 by omega)
        refine z_top (st1 := [.int (nI n_10), .int i_2]) (congrArg (fun w9 : Int32 => ([.int w9, .int i_2] : List Value)) ((congrArg fbT (nI_clamp (by omega))).trans e_8)) ?_
        refine z_iadd B dX0_decode_70 ?_
        refine z_fi (fun v_25 => ?_)
        refine z_istore (lv' := [(4, .int v_25), (6, .int (nI n_7)), (5, .int (nI i_1)), (0, .ref (x + 132)), (1, .ref (x + (k))), (2, .int a), (3, .ref (x + (q)))]) B dX0_decode_71 (Nat.le_of_ble_eq_true rfl) rfl ?_
        refine z_iinc (k := 2) (v := nI (i_1 + 1)) (lv' := [(5, .int (nI (i_1 + 1))), (4, .int v_25), (6, .int (nI n_7)), (0, .ref (x + 132)), (1, .ref (x + (k))), (2, .int a), (3, .ref (x + (q)))]) B dX0_decode_73 rfl (nI_add i_1 1) (Nat.le_of_ble_eq_true rfl) rfl ?_
        refine z_goto (tgt := 14) B dX0_decode_76 rfl ?_
        refine z_lv [0, 1, 3, 4, 5, 6] rfl ?_
        exact ih1 (i_1 + 1, v_25) Φ10 (show 9 - (i_1 + 1) < 9 - i_1 by omega) ⟨hI11, (fun b9 h9 => ((fset_fr hΦ3 (fun h8 => h9 (140) h8 (show 140 = 140 by omega))).trans ((hF8 b9 (fun j9 h8 h7 => (show False from h7).elim)).trans ((hF7 b9 (fun j9 h8 h7 => (show False from h7).elim)).trans ((hF1 b9 (fun j9 h8 h7 => h9 j9 h8 (show j9 = 140 by have h6 : j9 = 140 := h7; omega))).trans rfl))))), (show (i_1 + 1) ≤ 9 by omega), trivial⟩

set_option maxRecDepth 20000 in
theorem ggX12_covered_X12_isWhat : GoodIn wsX12_covered wsX12_isWhat := (goodIn_r _ [7, 8, 9, 6, 10] rfl (by decide +kernel))
set_option maxRecDepth 20000 in
theorem gX12_covered_X12_isWhat : GoodIn wsX12_covered (va_wsS RX12 397 yX12_isWhat wsX12_isWhat) := goodIn_app (goodIn_m (mem_cA (List.mem_cons_of_mem _ (List.mem_append_left _ (List.mem_append_left _ (List.mem_append_left _ (List.mem_of_getElem? (i := 3) rfl))))) (mem_cA (List.mem_cons_of_mem _ (List.mem_append_left _ (List.mem_append_left _ (List.mem_append_left _ (List.mem_of_getElem? (i := 4) rfl))))) (mem_cA (List.mem_cons_of_mem _ (List.mem_append_left _ (List.mem_append_left _ (List.mem_append_left _ (List.mem_of_getElem? (i := 5) rfl))))) mem_cZ))) (by decide +kernel)) ggX12_covered_X12_isWhat
set_option maxRecDepth 20000 in
theorem ggX12_covered_X12_throwsIf : GoodIn wsX12_covered wsX12_throwsIf := (goodIn_ca (goodIn_r _ [14, 1] rfl (by decide +kernel)) (goodIn_sub (fun _ h => List.mem_cons_of_mem _ (List.mem_append_left _ (List.mem_append_right _ h))) gw_wsX120))
set_option maxRecDepth 20000 in
theorem gX12_covered_X12_throwsIf : GoodIn wsX12_covered (wsV RX12 185 RX12 yX12_throwsIf wsX12_throwsIf) := goodIn_app (goodIn_m (mem_cA (List.mem_cons_of_mem _ (List.mem_append_left _ (List.mem_append_left _ (List.mem_append_left _ (List.mem_of_getElem? (i := 10) rfl))))) (mem_cA (List.mem_cons_of_mem _ (List.mem_append_left _ (List.mem_append_left _ (List.mem_append_left _ (List.mem_of_getElem? (i := 11) rfl))))) (mem_cA (List.mem_cons_of_mem _ (List.mem_append_left _ (List.mem_append_left _ (List.mem_append_left _ (List.mem_of_getElem? (i := 12) rfl))))) (mem_cA (List.mem_cons_of_mem _ (List.mem_append_left _ (List.mem_append_left _ (List.mem_append_left _ (List.mem_of_getElem? (i := 5) rfl))))) mem_cZ)))) (by decide +kernel)) ggX12_covered_X12_throwsIf
set_option maxRecDepth 20000 in
theorem ggX12_covered_X12_truthOf : GoodIn wsX12_covered wsX12_truthOf := goodIn_ca ((goodIn_ca (goodIn_r _ [18, 19, 20, 21, 22, 6, 23, 24, 25, 26, 27, 28] rfl (by decide +kernel)) (goodIn_sub (fun _ h => List.mem_cons_of_mem _ (List.mem_append_left _ (List.mem_append_right _ h))) gw_wsX120))) (goodIn_sub (fun _ h => List.mem_cons_of_mem _ (List.mem_append_right _ h)) (all_fg _))
set_option maxRecDepth 20000 in
theorem gX12_covered_X12_truthOf : GoodIn wsX12_covered (wsV RX12 437 RX12 yX12_truthOf wsX12_truthOf) := goodIn_app (goodIn_m (mem_cA (List.mem_cons_of_mem _ (List.mem_append_left _ (List.mem_append_left _ (List.mem_append_left _ (List.mem_of_getElem? (i := 14) rfl))))) (mem_cA (List.mem_cons_of_mem _ (List.mem_append_left _ (List.mem_append_left _ (List.mem_append_left _ (List.mem_of_getElem? (i := 15) rfl))))) (mem_cA (List.mem_cons_of_mem _ (List.mem_append_left _ (List.mem_append_left _ (List.mem_append_left _ (List.mem_of_getElem? (i := 16) rfl))))) (mem_cA (List.mem_cons_of_mem _ (List.mem_append_left _ (List.mem_append_left _ (List.mem_append_left _ (List.mem_of_getElem? (i := 5) rfl))))) mem_cZ)))) (by decide +kernel)) ggX12_covered_X12_truthOf
set_option maxRecDepth 20000 in
theorem ggX12_covered_X12_lowerOf : GoodIn wsX12_covered wsX12_lowerOf := goodIn_ca ((goodIn_ca (goodIn_r _ [32, 33, 34, 35, 36, 37, 6, 38, 39, 40, 41, 42, 43, 44, 45, 46, 47, 48, 49, 50, 51, 52, 53, 54, 55, 56, 57, 58, 59, 60, 61, 62] rfl (by decide +kernel)) (goodIn_sub (fun _ h => List.mem_cons_of_mem _ (List.mem_append_left _ (List.mem_append_right _ h))) gw_wsX120))) (goodIn_sub (fun _ h => List.mem_cons_of_mem _ (List.mem_append_right _ h)) (all_fg _))
set_option maxRecDepth 20000 in
theorem gX12_covered_X12_lowerOf : GoodIn wsX12_covered (wsV RX12 427 RX12 yX12_lowerOf wsX12_lowerOf) := goodIn_app (goodIn_m (mem_cA (List.mem_cons_of_mem _ (List.mem_append_left _ (List.mem_append_left _ (List.mem_append_right _ (List.mem_append_left _ (List.mem_of_getElem? (i := 4) rfl)))))) (mem_cA (List.mem_cons_of_mem _ (List.mem_append_left _ (List.mem_append_left _ (List.mem_append_right _ (List.mem_append_left _ (List.mem_of_getElem? (i := 5) rfl)))))) (mem_cA (List.mem_cons_of_mem _ (List.mem_append_left _ (List.mem_append_left _ (List.mem_append_right _ (List.mem_append_left _ (List.mem_of_getElem? (i := 6) rfl)))))) (mem_cA (List.mem_cons_of_mem _ (List.mem_append_left _ (List.mem_append_left _ (List.mem_append_left _ (List.mem_of_getElem? (i := 5) rfl))))) mem_cZ)))) (by decide +kernel)) ggX12_covered_X12_lowerOf
set_option maxRecDepth 20000 in
theorem ggX12_covered_X12_upperOf : GoodIn wsX12_covered wsX12_upperOf := goodIn_ca ((goodIn_ca (goodIn_r _ [66, 33, 34, 36, 37, 6, 38, 39, 40, 41, 42, 43, 44, 45, 46, 47, 48, 49, 50, 51, 52, 53, 54, 55, 56, 57, 58, 59, 60, 61, 62] rfl (by decide +kernel)) (goodIn_sub (fun _ h => List.mem_cons_of_mem _ (List.mem_append_left _ (List.mem_append_right _ h))) gw_wsX120))) (goodIn_sub (fun _ h => List.mem_cons_of_mem _ (List.mem_append_right _ h)) (all_fg _))
set_option maxRecDepth 20000 in
theorem gX12_covered_X12_upperOf : GoodIn wsX12_covered (wsV RX12 431 RX12 yX12_upperOf wsX12_upperOf) := goodIn_app (goodIn_m (mem_cA (List.mem_cons_of_mem _ (List.mem_append_left _ (List.mem_append_left _ (List.mem_append_right _ (List.mem_append_right _ (List.mem_of_getElem? (i := 14) rfl)))))) (mem_cA (List.mem_cons_of_mem _ (List.mem_append_left _ (List.mem_append_left _ (List.mem_append_right _ (List.mem_append_right _ (List.mem_of_getElem? (i := 15) rfl)))))) (mem_cA (List.mem_cons_of_mem _ (List.mem_append_left _ (List.mem_append_left _ (List.mem_append_right _ (List.mem_append_right _ (List.mem_of_getElem? (i := 16) rfl)))))) (mem_cA (List.mem_cons_of_mem _ (List.mem_append_left _ (List.mem_append_left _ (List.mem_append_left _ (List.mem_of_getElem? (i := 5) rfl))))) mem_cZ)))) (by decide +kernel)) ggX12_covered_X12_upperOf
theorem dX12_covered_0 : decode cX12_covered 0 = .ok (.aload_n 0, 1) := by decide +kernel
theorem dX12_covered_1 : decode cX12_covered 1 = .ok (.iconst 0, 1) := by decide +kernel
theorem dX12_covered_2 : decode cX12_covered 2 = .ok (.putfield 1, 3) := by decide +kernel
theorem dX12_covered_5 : decode cX12_covered 5 = .ok (.aload_n 0, 1) := by decide +kernel
theorem dX12_covered_6 : decode cX12_covered 6 = .ok (.iload_n 1, 1) := by decide +kernel
theorem dX12_covered_7 : decode cX12_covered 7 = .ok (.invokestatic 397, 3) := by decide +kernel
theorem dX12_covered_10 : decode cX12_covered 10 = .ok (.ifCond .ne 7, 3) := by decide +kernel
theorem dX12_covered_13 : decode cX12_covered 13 = .ok (.iconst 1, 1) := by decide +kernel
theorem dX12_covered_14 : decode cX12_covered 14 = .ok (.goto 4, 3) := by decide +kernel
theorem dX12_covered_17 : decode cX12_covered 17 = .ok (.iconst 0, 1) := by decide +kernel
theorem dX12_covered_18 : decode cX12_covered 18 = .ok (.iconst 1, 1) := by decide +kernel
theorem dX12_covered_19 : decode cX12_covered 19 = .ok (.invokevirtual 185, 3) := by decide +kernel
theorem dX12_covered_22 : decode cX12_covered 22 = .ok (.ifCond .eq 5, 3) := by decide +kernel
theorem dX12_covered_25 : decode cX12_covered 25 = .ok (.iconst 0, 1) := by decide +kernel
theorem dX12_covered_26 : decode cX12_covered 26 = .ok (.ireturn, 1) := by decide +kernel
theorem dX12_covered_27 : decode cX12_covered 27 = .ok (.iconst 0, 1) := by decide +kernel
theorem dX12_covered_28 : decode cX12_covered 28 = .ok (.istore_n 2, 1) := by decide +kernel
theorem dX12_covered_29 : decode cX12_covered 29 = .ok (.iconst 0, 1) := by decide +kernel
theorem dX12_covered_30 : decode cX12_covered 30 = .ok (.istore_n 3, 1) := by decide +kernel
theorem dX12_covered_31 : decode cX12_covered 31 = .ok (.iload_n 3, 1) := by decide +kernel
theorem dX12_covered_32 : decode cX12_covered 32 = .ok (.aload_n 0, 1) := by decide +kernel
theorem dX12_covered_33 : decode cX12_covered 33 = .ok (.getfield 148, 3) := by decide +kernel
theorem dX12_covered_36 : decode cX12_covered 36 = .ok (.if_icmp .ge 87, 3) := by decide +kernel
theorem dX12_covered_39 : decode cX12_covered 39 = .ok (.aload_n 0, 1) := by decide +kernel
theorem dX12_covered_40 : decode cX12_covered 40 = .ok (.aload_n 0, 1) := by decide +kernel
theorem dX12_covered_41 : decode cX12_covered 41 = .ok (.getfield 69, 3) := by decide +kernel
theorem dX12_covered_44 : decode cX12_covered 44 = .ok (.iconst 4, 1) := by decide +kernel
theorem dX12_covered_45 : decode cX12_covered 45 = .ok (.iload_n 3, 1) := by decide +kernel
theorem dX12_covered_46 : decode cX12_covered 46 = .ok (.imul, 1) := by decide +kernel
theorem dX12_covered_47 : decode cX12_covered 47 = .ok (.iaload, 1) := by decide +kernel
theorem dX12_covered_48 : decode cX12_covered 48 = .ok (.aload_n 0, 1) := by decide +kernel
theorem dX12_covered_49 : decode cX12_covered 49 = .ok (.getfield 69, 3) := by decide +kernel
theorem dX12_covered_52 : decode cX12_covered 52 = .ok (.iconst 4, 1) := by decide +kernel
theorem dX12_covered_53 : decode cX12_covered 53 = .ok (.iload_n 3, 1) := by decide +kernel
theorem dX12_covered_54 : decode cX12_covered 54 = .ok (.imul, 1) := by decide +kernel
theorem dX12_covered_55 : decode cX12_covered 55 = .ok (.iconst 1, 1) := by decide +kernel
theorem dX12_covered_56 : decode cX12_covered 56 = .ok (.iadd, 1) := by decide +kernel
theorem dX12_covered_57 : decode cX12_covered 57 = .ok (.iaload, 1) := by decide +kernel
theorem dX12_covered_58 : decode cX12_covered 58 = .ok (.aload_n 0, 1) := by decide +kernel
theorem dX12_covered_59 : decode cX12_covered 59 = .ok (.getfield 69, 3) := by decide +kernel
theorem dX12_covered_62 : decode cX12_covered 62 = .ok (.iconst 4, 1) := by decide +kernel
theorem dX12_covered_63 : decode cX12_covered 63 = .ok (.iload_n 3, 1) := by decide +kernel
theorem dX12_covered_64 : decode cX12_covered 64 = .ok (.imul, 1) := by decide +kernel
theorem dX12_covered_65 : decode cX12_covered 65 = .ok (.iconst 2, 1) := by decide +kernel
theorem dX12_covered_66 : decode cX12_covered 66 = .ok (.iadd, 1) := by decide +kernel
theorem dX12_covered_67 : decode cX12_covered 67 = .ok (.iaload, 1) := by decide +kernel
theorem dX12_covered_68 : decode cX12_covered 68 = .ok (.aload_n 0, 1) := by decide +kernel
theorem dX12_covered_69 : decode cX12_covered 69 = .ok (.getfield 69, 3) := by decide +kernel
theorem dX12_covered_72 : decode cX12_covered 72 = .ok (.iconst 4, 1) := by decide +kernel
theorem dX12_covered_73 : decode cX12_covered 73 = .ok (.iload_n 3, 1) := by decide +kernel
theorem dX12_covered_74 : decode cX12_covered 74 = .ok (.imul, 1) := by decide +kernel
theorem dX12_covered_75 : decode cX12_covered 75 = .ok (.iconst 3, 1) := by decide +kernel
theorem dX12_covered_76 : decode cX12_covered 76 = .ok (.iadd, 1) := by decide +kernel
theorem dX12_covered_77 : decode cX12_covered 77 = .ok (.iaload, 1) := by decide +kernel
theorem dX12_covered_78 : decode cX12_covered 78 = .ok (.iload_n 1, 1) := by decide +kernel
theorem dX12_covered_79 : decode cX12_covered 79 = .ok (.invokevirtual 437, 3) := by decide +kernel
theorem dX12_covered_82 : decode cX12_covered 82 = .ok (.l2d, 1) := by decide +kernel
theorem dX12_covered_83 : decode cX12_covered 83 = .ok (.dstore 4, 2) := by decide +kernel
theorem dX12_covered_85 : decode cX12_covered 85 = .ok (.iload_n 2, 1) := by decide +kernel
theorem dX12_covered_86 : decode cX12_covered 86 = .ok (.dload 4, 2) := by decide +kernel
theorem dX12_covered_88 : decode cX12_covered 88 = .ok (.aload_n 0, 1) := by decide +kernel
theorem dX12_covered_89 : decode cX12_covered 89 = .ok (.iload_n 3, 1) := by decide +kernel
theorem dX12_covered_90 : decode cX12_covered 90 = .ok (.iload_n 1, 1) := by decide +kernel
theorem dX12_covered_91 : decode cX12_covered 91 = .ok (.invokevirtual 427, 3) := by decide +kernel
theorem dX12_covered_94 : decode cX12_covered 94 = .ok (.dcmp .l, 1) := by decide +kernel
theorem dX12_covered_95 : decode cX12_covered 95 = .ok (.ifCond .lt 19, 3) := by decide +kernel
theorem dX12_covered_98 : decode cX12_covered 98 = .ok (.dload 4, 2) := by decide +kernel
theorem dX12_covered_100 : decode cX12_covered 100 = .ok (.aload_n 0, 1) := by decide +kernel
theorem dX12_covered_101 : decode cX12_covered 101 = .ok (.iload_n 3, 1) := by decide +kernel
theorem dX12_covered_102 : decode cX12_covered 102 = .ok (.iload_n 1, 1) := by decide +kernel
theorem dX12_covered_103 : decode cX12_covered 103 = .ok (.invokevirtual 431, 3) := by decide +kernel
theorem dX12_covered_106 : decode cX12_covered 106 = .ok (.dcmp .g, 1) := by decide +kernel
theorem dX12_covered_107 : decode cX12_covered 107 = .ok (.ifCond .gt 7, 3) := by decide +kernel
theorem dX12_covered_110 : decode cX12_covered 110 = .ok (.iconst 1, 1) := by decide +kernel
theorem dX12_covered_111 : decode cX12_covered 111 = .ok (.goto 4, 3) := by decide +kernel
theorem dX12_covered_114 : decode cX12_covered 114 = .ok (.iconst 0, 1) := by decide +kernel
theorem dX12_covered_115 : decode cX12_covered 115 = .ok (.iadd, 1) := by decide +kernel
theorem dX12_covered_116 : decode cX12_covered 116 = .ok (.istore_n 2, 1) := by decide +kernel
theorem dX12_covered_117 : decode cX12_covered 117 = .ok (.iinc 3 1, 3) := by decide +kernel
theorem dX12_covered_120 : decode cX12_covered 120 = .ok (.goto (-89), 3) := by decide +kernel
theorem dX12_covered_123 : decode cX12_covered 123 = .ok (.iload_n 2, 1) := by decide +kernel
theorem dX12_covered_124 : decode cX12_covered 124 = .ok (.ireturn, 1) := by decide +kernel
set_option maxRecDepth 20000 in
theorem ggX12_totalEstimate_X12_isWhat : GoodIn wsX12_totalEstimate wsX12_isWhat := (goodIn_r _ [7, 8, 9, 6, 10] rfl (by decide +kernel))
set_option maxRecDepth 20000 in
theorem gX12_totalEstimate_X12_isWhat : GoodIn wsX12_totalEstimate (va_wsS RX12 397 yX12_isWhat wsX12_isWhat) := goodIn_app (goodIn_m (mem_cA (List.mem_cons_of_mem _ (List.mem_append_left _ (List.mem_append_left _ (List.mem_of_getElem? (i := 3) rfl)))) (mem_cA (List.mem_cons_of_mem _ (List.mem_append_left _ (List.mem_append_left _ (List.mem_of_getElem? (i := 4) rfl)))) (mem_cA (List.mem_cons_of_mem _ (List.mem_append_left _ (List.mem_append_left _ (List.mem_of_getElem? (i := 5) rfl)))) mem_cZ))) (by decide +kernel)) ggX12_totalEstimate_X12_isWhat
set_option maxRecDepth 20000 in
theorem ggX12_totalEstimate_X12_throwsIf : GoodIn wsX12_totalEstimate wsX12_throwsIf := (goodIn_ca (goodIn_r _ [14, 1] rfl (by decide +kernel)) (goodIn_sub (fun _ h => List.mem_cons_of_mem _ (List.mem_append_left _ (List.mem_append_right _ h))) gw_wsX120))
set_option maxRecDepth 20000 in
theorem gX12_totalEstimate_X12_throwsIf : GoodIn wsX12_totalEstimate (wsV RX12 185 RX12 yX12_throwsIf wsX12_throwsIf) := goodIn_app (goodIn_m (mem_cA (List.mem_cons_of_mem _ (List.mem_append_left _ (List.mem_append_left _ (List.mem_of_getElem? (i := 10) rfl)))) (mem_cA (List.mem_cons_of_mem _ (List.mem_append_left _ (List.mem_append_left _ (List.mem_of_getElem? (i := 11) rfl)))) (mem_cA (List.mem_cons_of_mem _ (List.mem_append_left _ (List.mem_append_left _ (List.mem_of_getElem? (i := 12) rfl)))) (mem_cA (List.mem_cons_of_mem _ (List.mem_append_left _ (List.mem_append_left _ (List.mem_of_getElem? (i := 5) rfl)))) mem_cZ)))) (by decide +kernel)) ggX12_totalEstimate_X12_throwsIf
theorem dX12_totalEstimate_0 : decode cX12_totalEstimate 0 = .ok (.aload_n 0, 1) := by decide +kernel
theorem dX12_totalEstimate_1 : decode cX12_totalEstimate 1 = .ok (.iconst 0, 1) := by decide +kernel
theorem dX12_totalEstimate_2 : decode cX12_totalEstimate 2 = .ok (.putfield 1, 3) := by decide +kernel
theorem dX12_totalEstimate_5 : decode cX12_totalEstimate 5 = .ok (.aload_n 0, 1) := by decide +kernel
theorem dX12_totalEstimate_6 : decode cX12_totalEstimate 6 = .ok (.iload_n 1, 1) := by decide +kernel
theorem dX12_totalEstimate_7 : decode cX12_totalEstimate 7 = .ok (.invokestatic 397, 3) := by decide +kernel
theorem dX12_totalEstimate_10 : decode cX12_totalEstimate 10 = .ok (.ifCond .ne 7, 3) := by decide +kernel
theorem dX12_totalEstimate_13 : decode cX12_totalEstimate 13 = .ok (.iconst 1, 1) := by decide +kernel
theorem dX12_totalEstimate_14 : decode cX12_totalEstimate 14 = .ok (.goto 4, 3) := by decide +kernel
theorem dX12_totalEstimate_17 : decode cX12_totalEstimate 17 = .ok (.iconst 0, 1) := by decide +kernel
theorem dX12_totalEstimate_18 : decode cX12_totalEstimate 18 = .ok (.iconst 1, 1) := by decide +kernel
theorem dX12_totalEstimate_19 : decode cX12_totalEstimate 19 = .ok (.invokevirtual 185, 3) := by decide +kernel
theorem dX12_totalEstimate_22 : decode cX12_totalEstimate 22 = .ok (.ifCond .eq 5, 3) := by decide +kernel
theorem dX12_totalEstimate_25 : decode cX12_totalEstimate 25 = .ok (.lconst 0, 1) := by decide +kernel
theorem dX12_totalEstimate_26 : decode cX12_totalEstimate 26 = .ok (.lreturn, 1) := by decide +kernel
theorem dX12_totalEstimate_27 : decode cX12_totalEstimate 27 = .ok (.lconst 0, 1) := by decide +kernel
theorem dX12_totalEstimate_28 : decode cX12_totalEstimate 28 = .ok (.lstore_n 2, 1) := by decide +kernel
theorem dX12_totalEstimate_29 : decode cX12_totalEstimate 29 = .ok (.iconst 0, 1) := by decide +kernel
theorem dX12_totalEstimate_30 : decode cX12_totalEstimate 30 = .ok (.istore 4, 2) := by decide +kernel
theorem dX12_totalEstimate_32 : decode cX12_totalEstimate 32 = .ok (.iload 4, 2) := by decide +kernel
theorem dX12_totalEstimate_34 : decode cX12_totalEstimate 34 = .ok (.aload_n 0, 1) := by decide +kernel
theorem dX12_totalEstimate_35 : decode cX12_totalEstimate 35 = .ok (.getfield 148, 3) := by decide +kernel
theorem dX12_totalEstimate_38 : decode cX12_totalEstimate 38 = .ok (.if_icmp .ge 23, 3) := by decide +kernel
theorem dX12_totalEstimate_41 : decode cX12_totalEstimate 41 = .ok (.lload_n 2, 1) := by decide +kernel
theorem dX12_totalEstimate_42 : decode cX12_totalEstimate 42 = .ok (.aload_n 0, 1) := by decide +kernel
theorem dX12_totalEstimate_43 : decode cX12_totalEstimate 43 = .ok (.getfield 75, 3) := by decide +kernel
theorem dX12_totalEstimate_46 : decode cX12_totalEstimate 46 = .ok (.iconst 2, 1) := by decide +kernel
theorem dX12_totalEstimate_47 : decode cX12_totalEstimate 47 = .ok (.iload 4, 2) := by decide +kernel
theorem dX12_totalEstimate_49 : decode cX12_totalEstimate 49 = .ok (.imul, 1) := by decide +kernel
theorem dX12_totalEstimate_50 : decode cX12_totalEstimate 50 = .ok (.iload_n 1, 1) := by decide +kernel
theorem dX12_totalEstimate_51 : decode cX12_totalEstimate 51 = .ok (.iadd, 1) := by decide +kernel
theorem dX12_totalEstimate_52 : decode cX12_totalEstimate 52 = .ok (.laload, 1) := by decide +kernel
theorem dX12_totalEstimate_53 : decode cX12_totalEstimate 53 = .ok (.ladd, 1) := by decide +kernel
theorem dX12_totalEstimate_54 : decode cX12_totalEstimate 54 = .ok (.lstore_n 2, 1) := by decide +kernel
theorem dX12_totalEstimate_55 : decode cX12_totalEstimate 55 = .ok (.iinc 4 1, 3) := by decide +kernel
theorem dX12_totalEstimate_58 : decode cX12_totalEstimate 58 = .ok (.goto (-26), 3) := by decide +kernel
theorem dX12_totalEstimate_61 : decode cX12_totalEstimate 61 = .ok (.lload_n 2, 1) := by decide +kernel
theorem dX12_totalEstimate_62 : decode cX12_totalEstimate 62 = .ok (.lreturn, 1) := by decide +kernel
set_option maxHeartbeats 4000000 in
set_option maxRecDepth 100000 in
theorem r_truth (G : EnvG) (l : Launch) (Φ : Hm) (sz x : Nat) (rd : (Nat → Int32) → Prop) (nw : (Nat → Int32) → Prop) (cr : (Nat → Int64) → Prop) (tp : (Nat → Int32) → Prop) (tt : (Nat → Int64) → Prop) (sI : (Nat → Int32) → Prop) (sT : (Nat → Int32) → Prop) (pt : (Nat → Int32) → Prop) (ql : (Nat → Int32) → Prop) (fl : Nat) (pe : Nat) (le : Nat) (nx : Nat) (il : Nat) (qu : Nat) (kn : Int32) (ec : Int32) (nu : Int32) (va : Int64) (st : Nat) (ep : Int32) (ti : Int32) (ad : Int32) (ob : Int64) (ra : Int32) (rt : Nat) (ex : Int32) (sa : Int64) (us : Int64) (tk : Nat) (th : Int32) (me : Int32) (dr : Int32) (se : Int64) (sn : Int64) (a : Int32) (b : Int32) (d : Int32) (f : Int32) (g : Int32) (hx : G.2.2.2 ≤ x) (hI : Im G x (rd, nw, cr, tp, tt, sI, sT, pt, ql, fl, pe, le, nx, il, qu, kn, ec, nu, va, st, ep, ti, ad, ob, ra, rt, ex, sa, us, tk, th, me, dr, se, sn) Φ) (hnw : ∀ f9 : Nat → Int32, nw f9 → NN f9) : Ct G l yX12_truth wsX12_truth ({ frames := 3, cells := 0, slots := 0, locals := 80 }) 0 0 [.ref x, .int a, .int b, .int d, .int f, .int g] Φ sz (fun v Φ1 sz1 => (∃ r9 : Int64, v = some (.long r9)) ∧ sz1 = sz ∧ (∃ (th1 : Int32), Im G x (rd, nw, cr, tp, tt, sI, sT, pt, ql, fl, pe, le, nx, il, qu, kn, ec, nu, va, st, ep, ti, ad, ob, ra, rt, ex, sa, us, tk, th1, me, dr, se, sn) Φ1) ∧ Fr x (fun j9 => j9 = 0) Φ Φ1) := by
  refine Ct.of (cc := cX12_truth) (maxL := 6) (ret := (some .long)) (by decide) rfl (Nat.le_of_ble_eq_true rfl) ?_
  intro p9 e9 s9 m9 w9 t9 k9 B
  show Z p9 l e9 _ s9 m9 _ w9 t9 k9 _ G 6 0 [(0, .ref x), (1, .int a), (2, .int b), (3, .int d), (4, .int f), (5, .int g)] [] Φ sz 0 0
  refine z_aload_n B dX12_truth_0 rfl 0 rfl ?_
  refine z_iconst (v := 0) B dX12_truth_1 rfl ?_
  obtain ⟨n_1, v_1, n_2, h_1, b_13, b_1, b_2, b_3, b_4, b_5, b_6, b_7, b_8, b_9, b_10, b_11, b_12⟩ := im0 hI
  replace b_1 : 1 ≤ rt := b_1
  replace b_2 : rt ≤ 1024 := b_2
  replace b_3 : fl ≤ 12 := b_3
  replace b_4 : pe ≤ 24 := b_4
  replace b_5 : le ≤ 700 := b_5
  replace b_6 : qu ≤ 12 := b_6
  replace b_7 : n_1 ≤ 8 := b_7
  replace b_8 : n_2 ≤ 24 := b_8
  replace b_9 : tk ≤ 24 := b_9
  replace b_10 : il ≤ 700 := b_10
  replace b_11 : nx ≤ 701 := b_11
  replace b_12 : st ≤ 701 := b_12
  have h_2 : Φ x = some (o_ 14 [.int th, .ref (x + 1), .ref (x + 2), .int ti, .int ra, .int (nI rt), .int ex, .int ad, .ref (x + 3), .ref (x + 4), .int me, .long se, .ref (x + 5), .int (nI fl), .int dr, .long ob, .long sa, .long sn, .long us, .ref (x + 6), .ref (x + 7), .int (nI pe), .ref (x + 8), .int (nI le), .ref (x + 9), .ref (x + 10), .int (nI qu), .ref (x + 11), .ref (x + 12), .ref (x + 13), .ref (x + 14), .ref (x + 15), .ref (x + 16), .int (nI n_1), .long v_1, .ref (x + 17), .ref (x + 18), .ref (x + 19), .ref (x + 20), .ref (x + 21), .ref (x + 22), .int (nI n_2), .ref (x + 23), .ref (x + 24), .int (nI tk), .ref (x + 25), .int (nI il), .int (nI nx), .int ec, .int ep, .int kn, .int (nI st), .int nu, .long va]) := h_1
  refine z_put (ref := "FlowExporterModel") (C := RX12) (T := TX12) (N := 54) (ci := 14) (v := .int 0) B hu_X12_truth_X12 tyX12 tyX12_ok nmX12 rfl 0 (Nat.le_of_ble_eq_true rfl) hv_X12_truth_1 rfl (Or.inl rfl) h_2 hx rfl rfl (Nat.le_of_ble_eq_true rfl) dX12_truth_2 (fun Φ1 hΦ1 => ?_)
  have h_3 : Φ1 x = some (o_ 14 [.int 0, .ref (x + 1), .ref (x + 2), .int ti, .int ra, .int (nI rt), .int ex, .int ad, .ref (x + 3), .ref (x + 4), .int me, .long se, .ref (x + 5), .int (nI fl), .int dr, .long ob, .long sa, .long sn, .long us, .ref (x + 6), .ref (x + 7), .int (nI pe), .ref (x + 8), .int (nI le), .ref (x + 9), .ref (x + 10), .int (nI qu), .ref (x + 11), .ref (x + 12), .ref (x + 13), .ref (x + 14), .ref (x + 15), .ref (x + 16), .int (nI n_1), .long v_1, .ref (x + 17), .ref (x + 18), .ref (x + 19), .ref (x + 20), .ref (x + 21), .ref (x + 22), .int (nI n_2), .ref (x + 23), .ref (x + 24), .int (nI tk), .ref (x + 25), .int (nI il), .int (nI nx), .int ec, .int ep, .int kn, .int (nI st), .int nu, .long va]) := fset_at hΦ1
  have hI1 : Im G x (rd, nw, cr, tp, tt, sI, sT, pt, ql, fl, pe, le, nx, il, qu, kn, ec, nu, va, st, ep, ti, ad, ob, ra, rt, ex, sa, us, tk, 0, me, dr, se, sn) Φ1 := Im.put0 hI hΦ1 ⟨n_1, v_1, n_2, rfl, b_13, b_1, b_2, b_3, b_4, b_5, b_6, b_7, b_8, b_9, b_10, b_11, b_12⟩
  refine z_aload_n B dX12_truth_5 rfl 0 rfl ?_
  refine z_iload B dX12_truth_6 5 rfl ?_
  refine z_callS (As := [.int g]) (rest := [.ref x]) B (r_isWhat G l Φ1 sz x rd nw cr tp tt sI sT pt ql fl pe le nx il qu kn ec nu va st ep ti ad ob ra rt ex sa us tk 0 me dr se sn g hx hI1 hnw) (va_cwS 1 B.1.2.2.2.2 gX12_truth_X12_isWhat rfl rfl rfl (by decide +kernel) ⟨Nat.le_of_ble_eq_true rfl, Nat.le_of_ble_eq_true rfl⟩) rfl rfl (Nat.le_of_ble_eq_true rfl) dX12_truth_8 ⟨Nat.le_of_ble_eq_true rfl, Nat.le_of_ble_eq_true rfl⟩ (fun r_1 Φ2 sz1 st1 hp1 hs1 => ?_)
  obtain ⟨ha1, hq1, hI2, hF1⟩ := hp1
  subst sz1
  replace hI2 : Im G x (rd, nw, cr, tp, tt, sI, sT, pt, ql, fl, pe, le, nx, il, qu, kn, ec, nu, va, st, ep, ti, ad, ob, ra, rt, ex, sa, us, tk, 0, me, dr, se, sn) Φ2 := hI2
  rcases ha1 with rfl | ⟨rfl, n_3, b_14, rfl⟩
  · replace hs1 : st1 = [.int 0, .ref x] := hs1
    subst st1
    refine z_if_ne (tgt := 18) B dX12_truth_11 rfl (fun h9 => absurd (by decide) h9) (fun c_1 => ?_)
    refine z_iconst (v := 1) B dX12_truth_14 rfl ?_
    refine z_goto (tgt := 19) B dX12_truth_15 rfl ?_
    refine z_iconst (v := 1) B dX12_truth_19 rfl ?_
    have h_4 : Φ2 x = some (o_ 14 [.int 0, .ref (x + 1), .ref (x + 2), .int ti, .int ra, .int (nI rt), .int ex, .int ad, .ref (x + 3), .ref (x + 4), .int me, .long se, .ref (x + 5), .int (nI fl), .int dr, .long ob, .long sa, .long sn, .long us, .ref (x + 6), .ref (x + 7), .int (nI pe), .ref (x + 8), .int (nI le), .ref (x + 9), .ref (x + 10), .int (nI qu), .ref (x + 11), .ref (x + 12), .ref (x + 13), .ref (x + 14), .ref (x + 15), .ref (x + 16), .int (nI n_1), .long v_1, .ref (x + 17), .ref (x + 18), .ref (x + 19), .ref (x + 20), .ref (x + 21), .ref (x + 22), .int (nI n_2), .ref (x + 23), .ref (x + 24), .int (nI tk), .ref (x + 25), .int (nI il), .int (nI nx), .int ec, .int ep, .int kn, .int (nI st), .int nu, .long va]) := ((hF1 x (fun j9 h8 h7 => (show False from h7).elim)).trans h_3)
    refine z_callV (As := [.int 1, .int 1]) (rest := []) B (r_throwsIf G l Φ2 sz x rd nw cr tp tt sI sT pt ql fl pe le nx il qu kn ec nu va st ep ti ad ob ra rt ex sa us tk 0 me dr se sn 1 1 hx hI2 (by decide) hnw) (cwV 2 B.1.2.2.2.2 gX12_truth_X12_throwsIf rfl rfl rfl (by decide +kernel) ⟨Nat.le_of_ble_eq_true rfl, Nat.le_of_ble_eq_true rfl⟩) h_4 rfl rfl rfl rfl (Nat.le_of_ble_eq_true rfl) dX12_truth_20 ⟨Nat.le_of_ble_eq_true rfl, Nat.le_of_ble_eq_true rfl⟩ (fun r_2 Φ3 sz2 st2 hp2 hs2 => ?_)
    obtain ⟨rfl, hq2, ⟨v_2, hI3⟩, hF2⟩ := hp2
    subst sz2
    replace hs2 : st2 = [.int 1] := hs2
    subst st2
    replace hI3 : Im G x (rd, nw, cr, tp, tt, sI, sT, pt, ql, fl, pe, le, nx, il, qu, kn, ec, nu, va, st, ep, ti, ad, ob, ra, rt, ex, sa, us, tk, v_2, me, dr, se, sn) Φ3 := hI3
    refine z_if_eq (tgt := 30) B dX12_truth_23 rfl (fun h9 => absurd h9 (by decide)) (fun c_2 => ?_)
    refine z_lconst (v := 0) B dX12_truth_26 rfl ?_
    refine z_goto (tgt := 41) B dX12_truth_27 rfl ?_
    exact z_ret_l B dX12_truth_41 ⟨⟨_, rfl⟩, rfl, ⟨v_2, hI3⟩, (fun b9 h9 => ((hF2 b9 h9).trans ((hF1 b9 (fun j9 h8 h7 => (show False from h7).elim)).trans ((fset_fr hΦ1 (fun h8 => h9 (0) h8 (show 0 = 0 by decide))).trans rfl))))⟩
  · replace hs1 : st1 = [.int 1, .ref x] := hs1
    subst st1
    replace b_14 : n_3 < 2 := b_14
    refine z_if_ne (tgt := 18) B dX12_truth_11 rfl (fun c_3 => ?_) (fun h9 => absurd h9 (by decide))
    refine z_iconst (v := 0) B dX12_truth_18 rfl ?_
    refine z_iconst (v := 1) B dX12_truth_19 rfl ?_
    have h_5 : Φ2 x = some (o_ 14 [.int 0, .ref (x + 1), .ref (x + 2), .int ti, .int ra, .int (nI rt), .int ex, .int ad, .ref (x + 3), .ref (x + 4), .int me, .long se, .ref (x + 5), .int (nI fl), .int dr, .long ob, .long sa, .long sn, .long us, .ref (x + 6), .ref (x + 7), .int (nI pe), .ref (x + 8), .int (nI le), .ref (x + 9), .ref (x + 10), .int (nI qu), .ref (x + 11), .ref (x + 12), .ref (x + 13), .ref (x + 14), .ref (x + 15), .ref (x + 16), .int (nI n_1), .long v_1, .ref (x + 17), .ref (x + 18), .ref (x + 19), .ref (x + 20), .ref (x + 21), .ref (x + 22), .int (nI n_2), .ref (x + 23), .ref (x + 24), .int (nI tk), .ref (x + 25), .int (nI il), .int (nI nx), .int ec, .int ep, .int kn, .int (nI st), .int nu, .long va]) := ((hF1 x (fun j9 h8 h7 => (show False from h7).elim)).trans h_3)
    refine z_callV (As := [.int 0, .int 1]) (rest := []) B (r_throwsIf G l Φ2 sz x rd nw cr tp tt sI sT pt ql fl pe le nx il qu kn ec nu va st ep ti ad ob ra rt ex sa us tk 0 me dr se sn 0 1 hx hI2 (by decide) hnw) (cwV 2 B.1.2.2.2.2 gX12_truth_X12_throwsIf rfl rfl rfl (by decide +kernel) ⟨Nat.le_of_ble_eq_true rfl, Nat.le_of_ble_eq_true rfl⟩) h_5 rfl rfl rfl rfl (Nat.le_of_ble_eq_true rfl) dX12_truth_20 ⟨Nat.le_of_ble_eq_true rfl, Nat.le_of_ble_eq_true rfl⟩ (fun r_3 Φ4 sz3 st3 hp3 hs3 => ?_)
    obtain ⟨rfl, hq3, ⟨v_3, hI4⟩, hF3⟩ := hp3
    subst sz3
    replace hs3 : st3 = [.int 0] := hs3
    subst st3
    replace hI4 : Im G x (rd, nw, cr, tp, tt, sI, sT, pt, ql, fl, pe, le, nx, il, qu, kn, ec, nu, va, st, ep, ti, ad, ob, ra, rt, ex, sa, us, tk, v_3, me, dr, se, sn) Φ4 := hI4
    refine z_if_eq (tgt := 30) B dX12_truth_23 rfl (fun c_4 => ?_) (fun h9 => absurd (by decide) h9)
    refine z_aload_n B dX12_truth_30 rfl 0 rfl ?_
    refine z_iload_n B dX12_truth_31 rfl 1 rfl ?_
    refine z_iload_n B dX12_truth_32 rfl 2 rfl ?_
    refine z_iload_n B dX12_truth_33 rfl 3 rfl ?_
    refine z_iload B dX12_truth_34 4 rfl ?_
    refine z_iload B dX12_truth_36 5 rfl ?_
    obtain ⟨n_4, v_4, n_5, h_6, b_27, b_15, b_16, b_17, b_18, b_19, b_20, b_21, b_22, b_23, b_24, b_25, b_26⟩ := im0 hI4
    replace b_15 : 1 ≤ rt := b_15
    replace b_16 : rt ≤ 1024 := b_16
    replace b_17 : fl ≤ 12 := b_17
    replace b_18 : pe ≤ 24 := b_18
    replace b_19 : le ≤ 700 := b_19
    replace b_20 : qu ≤ 12 := b_20
    replace b_21 : n_4 ≤ 8 := b_21
    replace b_22 : n_5 ≤ 24 := b_22
    replace b_23 : tk ≤ 24 := b_23
    replace b_24 : il ≤ 700 := b_24
    replace b_25 : nx ≤ 701 := b_25
    replace b_26 : st ≤ 701 := b_26
    have h_7 : Φ4 x = some (o_ 14 [.int v_3, .ref (x + 1), .ref (x + 2), .int ti, .int ra, .int (nI rt), .int ex, .int ad, .ref (x + 3), .ref (x + 4), .int me, .long se, .ref (x + 5), .int (nI fl), .int dr, .long ob, .long sa, .long sn, .long us, .ref (x + 6), .ref (x + 7), .int (nI pe), .ref (x + 8), .int (nI le), .ref (x + 9), .ref (x + 10), .int (nI qu), .ref (x + 11), .ref (x + 12), .ref (x + 13), .ref (x + 14), .ref (x + 15), .ref (x + 16), .int (nI n_4), .long v_4, .ref (x + 17), .ref (x + 18), .ref (x + 19), .ref (x + 20), .ref (x + 21), .ref (x + 22), .int (nI n_5), .ref (x + 23), .ref (x + 24), .int (nI tk), .ref (x + 25), .int (nI il), .int (nI nx), .int ec, .int ep, .int kn, .int (nI st), .int nu, .long va]) := h_6
    refine z_callV (As := [.int a, .int b, .int d, .int f, .int (nI n_3)]) (rest := []) B (r_truthOf G l Φ4 sz x rd nw cr tp tt sI sT pt ql fl pe le nx il qu kn ec nu va st ep ti ad ob ra rt ex sa us tk v_3 me dr se sn a b d f n_3 hx hI4 (show n_3 < 2 by omega) hnw) (cwV 5 B.1.2.2.2.2 gX12_truth_X12_truthOf rfl rfl rfl (by decide +kernel) ⟨Nat.le_of_ble_eq_true rfl, Nat.le_of_ble_eq_true rfl⟩) h_7 rfl rfl rfl rfl (Nat.le_of_ble_eq_true rfl) dX12_truth_38 ⟨Nat.le_of_ble_eq_true rfl, Nat.le_of_ble_eq_true rfl⟩ (fun r_4 Φ5 sz4 st4 hp4 hs4 => ?_)
    obtain ⟨⟨v_5, rfl⟩, hq4, hI5, hF4⟩ := hp4
    subst sz4
    replace hs4 : st4 = [.long v_5] := hs4
    subst st4
    replace hI5 : Im G x (rd, nw, cr, tp, tt, sI, sT, pt, ql, fl, pe, le, nx, il, qu, kn, ec, nu, va, st, ep, ti, ad, ob, ra, rt, ex, sa, us, tk, v_3, me, dr, se, sn) Φ5 := hI5
    exact z_ret_l B dX12_truth_41 ⟨⟨_, rfl⟩, rfl, ⟨v_3, hI5⟩, (fun b9 h9 => ((hF4 b9 (fun j9 h8 h7 => (show False from h7).elim)).trans ((hF3 b9 h9).trans ((hF1 b9 (fun j9 h8 h7 => (show False from h7).elim)).trans ((fset_fr hΦ1 (fun h8 => h9 (0) h8 (show 0 = 0 by decide))).trans rfl)))))⟩

theorem hu_X12_covered_X12 : ∀ w ∈ u_ws RX12 TX12 54, w ∈ wsX12_covered := fun _ h => List.mem_cons_of_mem _ (List.mem_append_left _ (List.mem_append_right _ (h)))

theorem hv_X12_covered_1 : Cond.fieldLink RX12 1 "FlowExporterModel" (TX12 0).2.1 (TX12 0).2.2.1 ∈ wsX12_covered := List.mem_cons_of_mem _ (List.mem_append_left _ (List.mem_append_left _ (List.mem_append_left _ (List.mem_of_getElem? (i := 0) rfl))))

theorem hv_X12_covered_148 : Cond.fieldLink RX12 148 "FlowExporterModel" (TX12 41).2.1 (TX12 41).2.2.1 ∈ wsX12_covered := List.mem_cons_of_mem _ (List.mem_append_left _ (List.mem_append_left _ (List.mem_append_left _ (List.mem_of_getElem? (i := 1) rfl))))

theorem hv_X12_covered_69 : Cond.fieldLink RX12 69 "FlowExporterModel" (TX12 37).2.1 (TX12 37).2.2.1 ∈ wsX12_covered := List.mem_cons_of_mem _ (List.mem_append_left _ (List.mem_append_left _ (List.mem_append_left _ (List.mem_of_getElem? (i := 2) rfl))))

set_option maxHeartbeats 4000000 in
set_option maxRecDepth 100000 in
theorem r_covered (G : EnvG) (l : Launch) (Φ : Hm) (sz x : Nat) (rd : (Nat → Int32) → Prop) (nw : (Nat → Int32) → Prop) (cr : (Nat → Int64) → Prop) (tp : (Nat → Int32) → Prop) (tt : (Nat → Int64) → Prop) (sI : (Nat → Int32) → Prop) (sT : (Nat → Int32) → Prop) (pt : (Nat → Int32) → Prop) (ql : (Nat → Int32) → Prop) (fl : Nat) (pe : Nat) (le : Nat) (nx : Nat) (il : Nat) (qu : Nat) (kn : Int32) (ec : Int32) (nu : Int32) (va : Int64) (st : Nat) (ep : Int32) (ti : Int32) (ad : Int32) (ob : Int64) (ra : Int32) (rt : Nat) (ex : Int32) (sa : Int64) (us : Int64) (tk : Nat) (th : Int32) (me : Int32) (dr : Int32) (se : Int64) (sn : Int64) (a : Int32) (hx : G.2.2.2 ≤ x) (hI : Im G x (rd, nw, cr, tp, tt, sI, sT, pt, ql, fl, pe, le, nx, il, qu, kn, ec, nu, va, st, ep, ti, ad, ob, ra, rt, ex, sa, us, tk, th, me, dr, se, sn) Φ) (hnw : ∀ f9 : Nat → Int32, nw f9 → NN f9) : Ct G l yX12_covered wsX12_covered ({ frames := 5, cells := 0, slots := 0, locals := 120 }) 0 0 [.ref x, .int a] Φ sz (fun v Φ1 sz1 => (∃ r9 : Int32, v = some (.int r9)) ∧ sz1 = sz ∧ (∃ (th1 : Int32), Im G x (rd, nw, cr, tp, tt, sI, sT, pt, ql, fl, pe, le, nx, il, qu, kn, ec, nu, va, st, ep, ti, ad, ob, ra, rt, ex, sa, us, tk, th1, me, dr, se, sn) Φ1) ∧ Fr x (fun j9 => j9 = 0) Φ Φ1) := by
  refine Ct.of (cc := cX12_covered) (maxL := 6) (ret := (some .int)) (by decide) rfl (Nat.le_of_ble_eq_true rfl) ?_
  intro p9 e9 s9 m9 w9 t9 k9 B
  show Z p9 l e9 _ s9 m9 _ w9 t9 k9 _ G 6 0 [(0, .ref x), (1, .int a)] [] Φ sz 0 0
  refine z_aload_n B dX12_covered_0 rfl 0 rfl ?_
  refine z_iconst (v := 0) B dX12_covered_1 rfl ?_
  obtain ⟨n_1, v_1, n_2, h_1, b_13, b_1, b_2, b_3, b_4, b_5, b_6, b_7, b_8, b_9, b_10, b_11, b_12⟩ := im0 hI
  replace b_1 : 1 ≤ rt := b_1
  replace b_2 : rt ≤ 1024 := b_2
  replace b_3 : fl ≤ 12 := b_3
  replace b_4 : pe ≤ 24 := b_4
  replace b_5 : le ≤ 700 := b_5
  replace b_6 : qu ≤ 12 := b_6
  replace b_7 : n_1 ≤ 8 := b_7
  replace b_8 : n_2 ≤ 24 := b_8
  replace b_9 : tk ≤ 24 := b_9
  replace b_10 : il ≤ 700 := b_10
  replace b_11 : nx ≤ 701 := b_11
  replace b_12 : st ≤ 701 := b_12
  have h_2 : Φ x = some (o_ 14 [.int th, .ref (x + 1), .ref (x + 2), .int ti, .int ra, .int (nI rt), .int ex, .int ad, .ref (x + 3), .ref (x + 4), .int me, .long se, .ref (x + 5), .int (nI fl), .int dr, .long ob, .long sa, .long sn, .long us, .ref (x + 6), .ref (x + 7), .int (nI pe), .ref (x + 8), .int (nI le), .ref (x + 9), .ref (x + 10), .int (nI qu), .ref (x + 11), .ref (x + 12), .ref (x + 13), .ref (x + 14), .ref (x + 15), .ref (x + 16), .int (nI n_1), .long v_1, .ref (x + 17), .ref (x + 18), .ref (x + 19), .ref (x + 20), .ref (x + 21), .ref (x + 22), .int (nI n_2), .ref (x + 23), .ref (x + 24), .int (nI tk), .ref (x + 25), .int (nI il), .int (nI nx), .int ec, .int ep, .int kn, .int (nI st), .int nu, .long va]) := h_1
  refine z_put (ref := "FlowExporterModel") (C := RX12) (T := TX12) (N := 54) (ci := 14) (v := .int 0) B hu_X12_covered_X12 tyX12 tyX12_ok nmX12 rfl 0 (Nat.le_of_ble_eq_true rfl) hv_X12_covered_1 rfl (Or.inl rfl) h_2 hx rfl rfl (Nat.le_of_ble_eq_true rfl) dX12_covered_2 (fun Φ1 hΦ1 => ?_)
  have h_3 : Φ1 x = some (o_ 14 [.int 0, .ref (x + 1), .ref (x + 2), .int ti, .int ra, .int (nI rt), .int ex, .int ad, .ref (x + 3), .ref (x + 4), .int me, .long se, .ref (x + 5), .int (nI fl), .int dr, .long ob, .long sa, .long sn, .long us, .ref (x + 6), .ref (x + 7), .int (nI pe), .ref (x + 8), .int (nI le), .ref (x + 9), .ref (x + 10), .int (nI qu), .ref (x + 11), .ref (x + 12), .ref (x + 13), .ref (x + 14), .ref (x + 15), .ref (x + 16), .int (nI n_1), .long v_1, .ref (x + 17), .ref (x + 18), .ref (x + 19), .ref (x + 20), .ref (x + 21), .ref (x + 22), .int (nI n_2), .ref (x + 23), .ref (x + 24), .int (nI tk), .ref (x + 25), .int (nI il), .int (nI nx), .int ec, .int ep, .int kn, .int (nI st), .int nu, .long va]) := fset_at hΦ1
  have hI1 : Im G x (rd, nw, cr, tp, tt, sI, sT, pt, ql, fl, pe, le, nx, il, qu, kn, ec, nu, va, st, ep, ti, ad, ob, ra, rt, ex, sa, us, tk, 0, me, dr, se, sn) Φ1 := Im.put0 hI hΦ1 ⟨n_1, v_1, n_2, rfl, b_13, b_1, b_2, b_3, b_4, b_5, b_6, b_7, b_8, b_9, b_10, b_11, b_12⟩
  refine z_aload_n B dX12_covered_5 rfl 0 rfl ?_
  refine z_iload_n B dX12_covered_6 rfl 1 rfl ?_
  refine z_callS (As := [.int a]) (rest := [.ref x]) B (r_isWhat G l Φ1 sz x rd nw cr tp tt sI sT pt ql fl pe le nx il qu kn ec nu va st ep ti ad ob ra rt ex sa us tk 0 me dr se sn a hx hI1 hnw) (va_cwS 1 B.1.2.2.2.2 gX12_covered_X12_isWhat rfl rfl rfl (by decide +kernel) ⟨Nat.le_of_ble_eq_true rfl, Nat.le_of_ble_eq_true rfl⟩) rfl rfl (Nat.le_of_ble_eq_true rfl) dX12_covered_7 ⟨Nat.le_of_ble_eq_true rfl, Nat.le_of_ble_eq_true rfl⟩ (fun r_1 Φ2 sz1 st1 hp1 hs1 => ?_)
  obtain ⟨ha1, hq1, hI2, hF1⟩ := hp1
  subst sz1
  replace hI2 : Im G x (rd, nw, cr, tp, tt, sI, sT, pt, ql, fl, pe, le, nx, il, qu, kn, ec, nu, va, st, ep, ti, ad, ob, ra, rt, ex, sa, us, tk, 0, me, dr, se, sn) Φ2 := hI2
  rcases ha1 with rfl | ⟨rfl, n_3, b_14, rfl⟩
  · replace hs1 : st1 = [.int 0, .ref x] := hs1
    subst st1
    refine z_if_ne (tgt := 17) B dX12_covered_10 rfl (fun h9 => absurd (by decide) h9) (fun c_1 => ?_)
    refine z_iconst (v := 1) B dX12_covered_13 rfl ?_
    refine z_goto (tgt := 18) B dX12_covered_14 rfl ?_
    refine z_iconst (v := 1) B dX12_covered_18 rfl ?_
    have h_4 : Φ2 x = some (o_ 14 [.int 0, .ref (x + 1), .ref (x + 2), .int ti, .int ra, .int (nI rt), .int ex, .int ad, .ref (x + 3), .ref (x + 4), .int me, .long se, .ref (x + 5), .int (nI fl), .int dr, .long ob, .long sa, .long sn, .long us, .ref (x + 6), .ref (x + 7), .int (nI pe), .ref (x + 8), .int (nI le), .ref (x + 9), .ref (x + 10), .int (nI qu), .ref (x + 11), .ref (x + 12), .ref (x + 13), .ref (x + 14), .ref (x + 15), .ref (x + 16), .int (nI n_1), .long v_1, .ref (x + 17), .ref (x + 18), .ref (x + 19), .ref (x + 20), .ref (x + 21), .ref (x + 22), .int (nI n_2), .ref (x + 23), .ref (x + 24), .int (nI tk), .ref (x + 25), .int (nI il), .int (nI nx), .int ec, .int ep, .int kn, .int (nI st), .int nu, .long va]) := ((hF1 x (fun j9 h8 h7 => (show False from h7).elim)).trans h_3)
    refine z_callV (As := [.int 1, .int 1]) (rest := []) B (r_throwsIf G l Φ2 sz x rd nw cr tp tt sI sT pt ql fl pe le nx il qu kn ec nu va st ep ti ad ob ra rt ex sa us tk 0 me dr se sn 1 1 hx hI2 (by decide) hnw) (cwV 2 B.1.2.2.2.2 gX12_covered_X12_throwsIf rfl rfl rfl (by decide +kernel) ⟨Nat.le_of_ble_eq_true rfl, Nat.le_of_ble_eq_true rfl⟩) h_4 rfl rfl rfl rfl (Nat.le_of_ble_eq_true rfl) dX12_covered_19 ⟨Nat.le_of_ble_eq_true rfl, Nat.le_of_ble_eq_true rfl⟩ (fun r_2 Φ3 sz2 st2 hp2 hs2 => ?_)
    obtain ⟨rfl, hq2, ⟨v_2, hI3⟩, hF2⟩ := hp2
    subst sz2
    replace hs2 : st2 = [.int 1] := hs2
    subst st2
    replace hI3 : Im G x (rd, nw, cr, tp, tt, sI, sT, pt, ql, fl, pe, le, nx, il, qu, kn, ec, nu, va, st, ep, ti, ad, ob, ra, rt, ex, sa, us, tk, v_2, me, dr, se, sn) Φ3 := hI3
    refine z_if_eq (tgt := 27) B dX12_covered_22 rfl (fun h9 => absurd h9 (by decide)) (fun c_2 => ?_)
    refine z_iconst (v := 0) B dX12_covered_25 rfl ?_
    exact z_ret_i B dX12_covered_26 ⟨⟨_, rfl⟩, rfl, ⟨v_2, hI3⟩, (fun b9 h9 => ((hF2 b9 h9).trans ((hF1 b9 (fun j9 h8 h7 => (show False from h7).elim)).trans ((fset_fr hΦ1 (fun h8 => h9 (0) h8 (show 0 = 0 by decide))).trans rfl))))⟩
  · replace hs1 : st1 = [.int 1, .ref x] := hs1
    subst st1
    replace b_14 : n_3 < 2 := b_14
    refine z_if_ne (tgt := 17) B dX12_covered_10 rfl (fun c_3 => ?_) (fun h9 => absurd h9 (by decide))
    refine z_iconst (v := 0) B dX12_covered_17 rfl ?_
    refine z_iconst (v := 1) B dX12_covered_18 rfl ?_
    have h_5 : Φ2 x = some (o_ 14 [.int 0, .ref (x + 1), .ref (x + 2), .int ti, .int ra, .int (nI rt), .int ex, .int ad, .ref (x + 3), .ref (x + 4), .int me, .long se, .ref (x + 5), .int (nI fl), .int dr, .long ob, .long sa, .long sn, .long us, .ref (x + 6), .ref (x + 7), .int (nI pe), .ref (x + 8), .int (nI le), .ref (x + 9), .ref (x + 10), .int (nI qu), .ref (x + 11), .ref (x + 12), .ref (x + 13), .ref (x + 14), .ref (x + 15), .ref (x + 16), .int (nI n_1), .long v_1, .ref (x + 17), .ref (x + 18), .ref (x + 19), .ref (x + 20), .ref (x + 21), .ref (x + 22), .int (nI n_2), .ref (x + 23), .ref (x + 24), .int (nI tk), .ref (x + 25), .int (nI il), .int (nI nx), .int ec, .int ep, .int kn, .int (nI st), .int nu, .long va]) := ((hF1 x (fun j9 h8 h7 => (show False from h7).elim)).trans h_3)
    refine z_callV (As := [.int 0, .int 1]) (rest := []) B (r_throwsIf G l Φ2 sz x rd nw cr tp tt sI sT pt ql fl pe le nx il qu kn ec nu va st ep ti ad ob ra rt ex sa us tk 0 me dr se sn 0 1 hx hI2 (by decide) hnw) (cwV 2 B.1.2.2.2.2 gX12_covered_X12_throwsIf rfl rfl rfl (by decide +kernel) ⟨Nat.le_of_ble_eq_true rfl, Nat.le_of_ble_eq_true rfl⟩) h_5 rfl rfl rfl rfl (Nat.le_of_ble_eq_true rfl) dX12_covered_19 ⟨Nat.le_of_ble_eq_true rfl, Nat.le_of_ble_eq_true rfl⟩ (fun r_3 Φ4 sz3 st3 hp3 hs3 => ?_)
    obtain ⟨rfl, hq3, ⟨v_3, hI4⟩, hF3⟩ := hp3
    subst sz3
    replace hs3 : st3 = [.int 0] := hs3
    subst st3
    replace hI4 : Im G x (rd, nw, cr, tp, tt, sI, sT, pt, ql, fl, pe, le, nx, il, qu, kn, ec, nu, va, st, ep, ti, ad, ob, ra, rt, ex, sa, us, tk, v_3, me, dr, se, sn) Φ4 := hI4
    refine z_if_eq (tgt := 27) B dX12_covered_22 rfl (fun c_4 => ?_) (fun h9 => absurd (by decide) h9)
    refine z_iconst (v := 0) B dX12_covered_27 rfl ?_
    refine z_istore_n (lv' := [(2, .int 0), (0, .ref x), (1, .int (nI n_3))]) B dX12_covered_28 rfl (Nat.le_of_ble_eq_true rfl) rfl ?_
    refine z_iconst (v := 0) B dX12_covered_29 rfl ?_
    refine z_istore_n (lv' := [(3, .int 0), (2, .int 0), (0, .ref x), (1, .int (nI n_3))]) B dX12_covered_30 rfl (Nat.le_of_ble_eq_true rfl) rfl ?_
    refine z_lv [0, 1, 2, 3] rfl ?_
    refine z_loop (α := Nat × Int32) (fun (a9 : Nat × Int32) Φi => Im G x (rd, nw, cr, tp, tt, sI, sT, pt, ql, fl, pe, le, nx, il, qu, kn, ec, nu, va, st, ep, ti, ad, ob, ra, rt, ex, sa, us, tk, v_3, me, dr, se, sn) Φi ∧ Fr x (fun j9 => False) Φ4 Φi ∧ (a9.1 ≤ 24) ∧ True) (fun a9 => [(3, .int (nI (a9.1))), (2, .int a9.2), (0, .ref x), (1, .int (nI n_3))]) (fun a9 => 24 - a9.1) ?_ (0, 0) ⟨hI4, fun _ _ => rfl, (show 0 ≤ 24 by omega), trivial⟩
    rintro ⟨i_1, i_2⟩ Φl1 ⟨hI5, hF4, b_15, -⟩ ih1
    replace hI5 : Im G x (rd, nw, cr, tp, tt, sI, sT, pt, ql, fl, pe, le, nx, il, qu, kn, ec, nu, va, st, ep, ti, ad, ob, ra, rt, ex, sa, us, tk, v_3, me, dr, se, sn) Φl1 := hI5
    replace b_15 : i_1 ≤ 24 := b_15
    show Z p9 l e9 _ s9 m9 _ w9 t9 k9 _ G 6 31 [(3, .int (nI i_1)), (2, .int i_2), (0, .ref x), (1, .int (nI n_3))] [] Φl1 _ _ _
    refine z_iload_n B dX12_covered_31 rfl 0 rfl ?_
    refine z_aload_n B dX12_covered_32 rfl 2 rfl ?_
    obtain ⟨n_4, v_4, n_5, h_6, b_28, b_16, b_17, b_18, b_19, b_20, b_21, b_22, b_23, b_24, b_25, b_26, b_27⟩ := im0 hI5
    replace b_16 : 1 ≤ rt := b_16
    replace b_17 : rt ≤ 1024 := b_17
    replace b_18 : fl ≤ 12 := b_18
    replace b_19 : pe ≤ 24 := b_19
    replace b_20 : le ≤ 700 := b_20
    replace b_21 : qu ≤ 12 := b_21
    replace b_22 : n_4 ≤ 8 := b_22
    replace b_23 : n_5 ≤ 24 := b_23
    replace b_24 : tk ≤ 24 := b_24
    replace b_25 : il ≤ 700 := b_25
    replace b_26 : nx ≤ 701 := b_26
    replace b_27 : st ≤ 701 := b_27
    have h_7 : Φl1 x = some (o_ 14 [.int v_3, .ref (x + 1), .ref (x + 2), .int ti, .int ra, .int (nI rt), .int ex, .int ad, .ref (x + 3), .ref (x + 4), .int me, .long se, .ref (x + 5), .int (nI fl), .int dr, .long ob, .long sa, .long sn, .long us, .ref (x + 6), .ref (x + 7), .int (nI pe), .ref (x + 8), .int (nI le), .ref (x + 9), .ref (x + 10), .int (nI qu), .ref (x + 11), .ref (x + 12), .ref (x + 13), .ref (x + 14), .ref (x + 15), .ref (x + 16), .int (nI n_4), .long v_4, .ref (x + 17), .ref (x + 18), .ref (x + 19), .ref (x + 20), .ref (x + 21), .ref (x + 22), .int (nI n_5), .ref (x + 23), .ref (x + 24), .int (nI tk), .ref (x + 25), .int (nI il), .int (nI nx), .int ec, .int ep, .int kn, .int (nI st), .int nu, .long va]) := h_6
    refine z_get (ref := "FlowExporterModel") (C := RX12) (T := TX12) (N := 54) (ci := 14) (v := .int (nI n_5)) B hu_X12_covered_X12 rfl 41 (Nat.le_of_ble_eq_true rfl) hv_X12_covered_148 rfl h_7 rfl dX12_covered_33 ?_
    refine z_icmp_ge (tgt := 123) B dX12_covered_36 rfl (fun c_5 => ?_) (fun c_5 => ?_)
    · have e_1 : n_5 ≤ i_1 := (nI_leI (a := n_5) (b := i_1) (by omega) (by omega)).mp c_5
      refine z_iload_n B dX12_covered_123 rfl 1 rfl ?_
      exact z_ret_i B dX12_covered_124 ⟨⟨_, rfl⟩, rfl, ⟨v_3, hI5⟩, (fun b9 h9 => ((hF4 b9 (fun j9 h8 h7 => (show False from h7).elim)).trans ((hF3 b9 h9).trans ((hF1 b9 (fun j9 h8 h7 => (show False from h7).elim)).trans ((fset_fr hΦ1 (fun h8 => h9 (0) h8 (show 0 = 0 by decide))).trans rfl)))))⟩
    · have e_2 : ¬ (n_5 ≤ i_1) := fun h9 => c_5 ((nI_leI (a := n_5) (b := i_1) (by omega) (by omega)).mpr h9)
      refine z_aload_n B dX12_covered_39 rfl 2 rfl ?_
      refine z_aload_n B dX12_covered_40 rfl 2 rfl ?_
      refine z_get (ref := "FlowExporterModel") (C := RX12) (T := TX12) (N := 54) (ci := 14) (v := .ref (x + 19)) B hu_X12_covered_X12 rfl 37 (Nat.le_of_ble_eq_true rfl) hv_X12_covered_69 rfl h_7 rfl dX12_covered_41 ?_
      refine z_iconst (v := 4) B dX12_covered_44 rfl ?_
      refine z_iload_n B dX12_covered_45 rfl 0 rfl ?_
      refine z_imul B dX12_covered_46 ?_
      refine z_top (st1 := [.int (nI (4 * i_1)), .ref (x + 19), .ref x]) (congrArg (fun w9 : Int32 => ([.int w9, .ref (x + 19), .ref x] : List Value)) (nI_mul 4 i_1)) ?_
      obtain ⟨f_1, h_8⟩ := imk (k := 19) hI5
      have h_9 : Φl1 (x + 19) = some (ai_ G 96 f_1) := h_8
      refine z_iald B h_9 (vp_in_nI (by omega) (by omega)) dX12_covered_47 ?_
      refine z_fi (fun v_5 => ?_)
      refine z_aload_n B dX12_covered_48 rfl 2 rfl ?_
      refine z_get (ref := "FlowExporterModel") (C := RX12) (T := TX12) (N := 54) (ci := 14) (v := .ref (x + 19)) B hu_X12_covered_X12 rfl 37 (Nat.le_of_ble_eq_true rfl) hv_X12_covered_69 rfl h_7 rfl dX12_covered_49 ?_
      refine z_iconst (v := 4) B dX12_covered_52 rfl ?_
      refine z_iload_n B dX12_covered_53 rfl 0 rfl ?_
      refine z_imul B dX12_covered_54 ?_
      refine z_top (st1 := [.int (nI (4 * i_1)), .ref (x + 19), .int v_5, .ref x]) (congrArg (fun w9 : Int32 => ([.int w9, .ref (x + 19), .int v_5, .ref x] : List Value)) (nI_mul 4 i_1)) ?_
      refine z_iconst (v := 1) B dX12_covered_55 rfl ?_
      refine z_iadd B dX12_covered_56 ?_
      refine z_top (st1 := [.int (nI (4 * i_1 + 1)), .ref (x + 19), .int v_5, .ref x]) (congrArg (fun w9 : Int32 => ([.int w9, .ref (x + 19), .int v_5, .ref x] : List Value)) (nI_add (4 * i_1) 1)) ?_
      refine z_iald B h_9 (vp_in_nI (by omega) (by omega)) dX12_covered_57 ?_
      refine z_fi (fun v_6 => ?_)
      refine z_aload_n B dX12_covered_58 rfl 2 rfl ?_
      refine z_get (ref := "FlowExporterModel") (C := RX12) (T := TX12) (N := 54) (ci := 14) (v := .ref (x + 19)) B hu_X12_covered_X12 rfl 37 (Nat.le_of_ble_eq_true rfl) hv_X12_covered_69 rfl h_7 rfl dX12_covered_59 ?_
      refine z_iconst (v := 4) B dX12_covered_62 rfl ?_
      refine z_iload_n B dX12_covered_63 rfl 0 rfl ?_
      refine z_imul B dX12_covered_64 ?_
      refine z_top (st1 := [.int (nI (4 * i_1)), .ref (x + 19), .int v_6, .int v_5, .ref x]) (congrArg (fun w9 : Int32 => ([.int w9, .ref (x + 19), .int v_6, .int v_5, .ref x] : List Value)) (nI_mul 4 i_1)) ?_
      refine z_iconst (v := 2) B dX12_covered_65 rfl ?_
      refine z_iadd B dX12_covered_66 ?_
      refine z_top (st1 := [.int (nI (4 * i_1 + 2)), .ref (x + 19), .int v_6, .int v_5, .ref x]) (congrArg (fun w9 : Int32 => ([.int w9, .ref (x + 19), .int v_6, .int v_5, .ref x] : List Value)) (nI_add (4 * i_1) 2)) ?_
      refine z_iald B h_9 (vp_in_nI (by omega) (by omega)) dX12_covered_67 ?_
      refine z_fi (fun v_7 => ?_)
      refine z_aload_n B dX12_covered_68 rfl 2 rfl ?_
      refine z_get (ref := "FlowExporterModel") (C := RX12) (T := TX12) (N := 54) (ci := 14) (v := .ref (x + 19)) B hu_X12_covered_X12 rfl 37 (Nat.le_of_ble_eq_true rfl) hv_X12_covered_69 rfl h_7 rfl dX12_covered_69 ?_
      refine z_iconst (v := 4) B dX12_covered_72 rfl ?_
      refine z_iload_n B dX12_covered_73 rfl 0 rfl ?_
      refine z_imul B dX12_covered_74 ?_
      refine z_top (st1 := [.int (nI (4 * i_1)), .ref (x + 19), .int v_7, .int v_6, .int v_5, .ref x]) (congrArg (fun w9 : Int32 => ([.int w9, .ref (x + 19), .int v_7, .int v_6, .int v_5, .ref x] : List Value)) (nI_mul 4 i_1)) ?_
      refine z_iconst (v := 3) B dX12_covered_75 rfl ?_
      refine z_iadd B dX12_covered_76 ?_
      refine z_top (st1 := [.int (nI (4 * i_1 + 3)), .ref (x + 19), .int v_7, .int v_6, .int v_5, .ref x]) (congrArg (fun w9 : Int32 => ([.int w9, .ref (x + 19), .int v_7, .int v_6, .int v_5, .ref x] : List Value)) (nI_add (4 * i_1) 3)) ?_
      refine z_iald B h_9 (vp_in_nI (by omega) (by omega)) dX12_covered_77 ?_
      refine z_fi (fun v_8 => ?_)
      refine z_iload_n B dX12_covered_78 rfl 3 rfl ?_
      refine z_callV (As := [.int v_5, .int v_6, .int v_7, .int v_8, .int (nI n_3)]) (rest := []) B (r_truthOf G l Φl1 sz x rd nw cr tp tt sI sT pt ql fl pe le nx il qu kn ec nu va st ep ti ad ob ra rt ex sa us tk v_3 me dr se sn v_5 v_6 v_7 v_8 n_3 hx hI5 (show n_3 < 2 by omega) hnw) (cwV 5 B.1.2.2.2.2 gX12_covered_X12_truthOf rfl rfl rfl (by decide +kernel) ⟨Nat.le_of_ble_eq_true rfl, Nat.le_of_ble_eq_true rfl⟩) h_7 rfl rfl rfl rfl (Nat.le_of_ble_eq_true rfl) dX12_covered_79 ⟨Nat.le_of_ble_eq_true rfl, Nat.le_of_ble_eq_true rfl⟩ (fun r_5 Φ5 sz4 st4 hp4 hs4 => ?_)
      obtain ⟨⟨v_9, rfl⟩, hq4, hI6, hF5⟩ := hp4
      subst sz4
      replace hs4 : st4 = [.long v_9] := hs4
      subst st4
      replace hI6 : Im G x (rd, nw, cr, tp, tt, sI, sT, pt, ql, fl, pe, le, nx, il, qu, kn, ec, nu, va, st, ep, ti, ad, ob, ra, rt, ex, sa, us, tk, v_3, me, dr, se, sn) Φ5 := hI6
      refine z_l2d B dX12_covered_82 ?_
      refine z_fdq (P := fun u9 : UInt64 => sm64 12 u9) (l2d_sm v_9) (fun v_10 q_2 => ?_)
      replace q_2 : sm64 12 v_10 := q_2
      refine z_dstore (lv' := [(4, .double v_10), (3, .int (nI i_1)), (2, .int i_2), (0, .ref x), (1, .int (nI n_3))]) B dX12_covered_83 (Nat.le_of_ble_eq_true rfl) rfl ?_
      refine z_iload_n B dX12_covered_85 rfl 2 rfl ?_
      refine z_dload B dX12_covered_86 0 rfl ?_
      refine z_aload_n B dX12_covered_88 rfl 3 rfl ?_
      refine z_iload_n B dX12_covered_89 rfl 1 rfl ?_
      refine z_iload_n B dX12_covered_90 rfl 4 rfl ?_
      have h_10 : Φ5 x = some (o_ 14 [.int v_3, .ref (x + 1), .ref (x + 2), .int ti, .int ra, .int (nI rt), .int ex, .int ad, .ref (x + 3), .ref (x + 4), .int me, .long se, .ref (x + 5), .int (nI fl), .int dr, .long ob, .long sa, .long sn, .long us, .ref (x + 6), .ref (x + 7), .int (nI pe), .ref (x + 8), .int (nI le), .ref (x + 9), .ref (x + 10), .int (nI qu), .ref (x + 11), .ref (x + 12), .ref (x + 13), .ref (x + 14), .ref (x + 15), .ref (x + 16), .int (nI n_4), .long v_4, .ref (x + 17), .ref (x + 18), .ref (x + 19), .ref (x + 20), .ref (x + 21), .ref (x + 22), .int (nI n_5), .ref (x + 23), .ref (x + 24), .int (nI tk), .ref (x + 25), .int (nI il), .int (nI nx), .int ec, .int ep, .int kn, .int (nI st), .int nu, .long va]) := ((hF5 x (fun j9 h8 h7 => (show False from h7).elim)).trans h_7)
      refine z_callV (As := [.int (nI i_1), .int (nI n_3)]) (rest := [.double v_10, .int i_2]) B (r_lowerOf G l Φ5 sz x rd nw cr tp tt sI sT pt ql fl pe le nx il qu kn ec nu va st ep ti ad ob ra rt ex sa us tk v_3 me dr se sn i_1 n_3 hx hI6 (show i_1 < 24 by omega) (show n_3 < 2 by omega) hnw) (cwV 2 B.1.2.2.2.2 gX12_covered_X12_lowerOf rfl rfl rfl (by decide +kernel) ⟨Nat.le_of_ble_eq_true rfl, Nat.le_of_ble_eq_true rfl⟩) h_10 rfl rfl rfl rfl (Nat.le_of_ble_eq_true rfl) dX12_covered_91 ⟨Nat.le_of_ble_eq_true rfl, Nat.le_of_ble_eq_true rfl⟩ (fun r_6 Φ6 sz5 st5 hp5 hs5 => ?_)
      obtain ⟨⟨v_11, rfl, q_3⟩, hq5, hI7, hF6⟩ := hp5
      subst sz5
      replace hs5 : st5 = [.double v_11, .double v_10, .int i_2] := hs5
      subst st5
      replace hI7 : Im G x (rd, nw, cr, tp, tt, sI, sT, pt, ql, fl, pe, le, nx, il, qu, kn, ec, nu, va, st, ep, ti, ad, ob, ra, rt, ex, sa, us, tk, v_3, me, dr, se, sn) Φ6 := hI7
      refine z_dcmp B dX12_covered_94 ?_
      refine z_fi (fun v_12 => ?_)
      refine z_if_lt (tgt := 114) B dX12_covered_95 rfl (fun c_6 => ?_) (fun c_6 => ?_)
      · refine z_iconst (v := 0) B dX12_covered_114 rfl ?_
        refine z_iadd B dX12_covered_115 ?_
        refine z_fi (fun v_13 => ?_)
        refine z_istore_n (lv' := [(2, .int v_13), (4, .double v_10), (3, .int (nI i_1)), (0, .ref x), (1, .int (nI n_3))]) B dX12_covered_116 rfl (Nat.le_of_ble_eq_true rfl) rfl ?_
        refine z_iinc (k := 2) (v := nI (i_1 + 1)) (lv' := [(3, .int (nI (i_1 + 1))), (2, .int v_13), (4, .double v_10), (0, .ref x), (1, .int (nI n_3))]) B dX12_covered_117 rfl (nI_add i_1 1) (Nat.le_of_ble_eq_true rfl) rfl ?_
        refine z_goto (tgt := 31) B dX12_covered_120 rfl ?_
        refine z_lv [0, 1, 3, 4] rfl ?_
        exact ih1 (i_1 + 1, v_13) Φ6 (show 24 - (i_1 + 1) < 24 - i_1 by omega) ⟨hI7, (fun b9 h9 => ((hF6 b9 (fun j9 h8 h7 => (show False from h7).elim)).trans ((hF5 b9 (fun j9 h8 h7 => (show False from h7).elim)).trans ((hF4 b9 (fun j9 h8 h7 => (show False from h7).elim)).trans rfl)))), (show (i_1 + 1) ≤ 24 by omega), trivial⟩
      · obtain ⟨n_6, e_3, rfl⟩ := nI_of c_6
        refine z_dload B dX12_covered_98 0 rfl ?_
        refine z_aload_n B dX12_covered_100 rfl 3 rfl ?_
        refine z_iload_n B dX12_covered_101 rfl 1 rfl ?_
        refine z_iload_n B dX12_covered_102 rfl 4 rfl ?_
        have h_11 : Φ6 x = some (o_ 14 [.int v_3, .ref (x + 1), .ref (x + 2), .int ti, .int ra, .int (nI rt), .int ex, .int ad, .ref (x + 3), .ref (x + 4), .int me, .long se, .ref (x + 5), .int (nI fl), .int dr, .long ob, .long sa, .long sn, .long us, .ref (x + 6), .ref (x + 7), .int (nI pe), .ref (x + 8), .int (nI le), .ref (x + 9), .ref (x + 10), .int (nI qu), .ref (x + 11), .ref (x + 12), .ref (x + 13), .ref (x + 14), .ref (x + 15), .ref (x + 16), .int (nI n_4), .long v_4, .ref (x + 17), .ref (x + 18), .ref (x + 19), .ref (x + 20), .ref (x + 21), .ref (x + 22), .int (nI n_5), .ref (x + 23), .ref (x + 24), .int (nI tk), .ref (x + 25), .int (nI il), .int (nI nx), .int ec, .int ep, .int kn, .int (nI st), .int nu, .long va]) := ((hF6 x (fun j9 h8 h7 => (show False from h7).elim)).trans h_10)
        refine z_callV (As := [.int (nI i_1), .int (nI n_3)]) (rest := [.double v_10, .int i_2]) B (r_upperOf G l Φ6 sz x rd nw cr tp tt sI sT pt ql fl pe le nx il qu kn ec nu va st ep ti ad ob ra rt ex sa us tk v_3 me dr se sn i_1 n_3 hx hI7 (show i_1 < 24 by omega) (show n_3 < 2 by omega) hnw) (cwV 2 B.1.2.2.2.2 gX12_covered_X12_upperOf rfl rfl rfl (by decide +kernel) ⟨Nat.le_of_ble_eq_true rfl, Nat.le_of_ble_eq_true rfl⟩) h_11 rfl rfl rfl rfl (Nat.le_of_ble_eq_true rfl) dX12_covered_103 ⟨Nat.le_of_ble_eq_true rfl, Nat.le_of_ble_eq_true rfl⟩ (fun r_7 Φ7 sz6 st6 hp6 hs6 => ?_)
        obtain ⟨⟨v_14, rfl, q_4⟩, hq6, hI8, hF7⟩ := hp6
        subst sz6
        replace hs6 : st6 = [.double v_14, .double v_10, .int i_2] := hs6
        subst st6
        replace hI8 : Im G x (rd, nw, cr, tp, tt, sI, sT, pt, ql, fl, pe, le, nx, il, qu, kn, ec, nu, va, st, ep, ti, ad, ob, ra, rt, ex, sa, us, tk, v_3, me, dr, se, sn) Φ7 := hI8
        refine z_dcmp B dX12_covered_106 ?_
        refine z_fi (fun v_15 => ?_)
        refine z_if_gt (tgt := 114) B dX12_covered_107 rfl (fun c_7 => ?_) (fun c_7 => ?_)
        · obtain ⟨n_7, e_5, e_4, rfl⟩ := nI_ofp (Int32.not_le.mpr c_7)
          refine z_iconst (v := 0) B dX12_covered_114 rfl ?_
          refine z_iadd B dX12_covered_115 ?_
          refine z_fi (fun v_16 => ?_)
          refine z_istore_n (lv' := [(2, .int v_16), (4, .double v_10), (3, .int (nI i_1)), (0, .ref x), (1, .int (nI n_3))]) B dX12_covered_116 rfl (Nat.le_of_ble_eq_true rfl) rfl ?_
          refine z_iinc (k := 2) (v := nI (i_1 + 1)) (lv' := [(3, .int (nI (i_1 + 1))), (2, .int v_16), (4, .double v_10), (0, .ref x), (1, .int (nI n_3))]) B dX12_covered_117 rfl (nI_add i_1 1) (Nat.le_of_ble_eq_true rfl) rfl ?_
          refine z_goto (tgt := 31) B dX12_covered_120 rfl ?_
          refine z_lv [0, 1, 3, 4] rfl ?_
          exact ih1 (i_1 + 1, v_16) Φ7 (show 24 - (i_1 + 1) < 24 - i_1 by omega) ⟨hI8, (fun b9 h9 => ((hF7 b9 (fun j9 h8 h7 => (show False from h7).elim)).trans ((hF6 b9 (fun j9 h8 h7 => (show False from h7).elim)).trans ((hF5 b9 (fun j9 h8 h7 => (show False from h7).elim)).trans ((hF4 b9 (fun j9 h8 h7 => (show False from h7).elim)).trans rfl))))), (show (i_1 + 1) ≤ 24 by omega), trivial⟩
        · refine z_iconst (v := 1) B dX12_covered_110 rfl ?_
          refine z_goto (tgt := 115) B dX12_covered_111 rfl ?_
          refine z_iadd B dX12_covered_115 ?_
          refine z_fi (fun v_17 => ?_)
          refine z_istore_n (lv' := [(2, .int v_17), (4, .double v_10), (3, .int (nI i_1)), (0, .ref x), (1, .int (nI n_3))]) B dX12_covered_116 rfl (Nat.le_of_ble_eq_true rfl) rfl ?_
          refine z_iinc (k := 2) (v := nI (i_1 + 1)) (lv' := [(3, .int (nI (i_1 + 1))), (2, .int v_17), (4, .double v_10), (0, .ref x), (1, .int (nI n_3))]) B dX12_covered_117 rfl (nI_add i_1 1) (Nat.le_of_ble_eq_true rfl) rfl ?_
          refine z_goto (tgt := 31) B dX12_covered_120 rfl ?_
          refine z_lv [0, 1, 3, 4] rfl ?_
          exact ih1 (i_1 + 1, v_17) Φ7 (show 24 - (i_1 + 1) < 24 - i_1 by omega) ⟨hI8, (fun b9 h9 => ((hF7 b9 (fun j9 h8 h7 => (show False from h7).elim)).trans ((hF6 b9 (fun j9 h8 h7 => (show False from h7).elim)).trans ((hF5 b9 (fun j9 h8 h7 => (show False from h7).elim)).trans ((hF4 b9 (fun j9 h8 h7 => (show False from h7).elim)).trans rfl))))), (show (i_1 + 1) ≤ 24 by omega), trivial⟩

theorem hu_X12_totalEstimate_X12 : ∀ w ∈ u_ws RX12 TX12 54, w ∈ wsX12_totalEstimate := fun _ h => List.mem_cons_of_mem _ (List.mem_append_left _ (List.mem_append_right _ (h)))

theorem hv_X12_totalEstimate_1 : Cond.fieldLink RX12 1 "FlowExporterModel" (TX12 0).2.1 (TX12 0).2.2.1 ∈ wsX12_totalEstimate := List.mem_cons_of_mem _ (List.mem_append_left _ (List.mem_append_left _ (List.mem_of_getElem? (i := 0) rfl)))

theorem hv_X12_totalEstimate_148 : Cond.fieldLink RX12 148 "FlowExporterModel" (TX12 41).2.1 (TX12 41).2.2.1 ∈ wsX12_totalEstimate := List.mem_cons_of_mem _ (List.mem_append_left _ (List.mem_append_left _ (List.mem_of_getElem? (i := 1) rfl)))

theorem hv_X12_totalEstimate_75 : Cond.fieldLink RX12 75 "FlowExporterModel" (TX12 39).2.1 (TX12 39).2.2.1 ∈ wsX12_totalEstimate := List.mem_cons_of_mem _ (List.mem_append_left _ (List.mem_append_left _ (List.mem_of_getElem? (i := 2) rfl)))

set_option maxHeartbeats 4000000 in
set_option maxRecDepth 100000 in
theorem r_totalEstimate (G : EnvG) (l : Launch) (Φ : Hm) (sz x : Nat) (rd : (Nat → Int32) → Prop) (nw : (Nat → Int32) → Prop) (cr : (Nat → Int64) → Prop) (tp : (Nat → Int32) → Prop) (tt : (Nat → Int64) → Prop) (sI : (Nat → Int32) → Prop) (sT : (Nat → Int32) → Prop) (pt : (Nat → Int32) → Prop) (ql : (Nat → Int32) → Prop) (fl : Nat) (pe : Nat) (le : Nat) (nx : Nat) (il : Nat) (qu : Nat) (kn : Int32) (ec : Int32) (nu : Int32) (va : Int64) (st : Nat) (ep : Int32) (ti : Int32) (ad : Int32) (ob : Int64) (ra : Int32) (rt : Nat) (ex : Int32) (sa : Int64) (us : Int64) (tk : Nat) (th : Int32) (me : Int32) (dr : Int32) (se : Int64) (sn : Int64) (a : Int32) (hx : G.2.2.2 ≤ x) (hI : Im G x (rd, nw, cr, tp, tt, sI, sT, pt, ql, fl, pe, le, nx, il, qu, kn, ec, nu, va, st, ep, ti, ad, ob, ra, rt, ex, sa, us, tk, th, me, dr, se, sn) Φ) (hnw : ∀ f9 : Nat → Int32, nw f9 → NN f9) : Ct G l yX12_totalEstimate wsX12_totalEstimate ({ frames := 2, cells := 0, slots := 0, locals := 45 }) 0 0 [.ref x, .int a] Φ sz (fun v Φ1 sz1 => (∃ r9 : Int64, v = some (.long r9)) ∧ sz1 = sz ∧ (∃ (th1 : Int32), Im G x (rd, nw, cr, tp, tt, sI, sT, pt, ql, fl, pe, le, nx, il, qu, kn, ec, nu, va, st, ep, ti, ad, ob, ra, rt, ex, sa, us, tk, th1, me, dr, se, sn) Φ1) ∧ Fr x (fun j9 => j9 = 0) Φ Φ1) := by
  refine Ct.of (cc := cX12_totalEstimate) (maxL := 5) (ret := (some .long)) (by decide) rfl (Nat.le_of_ble_eq_true rfl) ?_
  intro p9 e9 s9 m9 w9 t9 k9 B
  show Z p9 l e9 _ s9 m9 _ w9 t9 k9 _ G 5 0 [(0, .ref x), (1, .int a)] [] Φ sz 0 0
  refine z_aload_n B dX12_totalEstimate_0 rfl 0 rfl ?_
  refine z_iconst (v := 0) B dX12_totalEstimate_1 rfl ?_
  obtain ⟨n_1, v_1, n_2, h_1, b_13, b_1, b_2, b_3, b_4, b_5, b_6, b_7, b_8, b_9, b_10, b_11, b_12⟩ := im0 hI
  replace b_1 : 1 ≤ rt := b_1
  replace b_2 : rt ≤ 1024 := b_2
  replace b_3 : fl ≤ 12 := b_3
  replace b_4 : pe ≤ 24 := b_4
  replace b_5 : le ≤ 700 := b_5
  replace b_6 : qu ≤ 12 := b_6
  replace b_7 : n_1 ≤ 8 := b_7
  replace b_8 : n_2 ≤ 24 := b_8
  replace b_9 : tk ≤ 24 := b_9
  replace b_10 : il ≤ 700 := b_10
  replace b_11 : nx ≤ 701 := b_11
  replace b_12 : st ≤ 701 := b_12
  have h_2 : Φ x = some (o_ 14 [.int th, .ref (x + 1), .ref (x + 2), .int ti, .int ra, .int (nI rt), .int ex, .int ad, .ref (x + 3), .ref (x + 4), .int me, .long se, .ref (x + 5), .int (nI fl), .int dr, .long ob, .long sa, .long sn, .long us, .ref (x + 6), .ref (x + 7), .int (nI pe), .ref (x + 8), .int (nI le), .ref (x + 9), .ref (x + 10), .int (nI qu), .ref (x + 11), .ref (x + 12), .ref (x + 13), .ref (x + 14), .ref (x + 15), .ref (x + 16), .int (nI n_1), .long v_1, .ref (x + 17), .ref (x + 18), .ref (x + 19), .ref (x + 20), .ref (x + 21), .ref (x + 22), .int (nI n_2), .ref (x + 23), .ref (x + 24), .int (nI tk), .ref (x + 25), .int (nI il), .int (nI nx), .int ec, .int ep, .int kn, .int (nI st), .int nu, .long va]) := h_1
  refine z_put (ref := "FlowExporterModel") (C := RX12) (T := TX12) (N := 54) (ci := 14) (v := .int 0) B hu_X12_totalEstimate_X12 tyX12 tyX12_ok nmX12 rfl 0 (Nat.le_of_ble_eq_true rfl) hv_X12_totalEstimate_1 rfl (Or.inl rfl) h_2 hx rfl rfl (Nat.le_of_ble_eq_true rfl) dX12_totalEstimate_2 (fun Φ1 hΦ1 => ?_)
  have h_3 : Φ1 x = some (o_ 14 [.int 0, .ref (x + 1), .ref (x + 2), .int ti, .int ra, .int (nI rt), .int ex, .int ad, .ref (x + 3), .ref (x + 4), .int me, .long se, .ref (x + 5), .int (nI fl), .int dr, .long ob, .long sa, .long sn, .long us, .ref (x + 6), .ref (x + 7), .int (nI pe), .ref (x + 8), .int (nI le), .ref (x + 9), .ref (x + 10), .int (nI qu), .ref (x + 11), .ref (x + 12), .ref (x + 13), .ref (x + 14), .ref (x + 15), .ref (x + 16), .int (nI n_1), .long v_1, .ref (x + 17), .ref (x + 18), .ref (x + 19), .ref (x + 20), .ref (x + 21), .ref (x + 22), .int (nI n_2), .ref (x + 23), .ref (x + 24), .int (nI tk), .ref (x + 25), .int (nI il), .int (nI nx), .int ec, .int ep, .int kn, .int (nI st), .int nu, .long va]) := fset_at hΦ1
  have hI1 : Im G x (rd, nw, cr, tp, tt, sI, sT, pt, ql, fl, pe, le, nx, il, qu, kn, ec, nu, va, st, ep, ti, ad, ob, ra, rt, ex, sa, us, tk, 0, me, dr, se, sn) Φ1 := Im.put0 hI hΦ1 ⟨n_1, v_1, n_2, rfl, b_13, b_1, b_2, b_3, b_4, b_5, b_6, b_7, b_8, b_9, b_10, b_11, b_12⟩
  refine z_aload_n B dX12_totalEstimate_5 rfl 0 rfl ?_
  refine z_iload_n B dX12_totalEstimate_6 rfl 1 rfl ?_
  refine z_callS (As := [.int a]) (rest := [.ref x]) B (r_isWhat G l Φ1 sz x rd nw cr tp tt sI sT pt ql fl pe le nx il qu kn ec nu va st ep ti ad ob ra rt ex sa us tk 0 me dr se sn a hx hI1 hnw) (va_cwS 1 B.1.2.2.2.2 gX12_totalEstimate_X12_isWhat rfl rfl rfl (by decide +kernel) ⟨Nat.le_of_ble_eq_true rfl, Nat.le_of_ble_eq_true rfl⟩) rfl rfl (Nat.le_of_ble_eq_true rfl) dX12_totalEstimate_7 ⟨Nat.le_of_ble_eq_true rfl, Nat.le_of_ble_eq_true rfl⟩ (fun r_1 Φ2 sz1 st1 hp1 hs1 => ?_)
  obtain ⟨ha1, hq1, hI2, hF1⟩ := hp1
  subst sz1
  replace hI2 : Im G x (rd, nw, cr, tp, tt, sI, sT, pt, ql, fl, pe, le, nx, il, qu, kn, ec, nu, va, st, ep, ti, ad, ob, ra, rt, ex, sa, us, tk, 0, me, dr, se, sn) Φ2 := hI2
  rcases ha1 with rfl | ⟨rfl, n_3, b_14, rfl⟩
  · replace hs1 : st1 = [.int 0, .ref x] := hs1
    subst st1
    refine z_if_ne (tgt := 17) B dX12_totalEstimate_10 rfl (fun h9 => absurd (by decide) h9) (fun c_1 => ?_)
    refine z_iconst (v := 1) B dX12_totalEstimate_13 rfl ?_
    refine z_goto (tgt := 18) B dX12_totalEstimate_14 rfl ?_
    refine z_iconst (v := 1) B dX12_totalEstimate_18 rfl ?_
    have h_4 : Φ2 x = some (o_ 14 [.int 0, .ref (x + 1), .ref (x + 2), .int ti, .int ra, .int (nI rt), .int ex, .int ad, .ref (x + 3), .ref (x + 4), .int me, .long se, .ref (x + 5), .int (nI fl), .int dr, .long ob, .long sa, .long sn, .long us, .ref (x + 6), .ref (x + 7), .int (nI pe), .ref (x + 8), .int (nI le), .ref (x + 9), .ref (x + 10), .int (nI qu), .ref (x + 11), .ref (x + 12), .ref (x + 13), .ref (x + 14), .ref (x + 15), .ref (x + 16), .int (nI n_1), .long v_1, .ref (x + 17), .ref (x + 18), .ref (x + 19), .ref (x + 20), .ref (x + 21), .ref (x + 22), .int (nI n_2), .ref (x + 23), .ref (x + 24), .int (nI tk), .ref (x + 25), .int (nI il), .int (nI nx), .int ec, .int ep, .int kn, .int (nI st), .int nu, .long va]) := ((hF1 x (fun j9 h8 h7 => (show False from h7).elim)).trans h_3)
    refine z_callV (As := [.int 1, .int 1]) (rest := []) B (r_throwsIf G l Φ2 sz x rd nw cr tp tt sI sT pt ql fl pe le nx il qu kn ec nu va st ep ti ad ob ra rt ex sa us tk 0 me dr se sn 1 1 hx hI2 (by decide) hnw) (cwV 2 B.1.2.2.2.2 gX12_totalEstimate_X12_throwsIf rfl rfl rfl (by decide +kernel) ⟨Nat.le_of_ble_eq_true rfl, Nat.le_of_ble_eq_true rfl⟩) h_4 rfl rfl rfl rfl (Nat.le_of_ble_eq_true rfl) dX12_totalEstimate_19 ⟨Nat.le_of_ble_eq_true rfl, Nat.le_of_ble_eq_true rfl⟩ (fun r_2 Φ3 sz2 st2 hp2 hs2 => ?_)
    obtain ⟨rfl, hq2, ⟨v_2, hI3⟩, hF2⟩ := hp2
    subst sz2
    replace hs2 : st2 = [.int 1] := hs2
    subst st2
    replace hI3 : Im G x (rd, nw, cr, tp, tt, sI, sT, pt, ql, fl, pe, le, nx, il, qu, kn, ec, nu, va, st, ep, ti, ad, ob, ra, rt, ex, sa, us, tk, v_2, me, dr, se, sn) Φ3 := hI3
    refine z_if_eq (tgt := 27) B dX12_totalEstimate_22 rfl (fun h9 => absurd h9 (by decide)) (fun c_2 => ?_)
    refine z_lconst (v := 0) B dX12_totalEstimate_25 rfl ?_
    exact z_ret_l B dX12_totalEstimate_26 ⟨⟨_, rfl⟩, rfl, ⟨v_2, hI3⟩, (fun b9 h9 => ((hF2 b9 h9).trans ((hF1 b9 (fun j9 h8 h7 => (show False from h7).elim)).trans ((fset_fr hΦ1 (fun h8 => h9 (0) h8 (show 0 = 0 by decide))).trans rfl))))⟩
  · replace hs1 : st1 = [.int 1, .ref x] := hs1
    subst st1
    replace b_14 : n_3 < 2 := b_14
    refine z_if_ne (tgt := 17) B dX12_totalEstimate_10 rfl (fun c_3 => ?_) (fun h9 => absurd h9 (by decide))
    refine z_iconst (v := 0) B dX12_totalEstimate_17 rfl ?_
    refine z_iconst (v := 1) B dX12_totalEstimate_18 rfl ?_
    have h_5 : Φ2 x = some (o_ 14 [.int 0, .ref (x + 1), .ref (x + 2), .int ti, .int ra, .int (nI rt), .int ex, .int ad, .ref (x + 3), .ref (x + 4), .int me, .long se, .ref (x + 5), .int (nI fl), .int dr, .long ob, .long sa, .long sn, .long us, .ref (x + 6), .ref (x + 7), .int (nI pe), .ref (x + 8), .int (nI le), .ref (x + 9), .ref (x + 10), .int (nI qu), .ref (x + 11), .ref (x + 12), .ref (x + 13), .ref (x + 14), .ref (x + 15), .ref (x + 16), .int (nI n_1), .long v_1, .ref (x + 17), .ref (x + 18), .ref (x + 19), .ref (x + 20), .ref (x + 21), .ref (x + 22), .int (nI n_2), .ref (x + 23), .ref (x + 24), .int (nI tk), .ref (x + 25), .int (nI il), .int (nI nx), .int ec, .int ep, .int kn, .int (nI st), .int nu, .long va]) := ((hF1 x (fun j9 h8 h7 => (show False from h7).elim)).trans h_3)
    refine z_callV (As := [.int 0, .int 1]) (rest := []) B (r_throwsIf G l Φ2 sz x rd nw cr tp tt sI sT pt ql fl pe le nx il qu kn ec nu va st ep ti ad ob ra rt ex sa us tk 0 me dr se sn 0 1 hx hI2 (by decide) hnw) (cwV 2 B.1.2.2.2.2 gX12_totalEstimate_X12_throwsIf rfl rfl rfl (by decide +kernel) ⟨Nat.le_of_ble_eq_true rfl, Nat.le_of_ble_eq_true rfl⟩) h_5 rfl rfl rfl rfl (Nat.le_of_ble_eq_true rfl) dX12_totalEstimate_19 ⟨Nat.le_of_ble_eq_true rfl, Nat.le_of_ble_eq_true rfl⟩ (fun r_3 Φ4 sz3 st3 hp3 hs3 => ?_)
    obtain ⟨rfl, hq3, ⟨v_3, hI4⟩, hF3⟩ := hp3
    subst sz3
    replace hs3 : st3 = [.int 0] := hs3
    subst st3
    replace hI4 : Im G x (rd, nw, cr, tp, tt, sI, sT, pt, ql, fl, pe, le, nx, il, qu, kn, ec, nu, va, st, ep, ti, ad, ob, ra, rt, ex, sa, us, tk, v_3, me, dr, se, sn) Φ4 := hI4
    refine z_if_eq (tgt := 27) B dX12_totalEstimate_22 rfl (fun c_4 => ?_) (fun h9 => absurd (by decide) h9)
    refine z_lconst (v := 0) B dX12_totalEstimate_27 rfl ?_
    refine z_lstore_n (lv' := [(2, .long 0), (0, .ref x), (1, .int (nI n_3))]) B dX12_totalEstimate_28 rfl (Nat.le_of_ble_eq_true rfl) rfl ?_
    refine z_iconst (v := 0) B dX12_totalEstimate_29 rfl ?_
    refine z_istore (lv' := [(4, .int 0), (2, .long 0), (0, .ref x), (1, .int (nI n_3))]) B dX12_totalEstimate_30 (Nat.le_of_ble_eq_true rfl) rfl ?_
    refine z_lv [0, 1, 2, 3] rfl ?_
    refine z_loop (α := Nat × Int64) (fun (a9 : Nat × Int64) Φi => Im G x (rd, nw, cr, tp, tt, sI, sT, pt, ql, fl, pe, le, nx, il, qu, kn, ec, nu, va, st, ep, ti, ad, ob, ra, rt, ex, sa, us, tk, v_3, me, dr, se, sn) Φi ∧ Fr x (fun j9 => False) Φ4 Φi ∧ (a9.1 ≤ 24) ∧ True) (fun a9 => [(4, .int (nI (a9.1))), (2, .long a9.2), (0, .ref x), (1, .int (nI n_3))]) (fun a9 => 24 - a9.1) ?_ (0, 0) ⟨hI4, fun _ _ => rfl, (show 0 ≤ 24 by omega), trivial⟩
    rintro ⟨i_1, i_2⟩ Φl1 ⟨hI5, hF4, b_15, -⟩ ih1
    replace hI5 : Im G x (rd, nw, cr, tp, tt, sI, sT, pt, ql, fl, pe, le, nx, il, qu, kn, ec, nu, va, st, ep, ti, ad, ob, ra, rt, ex, sa, us, tk, v_3, me, dr, se, sn) Φl1 := hI5
    replace b_15 : i_1 ≤ 24 := b_15
    show Z p9 l e9 _ s9 m9 _ w9 t9 k9 _ G 5 32 [(4, .int (nI i_1)), (2, .long i_2), (0, .ref x), (1, .int (nI n_3))] [] Φl1 _ _ _
    refine z_iload B dX12_totalEstimate_32 0 rfl ?_
    refine z_aload_n B dX12_totalEstimate_34 rfl 2 rfl ?_
    obtain ⟨n_4, v_4, n_5, h_6, b_28, b_16, b_17, b_18, b_19, b_20, b_21, b_22, b_23, b_24, b_25, b_26, b_27⟩ := im0 hI5
    replace b_16 : 1 ≤ rt := b_16
    replace b_17 : rt ≤ 1024 := b_17
    replace b_18 : fl ≤ 12 := b_18
    replace b_19 : pe ≤ 24 := b_19
    replace b_20 : le ≤ 700 := b_20
    replace b_21 : qu ≤ 12 := b_21
    replace b_22 : n_4 ≤ 8 := b_22
    replace b_23 : n_5 ≤ 24 := b_23
    replace b_24 : tk ≤ 24 := b_24
    replace b_25 : il ≤ 700 := b_25
    replace b_26 : nx ≤ 701 := b_26
    replace b_27 : st ≤ 701 := b_27
    have h_7 : Φl1 x = some (o_ 14 [.int v_3, .ref (x + 1), .ref (x + 2), .int ti, .int ra, .int (nI rt), .int ex, .int ad, .ref (x + 3), .ref (x + 4), .int me, .long se, .ref (x + 5), .int (nI fl), .int dr, .long ob, .long sa, .long sn, .long us, .ref (x + 6), .ref (x + 7), .int (nI pe), .ref (x + 8), .int (nI le), .ref (x + 9), .ref (x + 10), .int (nI qu), .ref (x + 11), .ref (x + 12), .ref (x + 13), .ref (x + 14), .ref (x + 15), .ref (x + 16), .int (nI n_4), .long v_4, .ref (x + 17), .ref (x + 18), .ref (x + 19), .ref (x + 20), .ref (x + 21), .ref (x + 22), .int (nI n_5), .ref (x + 23), .ref (x + 24), .int (nI tk), .ref (x + 25), .int (nI il), .int (nI nx), .int ec, .int ep, .int kn, .int (nI st), .int nu, .long va]) := h_6
    refine z_get (ref := "FlowExporterModel") (C := RX12) (T := TX12) (N := 54) (ci := 14) (v := .int (nI n_5)) B hu_X12_totalEstimate_X12 rfl 41 (Nat.le_of_ble_eq_true rfl) hv_X12_totalEstimate_148 rfl h_7 rfl dX12_totalEstimate_35 ?_
    refine z_icmp_ge (tgt := 61) B dX12_totalEstimate_38 rfl (fun c_5 => ?_) (fun c_5 => ?_)
    · have e_1 : n_5 ≤ i_1 := (nI_leI (a := n_5) (b := i_1) (by omega) (by omega)).mp c_5
      refine z_lload_n B dX12_totalEstimate_61 rfl 1 rfl ?_
      exact z_ret_l B dX12_totalEstimate_62 ⟨⟨_, rfl⟩, rfl, ⟨v_3, hI5⟩, (fun b9 h9 => ((hF4 b9 (fun j9 h8 h7 => (show False from h7).elim)).trans ((hF3 b9 h9).trans ((hF1 b9 (fun j9 h8 h7 => (show False from h7).elim)).trans ((fset_fr hΦ1 (fun h8 => h9 (0) h8 (show 0 = 0 by decide))).trans rfl)))))⟩
    · have e_2 : ¬ (n_5 ≤ i_1) := fun h9 => c_5 ((nI_leI (a := n_5) (b := i_1) (by omega) (by omega)).mpr h9)
      refine z_lload_n B dX12_totalEstimate_41 rfl 1 rfl ?_
      refine z_aload_n B dX12_totalEstimate_42 rfl 2 rfl ?_
      refine z_get (ref := "FlowExporterModel") (C := RX12) (T := TX12) (N := 54) (ci := 14) (v := .ref (x + 21)) B hu_X12_totalEstimate_X12 rfl 39 (Nat.le_of_ble_eq_true rfl) hv_X12_totalEstimate_75 rfl h_7 rfl dX12_totalEstimate_43 ?_
      refine z_iconst (v := 2) B dX12_totalEstimate_46 rfl ?_
      refine z_iload B dX12_totalEstimate_47 0 rfl ?_
      refine z_imul B dX12_totalEstimate_49 ?_
      refine z_top (st1 := [.int (nI (2 * i_1)), .ref (x + 21), .long i_2]) (congrArg (fun w9 : Int32 => ([.int w9, .ref (x + 21), .long i_2] : List Value)) (nI_mul 2 i_1)) ?_
      refine z_iload_n B dX12_totalEstimate_50 rfl 3 rfl ?_
      refine z_iadd B dX12_totalEstimate_51 ?_
      refine z_top (st1 := [.int (nI (2 * i_1 + n_3)), .ref (x + 21), .long i_2]) (congrArg (fun w9 : Int32 => ([.int w9, .ref (x + 21), .long i_2] : List Value)) (nI_add (2 * i_1) n_3)) ?_
      obtain ⟨f_1, h_8⟩ := imk (k := 21) hI5
      have h_9 : Φl1 (x + 21) = some (al_ G 48 f_1) := h_8
      refine z_lald B h_9 (vp_in_nI (by omega) (by omega)) dX12_totalEstimate_52 ?_
      refine z_fl (fun v_5 => ?_)
      refine z_ladd B dX12_totalEstimate_53 ?_
      refine z_fl (fun v_6 => ?_)
      refine z_lstore_n (lv' := [(2, .long v_6), (4, .int (nI i_1)), (0, .ref x), (1, .int (nI n_3))]) B dX12_totalEstimate_54 rfl (Nat.le_of_ble_eq_true rfl) rfl ?_
      refine z_iinc (k := 1) (v := nI (i_1 + 1)) (lv' := [(4, .int (nI (i_1 + 1))), (2, .long v_6), (0, .ref x), (1, .int (nI n_3))]) B dX12_totalEstimate_55 rfl (nI_add i_1 1) (Nat.le_of_ble_eq_true rfl) rfl ?_
      refine z_goto (tgt := 32) B dX12_totalEstimate_58 rfl ?_
      refine z_lv [0, 1, 2, 3] rfl ?_
      exact ih1 (i_1 + 1, v_6) Φl1 (show 24 - (i_1 + 1) < 24 - i_1 by omega) ⟨hI5, (fun b9 h9 => ((hF4 b9 (fun j9 h8 h7 => (show False from h7).elim)).trans rfl)), (show (i_1 + 1) ≤ 24 by omega), trivial⟩

theorem hu_X12_totalMargin_X12 : ∀ w ∈ u_ws RX12 TX12 54, w ∈ wsX12_totalMargin := fun _ h => List.mem_cons_of_mem _ (List.mem_append_left _ (List.mem_append_right _ (h)))

theorem hv_X12_totalMargin_1 : Cond.fieldLink RX12 1 "FlowExporterModel" (TX12 0).2.1 (TX12 0).2.2.1 ∈ wsX12_totalMargin := List.mem_cons_of_mem _ (List.mem_append_left _ (List.mem_append_left _ (List.mem_append_left _ (List.mem_of_getElem? (i := 0) rfl))))

theorem hv_X12_totalMargin_148 : Cond.fieldLink RX12 148 "FlowExporterModel" (TX12 41).2.1 (TX12 41).2.2.1 ∈ wsX12_totalMargin := List.mem_cons_of_mem _ (List.mem_append_left _ (List.mem_append_left _ (List.mem_append_left _ (List.mem_of_getElem? (i := 1) rfl))))

theorem hv_X12_totalMargin_78 : Cond.fieldLink RX12 78 "FlowExporterModel" (TX12 40).2.1 (TX12 40).2.2.1 ∈ wsX12_totalMargin := List.mem_cons_of_mem _ (List.mem_append_left _ (List.mem_append_left _ (List.mem_append_left _ (List.mem_of_getElem? (i := 2) rfl))))

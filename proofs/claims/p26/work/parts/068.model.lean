set_option maxRecDepth 20000 in
theorem ggX12_putTemplate_X12_put : GoodIn wsX12_putTemplate wsX12_put := goodIn_ca ((goodIn_ca (goodIn_r _ [9, 10, 11, 12] rfl (by decide +kernel)) (goodIn_sub (fun _ h => List.mem_cons_of_mem _ (List.mem_append_left _ (List.mem_append_right _ h))) gw_wsX120))) (goodIn_sub (fun _ h => List.mem_cons_of_mem _ (List.mem_append_right _ h)) (all_fg _))
set_option maxRecDepth 20000 in
theorem gX12_putTemplate_X12_put : GoodIn wsX12_putTemplate (wsV RX12 283 RX12 yX12_put wsX12_put) := goodIn_app (goodIn_m (mem_cA (List.mem_cons_of_mem _ (List.mem_append_left _ (List.mem_append_left _ (List.mem_append_left _ (List.mem_of_getElem? (i := 4) rfl))))) (mem_cA (List.mem_cons_of_mem _ (List.mem_append_left _ (List.mem_append_left _ (List.mem_append_left _ (List.mem_of_getElem? (i := 5) rfl))))) (mem_cA (List.mem_cons_of_mem _ (List.mem_append_left _ (List.mem_append_left _ (List.mem_append_left _ (List.mem_of_getElem? (i := 6) rfl))))) (mem_cA (List.mem_cons_of_mem _ (List.mem_append_left _ (List.mem_append_left _ (List.mem_append_left _ (List.mem_of_getElem? (i := 7) rfl))))) mem_cZ)))) (by decide +kernel)) ggX12_putTemplate_X12_put
set_option maxRecDepth 20000 in
theorem ggX12_putTemplate_X12_effective : GoodIn wsX12_putTemplate wsX12_effective := goodIn_ca ((goodIn_ca (goodIn_r _ [16, 17, 18, 19, 20, 8, 21, 22, 23, 24, 25, 26, 27, 28, 29] rfl (by decide +kernel)) (goodIn_sub (fun _ h => List.mem_cons_of_mem _ (List.mem_append_left _ (List.mem_append_right _ h))) gw_wsX120))) (goodIn_sub (fun _ h => List.mem_cons_of_mem _ (List.mem_append_right _ h)) (all_fg _))
set_option maxRecDepth 20000 in
theorem gX12_putTemplate_X12_effective : GoodIn wsX12_putTemplate (wsV RX12 192 RX12 yX12_effective wsX12_effective) := goodIn_app (goodIn_m (mem_cA (List.mem_cons_of_mem _ (List.mem_append_left _ (List.mem_append_left _ (List.mem_append_left _ (List.mem_of_getElem? (i := 12) rfl))))) (mem_cA (List.mem_cons_of_mem _ (List.mem_append_left _ (List.mem_append_left _ (List.mem_append_left _ (List.mem_of_getElem? (i := 13) rfl))))) (mem_cA (List.mem_cons_of_mem _ (List.mem_append_left _ (List.mem_append_left _ (List.mem_append_left _ (List.mem_of_getElem? (i := 14) rfl))))) (mem_cA (List.mem_cons_of_mem _ (List.mem_append_left _ (List.mem_append_left _ (List.mem_append_left _ (List.mem_of_getElem? (i := 7) rfl))))) mem_cZ)))) (by decide +kernel)) ggX12_putTemplate_X12_effective
set_option maxRecDepth 20000 in
theorem ggX12_putTemplate_X12_bitCount : GoodIn wsX12_putTemplate wsX12_bitCount := (goodIn_r _ [32] rfl (by decide +kernel))
set_option maxRecDepth 20000 in
theorem gX12_putTemplate_X12_bitCount : GoodIn wsX12_putTemplate (va_wsS RX12 287 yX12_bitCount wsX12_bitCount) := goodIn_app (goodIn_m (mem_cA (List.mem_cons_of_mem _ (List.mem_append_left _ (List.mem_append_left _ (List.mem_append_right _ (List.mem_of_getElem? (i := 5) rfl))))) (mem_cA (List.mem_cons_of_mem _ (List.mem_append_left _ (List.mem_append_left _ (List.mem_append_right _ (List.mem_of_getElem? (i := 6) rfl))))) (mem_cA (List.mem_cons_of_mem _ (List.mem_append_left _ (List.mem_append_left _ (List.mem_append_left _ (List.mem_of_getElem? (i := 7) rfl))))) mem_cZ))) (by decide +kernel)) ggX12_putTemplate_X12_bitCount
set_option maxRecDepth 20000 in
theorem ggX12_putTemplate_X12_sizeOf : GoodIn wsX12_putTemplate wsX12_sizeOf := goodIn_ca ((goodIn_ca (goodIn_r _ [25, 17] rfl (by decide +kernel)) (goodIn_sub (fun _ h => List.mem_cons_of_mem _ (List.mem_append_left _ (List.mem_append_right _ h))) gw_wsX120))) (goodIn_sub (fun _ h => List.mem_cons_of_mem _ (List.mem_append_right _ h)) (all_fg _))
set_option maxRecDepth 20000 in
theorem gX12_putTemplate_X12_sizeOf : GoodIn wsX12_putTemplate (wsV RX12 173 RX12 yX12_sizeOf wsX12_sizeOf) := goodIn_app (goodIn_m (mem_cA (List.mem_cons_of_mem _ (List.mem_append_left _ (List.mem_append_left _ (List.mem_append_left _ (List.mem_of_getElem? (i := 21) rfl))))) (mem_cA (List.mem_cons_of_mem _ (List.mem_append_left _ (List.mem_append_left _ (List.mem_append_left _ (List.mem_of_getElem? (i := 22) rfl))))) (mem_cA (List.mem_cons_of_mem _ (List.mem_append_left _ (List.mem_append_left _ (List.mem_append_left _ (List.mem_of_getElem? (i := 23) rfl))))) (mem_cA (List.mem_cons_of_mem _ (List.mem_append_left _ (List.mem_append_left _ (List.mem_append_left _ (List.mem_of_getElem? (i := 7) rfl))))) mem_cZ)))) (by decide +kernel)) ggX12_putTemplate_X12_sizeOf
set_option maxRecDepth 20000 in
theorem ggX12_putTemplate_X12_fieldOf : GoodIn wsX12_putTemplate wsX12_fieldOf := goodIn_ca ((goodIn_ca (goodIn_r _ [29, 17] rfl (by decide +kernel)) (goodIn_sub (fun _ h => List.mem_cons_of_mem _ (List.mem_append_left _ (List.mem_append_right _ h))) gw_wsX120))) (goodIn_sub (fun _ h => List.mem_cons_of_mem _ (List.mem_append_right _ h)) (all_fg _))
set_option maxRecDepth 20000 in
theorem gX12_putTemplate_X12_fieldOf : GoodIn wsX12_putTemplate (wsV RX12 177 RX12 yX12_fieldOf wsX12_fieldOf) := goodIn_app (goodIn_m (mem_cA (List.mem_cons_of_mem _ (List.mem_append_left _ (List.mem_append_left _ (List.mem_append_right _ (List.mem_of_getElem? (i := 1) rfl))))) (mem_cA (List.mem_cons_of_mem _ (List.mem_append_left _ (List.mem_append_left _ (List.mem_append_right _ (List.mem_of_getElem? (i := 2) rfl))))) (mem_cA (List.mem_cons_of_mem _ (List.mem_append_left _ (List.mem_append_left _ (List.mem_append_right _ (List.mem_of_getElem? (i := 3) rfl))))) (mem_cA (List.mem_cons_of_mem _ (List.mem_append_left _ (List.mem_append_left _ (List.mem_append_left _ (List.mem_of_getElem? (i := 7) rfl))))) mem_cZ)))) (by decide +kernel)) ggX12_putTemplate_X12_fieldOf
set_option maxRecDepth 20000 in
theorem ggX12_putTemplate_X12_isSupported : GoodIn wsX12_putTemplate wsX12_isSupported := goodIn_ca ((goodIn_ca (goodIn_r _ [36, 17] rfl (by decide +kernel)) (goodIn_sub (fun _ h => List.mem_cons_of_mem _ (List.mem_append_left _ (List.mem_append_right _ h))) gw_wsX120))) (goodIn_sub (fun _ h => List.mem_cons_of_mem _ (List.mem_append_right _ h)) (all_fg _))
set_option maxRecDepth 20000 in
theorem gX12_putTemplate_X12_isSupported : GoodIn wsX12_putTemplate (wsV RX12 206 RX12 yX12_isSupported wsX12_isSupported) := goodIn_app (goodIn_m (mem_cA (List.mem_cons_of_mem _ (List.mem_append_left _ (List.mem_append_left _ (List.mem_append_right _ (List.mem_of_getElem? (i := 8) rfl))))) (mem_cA (List.mem_cons_of_mem _ (List.mem_append_left _ (List.mem_append_left _ (List.mem_append_right _ (List.mem_of_getElem? (i := 9) rfl))))) (mem_cA (List.mem_cons_of_mem _ (List.mem_append_left _ (List.mem_append_left _ (List.mem_append_right _ (List.mem_of_getElem? (i := 10) rfl))))) (mem_cA (List.mem_cons_of_mem _ (List.mem_append_left _ (List.mem_append_left _ (List.mem_append_left _ (List.mem_of_getElem? (i := 7) rfl))))) mem_cZ)))) (by decide +kernel)) ggX12_putTemplate_X12_isSupported
set_option maxRecDepth 20000 in
theorem ggX12_putTemplate_X12_lengthOf : GoodIn wsX12_putTemplate wsX12_lengthOf := (goodIn_r _ [39] rfl (by decide +kernel))
set_option maxRecDepth 20000 in
theorem gX12_putTemplate_X12_lengthOf : GoodIn wsX12_putTemplate (va_wsS RX12 195 yX12_lengthOf wsX12_lengthOf) := goodIn_app (goodIn_m (mem_cA (List.mem_cons_of_mem _ (List.mem_append_left _ (List.mem_append_left _ (List.mem_append_right _ (List.mem_of_getElem? (i := 12) rfl))))) (mem_cA (List.mem_cons_of_mem _ (List.mem_append_left _ (List.mem_append_left _ (List.mem_append_right _ (List.mem_of_getElem? (i := 13) rfl))))) (mem_cA (List.mem_cons_of_mem _ (List.mem_append_left _ (List.mem_append_left _ (List.mem_append_left _ (List.mem_of_getElem? (i := 7) rfl))))) mem_cZ))) (by decide +kernel)) ggX12_putTemplate_X12_lengthOf
theorem dX12_putTemplate_0 : decode cX12_putTemplate 0 = .ok (.aload_n 0, 1) := by decide +kernel
theorem dX12_putTemplate_1 : decode cX12_putTemplate 1 = .ok (.sipush 256, 3) := by decide +kernel
theorem dX12_putTemplate_4 : decode cX12_putTemplate 4 = .ok (.iload_n 1, 1) := by decide +kernel
theorem dX12_putTemplate_5 : decode cX12_putTemplate 5 = .ok (.iadd, 1) := by decide +kernel
theorem dX12_putTemplate_6 : decode cX12_putTemplate 6 = .ok (.i2l, 1) := by decide +kernel
theorem dX12_putTemplate_7 : decode cX12_putTemplate 7 = .ok (.iconst 2, 1) := by decide +kernel
theorem dX12_putTemplate_8 : decode cX12_putTemplate 8 = .ok (.invokevirtual 283, 3) := by decide +kernel
theorem dX12_putTemplate_11 : decode cX12_putTemplate 11 = .ok (.aload_n 0, 1) := by decide +kernel
theorem dX12_putTemplate_12 : decode cX12_putTemplate 12 = .ok (.aload_n 0, 1) := by decide +kernel
theorem dX12_putTemplate_13 : decode cX12_putTemplate 13 = .ok (.iload_n 1, 1) := by decide +kernel
theorem dX12_putTemplate_14 : decode cX12_putTemplate 14 = .ok (.invokevirtual 192, 3) := by decide +kernel
theorem dX12_putTemplate_17 : decode cX12_putTemplate 17 = .ok (.invokestatic 287, 3) := by decide +kernel
theorem dX12_putTemplate_20 : decode cX12_putTemplate 20 = .ok (.i2l, 1) := by decide +kernel
theorem dX12_putTemplate_21 : decode cX12_putTemplate 21 = .ok (.iconst 2, 1) := by decide +kernel
theorem dX12_putTemplate_22 : decode cX12_putTemplate 22 = .ok (.invokevirtual 283, 3) := by decide +kernel
theorem dX12_putTemplate_25 : decode cX12_putTemplate 25 = .ok (.iconst 0, 1) := by decide +kernel
theorem dX12_putTemplate_26 : decode cX12_putTemplate 26 = .ok (.istore_n 2, 1) := by decide +kernel
theorem dX12_putTemplate_27 : decode cX12_putTemplate 27 = .ok (.iload_n 2, 1) := by decide +kernel
theorem dX12_putTemplate_28 : decode cX12_putTemplate 28 = .ok (.aload_n 0, 1) := by decide +kernel
theorem dX12_putTemplate_29 : decode cX12_putTemplate 29 = .ok (.iload_n 1, 1) := by decide +kernel
theorem dX12_putTemplate_30 : decode cX12_putTemplate 30 = .ok (.invokevirtual 173, 3) := by decide +kernel
theorem dX12_putTemplate_33 : decode cX12_putTemplate 33 = .ok (.if_icmp .ge 44, 3) := by decide +kernel
theorem dX12_putTemplate_36 : decode cX12_putTemplate 36 = .ok (.aload_n 0, 1) := by decide +kernel
theorem dX12_putTemplate_37 : decode cX12_putTemplate 37 = .ok (.iload_n 1, 1) := by decide +kernel
theorem dX12_putTemplate_38 : decode cX12_putTemplate 38 = .ok (.iload_n 2, 1) := by decide +kernel
theorem dX12_putTemplate_39 : decode cX12_putTemplate 39 = .ok (.invokevirtual 177, 3) := by decide +kernel
theorem dX12_putTemplate_42 : decode cX12_putTemplate 42 = .ok (.istore_n 3, 1) := by decide +kernel
theorem dX12_putTemplate_43 : decode cX12_putTemplate 43 = .ok (.aload_n 0, 1) := by decide +kernel
theorem dX12_putTemplate_44 : decode cX12_putTemplate 44 = .ok (.iload_n 3, 1) := by decide +kernel
theorem dX12_putTemplate_45 : decode cX12_putTemplate 45 = .ok (.invokevirtual 206, 3) := by decide +kernel
theorem dX12_putTemplate_48 : decode cX12_putTemplate 48 = .ok (.ifCond .ne 6, 3) := by decide +kernel
theorem dX12_putTemplate_51 : decode cX12_putTemplate 51 = .ok (.goto 20, 3) := by decide +kernel
theorem dX12_putTemplate_54 : decode cX12_putTemplate 54 = .ok (.aload_n 0, 1) := by decide +kernel
theorem dX12_putTemplate_55 : decode cX12_putTemplate 55 = .ok (.iload_n 3, 1) := by decide +kernel
theorem dX12_putTemplate_56 : decode cX12_putTemplate 56 = .ok (.i2l, 1) := by decide +kernel
theorem dX12_putTemplate_57 : decode cX12_putTemplate 57 = .ok (.iconst 2, 1) := by decide +kernel
theorem dX12_putTemplate_58 : decode cX12_putTemplate 58 = .ok (.invokevirtual 283, 3) := by decide +kernel
theorem dX12_putTemplate_61 : decode cX12_putTemplate 61 = .ok (.aload_n 0, 1) := by decide +kernel
theorem dX12_putTemplate_62 : decode cX12_putTemplate 62 = .ok (.iload_n 3, 1) := by decide +kernel
theorem dX12_putTemplate_63 : decode cX12_putTemplate 63 = .ok (.invokestatic 195, 3) := by decide +kernel
theorem dX12_putTemplate_66 : decode cX12_putTemplate 66 = .ok (.i2l, 1) := by decide +kernel
theorem dX12_putTemplate_67 : decode cX12_putTemplate 67 = .ok (.iconst 2, 1) := by decide +kernel
theorem dX12_putTemplate_68 : decode cX12_putTemplate 68 = .ok (.invokevirtual 283, 3) := by decide +kernel
theorem dX12_putTemplate_71 : decode cX12_putTemplate 71 = .ok (.iinc 2 1, 3) := by decide +kernel
theorem dX12_putTemplate_74 : decode cX12_putTemplate 74 = .ok (.goto (-47), 3) := by decide +kernel
theorem dX12_putTemplate_77 : decode cX12_putTemplate 77 = .ok (.aload_n 0, 1) := by decide +kernel
theorem dX12_putTemplate_78 : decode cX12_putTemplate 78 = .ok (.getfield 20, 3) := by decide +kernel
theorem dX12_putTemplate_81 : decode cX12_putTemplate 81 = .ok (.iload_n 1, 1) := by decide +kernel
theorem dX12_putTemplate_82 : decode cX12_putTemplate 82 = .ok (.aload_n 0, 1) := by decide +kernel
theorem dX12_putTemplate_83 : decode cX12_putTemplate 83 = .ok (.getfield 142, 3) := by decide +kernel
theorem dX12_putTemplate_86 : decode cX12_putTemplate 86 = .ok (.iastore, 1) := by decide +kernel
theorem dX12_putTemplate_87 : decode cX12_putTemplate 87 = .ok (.aload_n 0, 1) := by decide +kernel
theorem dX12_putTemplate_88 : decode cX12_putTemplate 88 = .ok (.getfield 23, 3) := by decide +kernel
theorem dX12_putTemplate_91 : decode cX12_putTemplate 91 = .ok (.iload_n 1, 1) := by decide +kernel
theorem dX12_putTemplate_92 : decode cX12_putTemplate 92 = .ok (.aload_n 0, 1) := by decide +kernel
theorem dX12_putTemplate_93 : decode cX12_putTemplate 93 = .ok (.getfield 101, 3) := by decide +kernel
theorem dX12_putTemplate_96 : decode cX12_putTemplate 96 = .ok (.iastore, 1) := by decide +kernel
theorem dX12_putTemplate_97 : decode cX12_putTemplate 97 = .ok (.return_, 1) := by decide +kernel
set_option maxRecDepth 20000 in
theorem ggX12_putTemplates_X12_due : GoodIn wsX12_putTemplates wsX12_due := goodIn_ca ((goodIn_ca (goodIn_r _ [8, 9, 10, 2, 11, 12, 13, 14, 15, 7, 16, 17, 18, 19, 20, 21, 22, 23, 24, 25, 26, 27, 28] rfl (by decide +kernel)) (goodIn_sub (fun _ h => List.mem_cons_of_mem _ (List.mem_append_left _ (List.mem_append_right _ h))) gw_wsX120))) (goodIn_sub (fun _ h => List.mem_cons_of_mem _ (List.mem_append_right _ h)) (all_fg _))
set_option maxRecDepth 20000 in
theorem gX12_putTemplates_X12_due : GoodIn wsX12_putTemplates (wsV RX12 209 RX12 yX12_due wsX12_due) := goodIn_app (goodIn_m (mem_cA (List.mem_cons_of_mem _ (List.mem_append_left _ (List.mem_append_left _ (List.mem_append_left _ (List.mem_of_getElem? (i := 3) rfl))))) (mem_cA (List.mem_cons_of_mem _ (List.mem_append_left _ (List.mem_append_left _ (List.mem_append_left _ (List.mem_of_getElem? (i := 4) rfl))))) (mem_cA (List.mem_cons_of_mem _ (List.mem_append_left _ (List.mem_append_left _ (List.mem_append_left _ (List.mem_of_getElem? (i := 5) rfl))))) (mem_cA (List.mem_cons_of_mem _ (List.mem_append_left _ (List.mem_append_left _ (List.mem_append_left _ (List.mem_of_getElem? (i := 6) rfl))))) mem_cZ)))) (by decide +kernel)) ggX12_putTemplates_X12_due
set_option maxRecDepth 20000 in
theorem ggX12_putTemplates_X12_put : GoodIn wsX12_putTemplates wsX12_put := goodIn_ca ((goodIn_ca (goodIn_r _ [32, 33, 1, 34] rfl (by decide +kernel)) (goodIn_sub (fun _ h => List.mem_cons_of_mem _ (List.mem_append_left _ (List.mem_append_right _ h))) gw_wsX120))) (goodIn_sub (fun _ h => List.mem_cons_of_mem _ (List.mem_append_right _ h)) (all_fg _))
set_option maxRecDepth 20000 in
theorem gX12_putTemplates_X12_put : GoodIn wsX12_putTemplates (wsV RX12 283 RX12 yX12_put wsX12_put) := goodIn_app (goodIn_m (mem_cA (List.mem_cons_of_mem _ (List.mem_append_left _ (List.mem_append_left _ (List.mem_append_right _ (List.mem_append_left _ (List.mem_of_getElem? (i := 4) rfl)))))) (mem_cA (List.mem_cons_of_mem _ (List.mem_append_left _ (List.mem_append_left _ (List.mem_append_right _ (List.mem_append_left _ (List.mem_of_getElem? (i := 5) rfl)))))) (mem_cA (List.mem_cons_of_mem _ (List.mem_append_left _ (List.mem_append_left _ (List.mem_append_right _ (List.mem_append_left _ (List.mem_of_getElem? (i := 6) rfl)))))) (mem_cA (List.mem_cons_of_mem _ (List.mem_append_left _ (List.mem_append_left _ (List.mem_append_left _ (List.mem_of_getElem? (i := 6) rfl))))) mem_cZ)))) (by decide +kernel)) ggX12_putTemplates_X12_put
set_option maxRecDepth 20000 in
theorem ggX12_putTemplates_X12_putTemplate : GoodIn wsX12_putTemplates wsX12_putTemplate := goodIn_ca ((goodIn_ca (goodIn_r _ [38, 9, 10, 12, 11, 29, 30, 31, 7, 32, 33, 1, 34, 13, 14, 15, 16, 2, 17, 18, 19, 20, 21, 22, 23, 24, 25, 26, 27, 28, 39, 40, 41, 42, 43, 44, 45, 46, 47, 48] rfl (by decide +kernel)) (goodIn_sub (fun _ h => List.mem_cons_of_mem _ (List.mem_append_left _ (List.mem_append_right _ h))) gw_wsX120))) (goodIn_sub (fun _ h => List.mem_cons_of_mem _ (List.mem_append_right _ h)) (all_fg _))
set_option maxRecDepth 20000 in
theorem gX12_putTemplates_X12_putTemplate : GoodIn wsX12_putTemplates (wsV RX12 292 RX12 yX12_putTemplate wsX12_putTemplate) := goodIn_app (goodIn_m (mem_cA (List.mem_cons_of_mem _ (List.mem_append_left _ (List.mem_append_left _ (List.mem_append_right _ (List.mem_append_left _ (List.mem_of_getElem? (i := 10) rfl)))))) (mem_cA (List.mem_cons_of_mem _ (List.mem_append_left _ (List.mem_append_left _ (List.mem_append_right _ (List.mem_append_left _ (List.mem_of_getElem? (i := 11) rfl)))))) (mem_cA (List.mem_cons_of_mem _ (List.mem_append_left _ (List.mem_append_left _ (List.mem_append_right _ (List.mem_append_left _ (List.mem_of_getElem? (i := 12) rfl)))))) (mem_cA (List.mem_cons_of_mem _ (List.mem_append_left _ (List.mem_append_left _ (List.mem_append_left _ (List.mem_of_getElem? (i := 6) rfl))))) mem_cZ)))) (by decide +kernel)) ggX12_putTemplates_X12_putTemplate
set_option maxRecDepth 20000 in
theorem ggX12_putTemplates_X12_putAt : GoodIn wsX12_putTemplates wsX12_putAt := goodIn_ca ((goodIn_ca (goodIn_r _ [52, 33] rfl (by decide +kernel)) (goodIn_sub (fun _ h => List.mem_cons_of_mem _ (List.mem_append_left _ (List.mem_append_right _ h))) gw_wsX120))) (goodIn_sub (fun _ h => List.mem_cons_of_mem _ (List.mem_append_right _ h)) (all_fg _))
set_option maxRecDepth 20000 in
theorem gX12_putTemplates_X12_putAt : GoodIn wsX12_putTemplates (wsV RX12 295 RX12 yX12_putAt wsX12_putAt) := goodIn_app (goodIn_m (mem_cA (List.mem_cons_of_mem _ (List.mem_append_left _ (List.mem_append_left _ (List.mem_append_right _ (List.mem_append_right _ (List.mem_of_getElem? (i := 0) rfl)))))) (mem_cA (List.mem_cons_of_mem _ (List.mem_append_left _ (List.mem_append_left _ (List.mem_append_right _ (List.mem_append_right _ (List.mem_of_getElem? (i := 1) rfl)))))) (mem_cA (List.mem_cons_of_mem _ (List.mem_append_left _ (List.mem_append_left _ (List.mem_append_right _ (List.mem_append_right _ (List.mem_of_getElem? (i := 2) rfl)))))) (mem_cA (List.mem_cons_of_mem _ (List.mem_append_left _ (List.mem_append_left _ (List.mem_append_left _ (List.mem_of_getElem? (i := 6) rfl))))) mem_cZ)))) (by decide +kernel)) ggX12_putTemplates_X12_putAt
theorem dX12_putTemplates_0 : decode cX12_putTemplates 0 = .ok (.aload_n 0, 1) := by decide +kernel
theorem dX12_putTemplates_1 : decode cX12_putTemplates 1 = .ok (.getfield 280, 3) := by decide +kernel
theorem dX12_putTemplates_4 : decode cX12_putTemplates 4 = .ok (.istore_n 1, 1) := by decide +kernel
theorem dX12_putTemplates_5 : decode cX12_putTemplates 5 = .ok (.iconst 0, 1) := by decide +kernel
theorem dX12_putTemplates_6 : decode cX12_putTemplates 6 = .ok (.istore_n 2, 1) := by decide +kernel
theorem dX12_putTemplates_7 : decode cX12_putTemplates 7 = .ok (.iload_n 2, 1) := by decide +kernel
theorem dX12_putTemplates_8 : decode cX12_putTemplates 8 = .ok (.aload_n 0, 1) := by decide +kernel
theorem dX12_putTemplates_9 : decode cX12_putTemplates 9 = .ok (.getfield 17, 3) := by decide +kernel
theorem dX12_putTemplates_12 : decode cX12_putTemplates 12 = .ok (.bipush 10, 2) := by decide +kernel
theorem dX12_putTemplates_14 : decode cX12_putTemplates 14 = .ok (.iaload, 1) := by decide +kernel
theorem dX12_putTemplates_15 : decode cX12_putTemplates 15 = .ok (.if_icmp .ge 41, 3) := by decide +kernel
theorem dX12_putTemplates_18 : decode cX12_putTemplates 18 = .ok (.aload_n 0, 1) := by decide +kernel
theorem dX12_putTemplates_19 : decode cX12_putTemplates 19 = .ok (.iload_n 2, 1) := by decide +kernel
theorem dX12_putTemplates_20 : decode cX12_putTemplates 20 = .ok (.invokevirtual 209, 3) := by decide +kernel
theorem dX12_putTemplates_23 : decode cX12_putTemplates 23 = .ok (.ifCond .ne 6, 3) := by decide +kernel
theorem dX12_putTemplates_26 : decode cX12_putTemplates 26 = .ok (.goto 24, 3) := by decide +kernel
theorem dX12_putTemplates_29 : decode cX12_putTemplates 29 = .ok (.aload_n 0, 1) := by decide +kernel
theorem dX12_putTemplates_30 : decode cX12_putTemplates 30 = .ok (.getfield 280, 3) := by decide +kernel
theorem dX12_putTemplates_33 : decode cX12_putTemplates 33 = .ok (.iload_n 1, 1) := by decide +kernel
theorem dX12_putTemplates_34 : decode cX12_putTemplates 34 = .ok (.if_icmp .ne 11, 3) := by decide +kernel
theorem dX12_putTemplates_37 : decode cX12_putTemplates 37 = .ok (.aload_n 0, 1) := by decide +kernel
theorem dX12_putTemplates_38 : decode cX12_putTemplates 38 = .ok (.ldc2_w 290, 3) := by decide +kernel
theorem dX12_putTemplates_41 : decode cX12_putTemplates 41 = .ok (.iconst 4, 1) := by decide +kernel
theorem dX12_putTemplates_42 : decode cX12_putTemplates 42 = .ok (.invokevirtual 283, 3) := by decide +kernel
theorem dX12_putTemplates_45 : decode cX12_putTemplates 45 = .ok (.aload_n 0, 1) := by decide +kernel
theorem dX12_putTemplates_46 : decode cX12_putTemplates 46 = .ok (.iload_n 2, 1) := by decide +kernel
theorem dX12_putTemplates_47 : decode cX12_putTemplates 47 = .ok (.invokevirtual 292, 3) := by decide +kernel
theorem dX12_putTemplates_50 : decode cX12_putTemplates 50 = .ok (.iinc 2 1, 3) := by decide +kernel
theorem dX12_putTemplates_53 : decode cX12_putTemplates 53 = .ok (.goto (-46), 3) := by decide +kernel
theorem dX12_putTemplates_56 : decode cX12_putTemplates 56 = .ok (.aload_n 0, 1) := by decide +kernel
theorem dX12_putTemplates_57 : decode cX12_putTemplates 57 = .ok (.getfield 280, 3) := by decide +kernel
theorem dX12_putTemplates_60 : decode cX12_putTemplates 60 = .ok (.iload_n 1, 1) := by decide +kernel
theorem dX12_putTemplates_61 : decode cX12_putTemplates 61 = .ok (.if_icmp .le 16, 3) := by decide +kernel
theorem dX12_putTemplates_64 : decode cX12_putTemplates 64 = .ok (.aload_n 0, 1) := by decide +kernel
theorem dX12_putTemplates_65 : decode cX12_putTemplates 65 = .ok (.iload_n 1, 1) := by decide +kernel
theorem dX12_putTemplates_66 : decode cX12_putTemplates 66 = .ok (.iconst 2, 1) := by decide +kernel
theorem dX12_putTemplates_67 : decode cX12_putTemplates 67 = .ok (.iadd, 1) := by decide +kernel
theorem dX12_putTemplates_68 : decode cX12_putTemplates 68 = .ok (.aload_n 0, 1) := by decide +kernel
theorem dX12_putTemplates_69 : decode cX12_putTemplates 69 = .ok (.getfield 280, 3) := by decide +kernel
theorem dX12_putTemplates_72 : decode cX12_putTemplates 72 = .ok (.iload_n 1, 1) := by decide +kernel
theorem dX12_putTemplates_73 : decode cX12_putTemplates 73 = .ok (.isub, 1) := by decide +kernel
theorem dX12_putTemplates_74 : decode cX12_putTemplates 74 = .ok (.invokevirtual 295, 3) := by decide +kernel
theorem dX12_putTemplates_77 : decode cX12_putTemplates 77 = .ok (.return_, 1) := by decide +kernel
set_option maxHeartbeats 4000000 in
set_option maxRecDepth 100000 in
theorem r_putTemplate (G : EnvG) (l : Launch) (Φ : Hm) (sz x : Nat) (rd : (Nat → Int32) → Prop) (cr : (Nat → Int64) → Prop) (tp : (Nat → Int32) → Prop) (tt : (Nat → Int64) → Prop) (pt : (Nat → Int32) → Prop) (ql : (Nat → Int32) → Prop) (fl : Nat) (pe : Nat) (le : Nat) (nx : Nat) (il : Nat) (qu : Nat) (kn : Int32) (ec : Int32) (nu : Int32) (va : Int64) (st : Nat) (ep : Int32) (ti : Int32) (ad : Int32) (ob : Int64) (ra : Int32) (rt : Nat) (ex : Int32) (sa : Int64) (us : Int64) (tk : Nat) (th : Int32) (me : Int32) (dr : Int32) (se : Int64) (sn : Int64) (c : Cf) (fa : Nat → Int32) (fb : Nat → Int32) (t : Nat) (hx : G.2.2.2 ≤ x) (hI : Im G x (rd, (NNq c), cr, tp, tt, (SiQ fa), (AtQ fb), pt, ql, fl, pe, le, nx, il, qu, kn, ec, nu, va, st, ep, ti, ad, ob, ra, rt, ex, sa, us, tk, th, me, dr, se, sn) Φ) (ht : t < 4) (hl : le + 40 ≤ 700) : Ct G l yX12_putTemplate wsX12_putTemplate ({ frames := 3, cells := 0, slots := 0, locals := 66 }) 0 0 [.ref x, .int (nI t)] Φ sz (fun v Φ1 sz1 => (v = none) ∧ sz1 = sz ∧ (∃ (le1 : Nat), (le ≤ le1) ∧ (le1 ≤ le + 40) ∧ (le1 = le + 4 + 4 * esN c t) ∧ Im G x (rd, (NNq c), cr, tp, tt, (SiQ (upd fa t (me + 1))), (AtQ (upd fb t ti)), pt, ql, fl, pe, le1, nx, il, qu, kn, ec, nu, va, st, ep, ti, ad, ob, ra, rt, ex, sa, us, tk, th, me, dr, se, sn) Φ1) ∧ Fr x (fun j9 => j9 = 0 ∨ j9 = 3 ∨ j9 = 4 ∨ j9 = 8) Φ Φ1) := by
  refine Ct.of (cc := cX12_putTemplate) (maxL := 4) (ret := none) (by decide) rfl (Nat.le_of_ble_eq_true rfl) ?_
  intro p9 e9 s9 m9 w9 t9 k9 B
  show Z p9 l e9 _ s9 m9 _ w9 t9 k9 _ G 4 0 [(0, .ref x), (1, .int (nI t))] [] Φ sz 0 0
  refine z_aload_n B dX12_putTemplate_0 rfl 0 rfl ?_
  refine z_sipush (v := 256) B dX12_putTemplate_1 rfl ?_
  refine z_iload_n B dX12_putTemplate_4 rfl 1 rfl ?_
  refine z_iadd B dX12_putTemplate_5 ?_
  refine z_top (st1 := [.int (nI (256 + t)), .ref x]) (congrArg (fun w9 : Int32 => ([.int w9, .ref x] : List Value)) (nI_add 256 t)) ?_
  refine z_i2l (v := (nI (256 + t)).toInt64) B dX12_putTemplate_6 rfl ?_
  refine z_iconst (v := 2) B dX12_putTemplate_7 rfl ?_
  obtain ⟨n_1, v_1, n_2, h_1, b_13, b_1, b_2, b_3, b_4, b_5, b_6, b_7, b_8, b_9, b_10, b_11, b_12⟩ := im0 hI
  replace b_1 : 1 ≤ rt := b_1
  replace b_2 : rt ≤ 1024 := b_2
  replace b_3 : fl ≤ 12 := b_3
  replace b_4 : pe ≤ 24 := b_4
  replace b_5 : le ≤ 700 := b_5
  replace b_6 : qu ≤ 12 := b_6
  replace b_7 : n_1 ≤ 8 := b_7
  replace b_8 : n_2 ≤ 24 := b_8
  replace b_9 : tk ≤ 24 := b_9
  replace b_10 : il ≤ 700 := b_10
  replace b_11 : nx ≤ 701 := b_11
  replace b_12 : st ≤ 701 := b_12
  have h_2 : Φ x = some (o_ 14 [.int th, .ref (x + 1), .ref (x + 2), .int ti, .int ra, .int (nI rt), .int ex, .int ad, .ref (x + 3), .ref (x + 4), .int me, .long se, .ref (x + 5), .int (nI fl), .int dr, .long ob, .long sa, .long sn, .long us, .ref (x + 6), .ref (x + 7), .int (nI pe), .ref (x + 8), .int (nI le), .ref (x + 9), .ref (x + 10), .int (nI qu), .ref (x + 11), .ref (x + 12), .ref (x + 13), .ref (x + 14), .ref (x + 15), .ref (x + 16), .int (nI n_1), .long v_1, .ref (x + 17), .ref (x + 18), .ref (x + 19), .ref (x + 20), .ref (x + 21), .ref (x + 22), .int (nI n_2), .ref (x + 23), .ref (x + 24), .int (nI tk), .ref (x + 25), .int (nI il), .int (nI nx), .int ec, .int ep, .int kn, .int (nI st), .int nu, .long va]) := h_1
  refine z_callV (As := [.long ((nI (256 + t)).toInt64), .int 2]) (rest := []) B (r_put G l Φ sz x rd (NNq c) cr tp tt (SiQ fa) (AtQ fb) pt ql fl pe le nx il qu kn ec nu va st ep ti ad ob ra rt ex sa us tk th me dr se sn ((nI (256 + t)).toInt64) 2 hx hI (show 2 ≤ 8 by omega) (show le + 2 ≤ 700 by omega) (fun f9 h9 => h9.1)) (cwV 2 B.1.2.2.2.2 gX12_putTemplate_X12_put rfl rfl rfl (by decide +kernel) ⟨Nat.le_of_ble_eq_true rfl, Nat.le_of_ble_eq_true rfl⟩) h_2 rfl rfl rfl rfl (Nat.le_of_ble_eq_true rfl) dX12_putTemplate_8 ⟨Nat.le_of_ble_eq_true rfl, Nat.le_of_ble_eq_true rfl⟩ (fun r_1 Φ1 sz1 st1 hp1 hs1 => ?_)
  obtain ⟨rfl, hq1, ⟨n_3, b_14, hI1⟩, hF1⟩ := hp1
  subst sz1
  replace hs1 : st1 = [] := hs1
  subst st1
  replace hI1 : Im G x (rd, (NNq c), cr, tp, tt, (SiQ fa), (AtQ fb), pt, ql, fl, pe, n_3, nx, il, qu, kn, ec, nu, va, st, ep, ti, ad, ob, ra, rt, ex, sa, us, tk, th, me, dr, se, sn) Φ1 := hI1
  replace b_14 : n_3 = le + 2 := b_14
  refine z_aload_n B dX12_putTemplate_11 rfl 0 rfl ?_
  refine z_aload_n B dX12_putTemplate_12 rfl 0 rfl ?_
  refine z_iload_n B dX12_putTemplate_13 rfl 1 rfl ?_
  obtain ⟨n_4, v_2, n_5, h_3, b_27, b_15, b_16, b_17, b_18, b_19, b_20, b_21, b_22, b_23, b_24, b_25, b_26⟩ := im0 hI1
  replace b_15 : 1 ≤ rt := b_15
  replace b_16 : rt ≤ 1024 := b_16
  replace b_17 : fl ≤ 12 := b_17
  replace b_18 : pe ≤ 24 := b_18
  replace b_19 : n_3 ≤ 700 := b_19
  replace b_20 : qu ≤ 12 := b_20
  replace b_21 : n_4 ≤ 8 := b_21
  replace b_22 : n_5 ≤ 24 := b_22
  replace b_23 : tk ≤ 24 := b_23
  replace b_24 : il ≤ 700 := b_24
  replace b_25 : nx ≤ 701 := b_25
  replace b_26 : st ≤ 701 := b_26
  have h_4 : Φ1 x = some (o_ 14 [.int th, .ref (x + 1), .ref (x + 2), .int ti, .int ra, .int (nI rt), .int ex, .int ad, .ref (x + 3), .ref (x + 4), .int me, .long se, .ref (x + 5), .int (nI fl), .int dr, .long ob, .long sa, .long sn, .long us, .ref (x + 6), .ref (x + 7), .int (nI pe), .ref (x + 8), .int (nI n_3), .ref (x + 9), .ref (x + 10), .int (nI qu), .ref (x + 11), .ref (x + 12), .ref (x + 13), .ref (x + 14), .ref (x + 15), .ref (x + 16), .int (nI n_4), .long v_2, .ref (x + 17), .ref (x + 18), .ref (x + 19), .ref (x + 20), .ref (x + 21), .ref (x + 22), .int (nI n_5), .ref (x + 23), .ref (x + 24), .int (nI tk), .ref (x + 25), .int (nI il), .int (nI nx), .int ec, .int ep, .int kn, .int (nI st), .int nu, .long va]) := h_3
  refine z_callV (As := [.int (nI t)]) (rest := [.ref x]) B (r_effective G l Φ1 sz x rd (NNq c) cr tp tt (SiQ fa) (AtQ fb) pt ql fl pe n_3 nx il qu kn ec nu va st ep ti ad ob ra rt ex sa us tk th me dr se sn t hx hI1 (show t < 4 by omega) (fun f9 h9 => h9.1)) (cwV 1 B.1.2.2.2.2 gX12_putTemplate_X12_effective rfl rfl rfl (by decide +kernel) ⟨Nat.le_of_ble_eq_true rfl, Nat.le_of_ble_eq_true rfl⟩) h_4 rfl rfl rfl rfl (Nat.le_of_ble_eq_true rfl) dX12_putTemplate_14 ⟨Nat.le_of_ble_eq_true rfl, Nat.le_of_ble_eq_true rfl⟩ (fun r_2 Φ2 sz2 st2 hp2 hs2 => ?_)
  obtain ⟨⟨v_3, rfl⟩, hq2, hI2, hF2⟩ := hp2
  subst sz2
  replace hs2 : st2 = [.int v_3, .ref x] := hs2
  subst st2
  replace hI2 : Im G x (rd, (NNq c), cr, tp, tt, (SiQ fa), (AtQ fb), pt, ql, fl, pe, n_3, nx, il, qu, kn, ec, nu, va, st, ep, ti, ad, ob, ra, rt, ex, sa, us, tk, th, me, dr, se, sn) Φ2 := hI2
  refine z_callS (As := [.int v_3]) (rest := [.ref x]) B (r_bitCount G l Φ2 sz x rd (NNq c) cr tp tt (SiQ fa) (AtQ fb) pt ql fl pe n_3 nx il qu kn ec nu va st ep ti ad ob ra rt ex sa us tk th me dr se sn v_3 hx hI2 (fun f9 h9 => h9.1)) (va_cwS 1 B.1.2.2.2.2 gX12_putTemplate_X12_bitCount rfl rfl rfl (by decide +kernel) ⟨Nat.le_of_ble_eq_true rfl, Nat.le_of_ble_eq_true rfl⟩) rfl rfl (Nat.le_of_ble_eq_true rfl) dX12_putTemplate_17 ⟨Nat.le_of_ble_eq_true rfl, Nat.le_of_ble_eq_true rfl⟩ (fun r_3 Φ3 sz3 st3 hp3 hs3 => ?_)
  obtain ⟨⟨v_4, rfl⟩, hq3, hI3, hF3⟩ := hp3
  subst sz3
  replace hs3 : st3 = [.int v_4, .ref x] := hs3
  subst st3
  replace hI3 : Im G x (rd, (NNq c), cr, tp, tt, (SiQ fa), (AtQ fb), pt, ql, fl, pe, n_3, nx, il, qu, kn, ec, nu, va, st, ep, ti, ad, ob, ra, rt, ex, sa, us, tk, th, me, dr, se, sn) Φ3 := hI3
  refine z_i2l (v := v_4.toInt64) B dX12_putTemplate_20 rfl ?_
  refine z_iconst (v := 2) B dX12_putTemplate_21 rfl ?_
  have h_5 : Φ3 x = some (o_ 14 [.int th, .ref (x + 1), .ref (x + 2), .int ti, .int ra, .int (nI rt), .int ex, .int ad, .ref (x + 3), .ref (x + 4), .int me, .long se, .ref (x + 5), .int (nI fl), .int dr, .long ob, .long sa, .long sn, .long us, .ref (x + 6), .ref (x + 7), .int (nI pe), .ref (x + 8), .int (nI n_3), .ref (x + 9), .ref (x + 10), .int (nI qu), .ref (x + 11), .ref (x + 12), .ref (x + 13), .ref (x + 14), .ref (x + 15), .ref (x + 16), .int (nI n_4), .long v_2, .ref (x + 17), .ref (x + 18), .ref (x + 19), .ref (x + 20), .ref (x + 21), .ref (x + 22), .int (nI n_5), .ref (x + 23), .ref (x + 24), .int (nI tk), .ref (x + 25), .int (nI il), .int (nI nx), .int ec, .int ep, .int kn, .int (nI st), .int nu, .long va]) := ((hF3 x (fun j9 h8 h7 => (show False from h7).elim)).trans ((hF2 x (fun j9 h8 h7 => (show False from h7).elim)).trans h_4))
  refine z_callV (As := [.long v_4.toInt64, .int 2]) (rest := []) B (r_put G l Φ3 sz x rd (NNq c) cr tp tt (SiQ fa) (AtQ fb) pt ql fl pe n_3 nx il qu kn ec nu va st ep ti ad ob ra rt ex sa us tk th me dr se sn v_4.toInt64 2 hx hI3 (show 2 ≤ 8 by omega) (show n_3 + 2 ≤ 700 by omega) (fun f9 h9 => h9.1)) (cwV 2 B.1.2.2.2.2 gX12_putTemplate_X12_put rfl rfl rfl (by decide +kernel) ⟨Nat.le_of_ble_eq_true rfl, Nat.le_of_ble_eq_true rfl⟩) h_5 rfl rfl rfl rfl (Nat.le_of_ble_eq_true rfl) dX12_putTemplate_22 ⟨Nat.le_of_ble_eq_true rfl, Nat.le_of_ble_eq_true rfl⟩ (fun r_4 Φ4 sz4 st4 hp4 hs4 => ?_)
  obtain ⟨rfl, hq4, ⟨n_6, b_28, hI4⟩, hF4⟩ := hp4
  subst sz4
  replace hs4 : st4 = [] := hs4
  subst st4
  replace hI4 : Im G x (rd, (NNq c), cr, tp, tt, (SiQ fa), (AtQ fb), pt, ql, fl, pe, n_6, nx, il, qu, kn, ec, nu, va, st, ep, ti, ad, ob, ra, rt, ex, sa, us, tk, th, me, dr, se, sn) Φ4 := hI4
  replace b_28 : n_6 = n_3 + 2 := b_28
  refine z_iconst (v := 0) B dX12_putTemplate_25 rfl ?_
  refine z_istore_n (lv' := [(2, .int 0), (0, .ref x), (1, .int (nI t))]) B dX12_putTemplate_26 rfl (Nat.le_of_ble_eq_true rfl) rfl ?_
  refine z_lv [0, 1, 2] rfl ?_
  refine z_loop (α := Nat × Nat) (fun (a9 : Nat × Nat) Φi => Im G x (rd, (NNq c), cr, tp, tt, (SiQ fa), (AtQ fb), pt, ql, fl, pe, a9.2, nx, il, qu, kn, ec, nu, va, st, ep, ti, ad, ob, ra, rt, ex, sa, us, tk, th, me, dr, se, sn) Φi ∧ Fr x (fun j9 => j9 = 0 ∨ j9 = 3 ∨ j9 = 4 ∨ j9 = 8) Φ4 Φi ∧ (a9.1 ≤ 9) ∧ (n_6 ≤ a9.2) ∧ (a9.2 ≤ n_6 + 4 * a9.1) ∧ (a9.1 ≤ szC c t) ∧ (a9.2 = n_6 + 4 * fM (rwC c t) (c 9) a9.1) ∧ True) (fun a9 => [(2, .int (nI (a9.1))), (0, .ref x), (1, .int (nI t))]) (fun a9 => 9 - a9.1) ?_ (0, n_6) ⟨hI4, fun _ _ => rfl, (show 0 ≤ 9 by omega), (show n_6 ≤ n_6 by omega), (show n_6 ≤ n_6 + 4 * 0 by omega), (show 0 ≤ szC c t by omega), rfl, trivial⟩
  rintro ⟨i_1, i_2⟩ Φl1 ⟨hI5, hF5, b_29, b_30, b_31, b_32, b_33, -⟩ ih1
  replace hI5 : Im G x (rd, (NNq c), cr, tp, tt, (SiQ fa), (AtQ fb), pt, ql, fl, pe, i_2, nx, il, qu, kn, ec, nu, va, st, ep, ti, ad, ob, ra, rt, ex, sa, us, tk, th, me, dr, se, sn) Φl1 := hI5
  replace b_29 : i_1 ≤ 9 := b_29
  replace b_30 : n_6 ≤ i_2 := b_30
  replace b_31 : i_2 ≤ n_6 + 4 * i_1 := b_31
  replace b_32 : i_1 ≤ szC c t := b_32
  replace b_33 : i_2 = n_6 + 4 * fM (rwC c t) (c 9) i_1 := b_33
  show Z p9 l e9 _ s9 m9 _ w9 t9 k9 _ G 4 27 [(2, .int (nI i_1)), (0, .ref x), (1, .int (nI t))] [] Φl1 _ _ _
  refine z_iload_n B dX12_putTemplate_27 rfl 0 rfl ?_
  refine z_aload_n B dX12_putTemplate_28 rfl 1 rfl ?_
  refine z_iload_n B dX12_putTemplate_29 rfl 2 rfl ?_
  obtain ⟨n_7, v_5, n_8, h_6, b_46, b_34, b_35, b_36, b_37, b_38, b_39, b_40, b_41, b_42, b_43, b_44, b_45⟩ := im0 hI5
  replace b_34 : 1 ≤ rt := b_34
  replace b_35 : rt ≤ 1024 := b_35
  replace b_36 : fl ≤ 12 := b_36
  replace b_37 : pe ≤ 24 := b_37
  replace b_38 : i_2 ≤ 700 := b_38
  replace b_39 : qu ≤ 12 := b_39
  replace b_40 : n_7 ≤ 8 := b_40
  replace b_41 : n_8 ≤ 24 := b_41
  replace b_42 : tk ≤ 24 := b_42
  replace b_43 : il ≤ 700 := b_43
  replace b_44 : nx ≤ 701 := b_44
  replace b_45 : st ≤ 701 := b_45
  have h_7 : Φl1 x = some (o_ 14 [.int th, .ref (x + 1), .ref (x + 2), .int ti, .int ra, .int (nI rt), .int ex, .int ad, .ref (x + 3), .ref (x + 4), .int me, .long se, .ref (x + 5), .int (nI fl), .int dr, .long ob, .long sa, .long sn, .long us, .ref (x + 6), .ref (x + 7), .int (nI pe), .ref (x + 8), .int (nI i_2), .ref (x + 9), .ref (x + 10), .int (nI qu), .ref (x + 11), .ref (x + 12), .ref (x + 13), .ref (x + 14), .ref (x + 15), .ref (x + 16), .int (nI n_7), .long v_5, .ref (x + 17), .ref (x + 18), .ref (x + 19), .ref (x + 20), .ref (x + 21), .ref (x + 22), .int (nI n_8), .ref (x + 23), .ref (x + 24), .int (nI tk), .ref (x + 25), .int (nI il), .int (nI nx), .int ec, .int ep, .int kn, .int (nI st), .int nu, .long va]) := h_6
  refine z_callV (As := [.int (nI t)]) (rest := [.int (nI i_1)]) B (r_sizeOfC G l Φl1 sz x rd cr tp tt (SiQ fa) (AtQ fb) pt ql fl pe i_2 nx il qu kn ec nu va st ep ti ad ob ra rt ex sa us tk th me dr se sn c t hx hI5 (show t < 4 by omega)) (cwV 1 B.1.2.2.2.2 gX12_putTemplate_X12_sizeOf rfl rfl rfl (by decide +kernel) ⟨Nat.le_of_ble_eq_true rfl, Nat.le_of_ble_eq_true rfl⟩) h_7 rfl rfl rfl rfl (Nat.le_of_ble_eq_true rfl) dX12_putTemplate_30 ⟨Nat.le_of_ble_eq_true rfl, Nat.le_of_ble_eq_true rfl⟩ (fun r_5 Φ5 sz5 st5 hp5 hs5 => ?_)
  obtain ⟨⟨b_47, rfl⟩, hq5, hI6, hF6⟩ := hp5
  subst sz5
  replace hs5 : st5 = [.int (nI (szC c t)), .int (nI i_1)] := hs5
  subst st5
  replace b_47 : szC c t ≤ 9 := b_47
  replace hI6 : Im G x (rd, (NNq c), cr, tp, tt, (SiQ fa), (AtQ fb), pt, ql, fl, pe, i_2, nx, il, qu, kn, ec, nu, va, st, ep, ti, ad, ob, ra, rt, ex, sa, us, tk, th, me, dr, se, sn) Φ5 := hI6
  refine z_icmp_ge (tgt := 77) B dX12_putTemplate_33 rfl (fun c_1 => ?_) (fun c_1 => ?_)
  · have e_1 : szC c t ≤ i_1 := (nI_leI (a := szC c t) (b := i_1) (by omega) (by omega)).mp c_1
    have hes9 : fM (rwC c t) (c 9) i_1 = esN c t := congrArg (fM (rwC c t) (c 9)) (show i_1 = szC c t by omega)
    refine z_aload_n B dX12_putTemplate_77 rfl 1 rfl ?_
    have h_8 : Φ5 x = some (o_ 14 [.int th, .ref (x + 1), .ref (x + 2), .int ti, .int ra, .int (nI rt), .int ex, .int ad, .ref (x + 3), .ref (x + 4), .int me, .long se, .ref (x + 5), .int (nI fl), .int dr, .long ob, .long sa, .long sn, .long us, .ref (x + 6), .ref (x + 7), .int (nI pe), .ref (x + 8), .int (nI i_2), .ref (x + 9), .ref (x + 10), .int (nI qu), .ref (x + 11), .ref (x + 12), .ref (x + 13), .ref (x + 14), .ref (x + 15), .ref (x + 16), .int (nI n_7), .long v_5, .ref (x + 17), .ref (x + 18), .ref (x + 19), .ref (x + 20), .ref (x + 21), .ref (x + 22), .int (nI n_8), .ref (x + 23), .ref (x + 24), .int (nI tk), .ref (x + 25), .int (nI il), .int (nI nx), .int ec, .int ep, .int kn, .int (nI st), .int nu, .long va]) := ((hF6 x (fun j9 h8 h7 => (show False from h7).elim)).trans h_7)
    refine z_get (ref := "FlowExporterModel") (C := RX12) (T := TX12) (N := 54) (ci := 14) (v := .ref (x + 3)) B hu_X12_putTemplate_X12 rfl 8 (Nat.le_of_ble_eq_true rfl) hv_X12_putTemplate_20 rfl h_8 rfl dX12_putTemplate_78 ?_
    refine z_iload_n B dX12_putTemplate_81 rfl 2 rfl ?_
    refine z_aload_n B dX12_putTemplate_82 rfl 1 rfl ?_
    refine z_get (ref := "FlowExporterModel") (C := RX12) (T := TX12) (N := 54) (ci := 14) (v := .int me) B hu_X12_putTemplate_X12 rfl 10 (Nat.le_of_ble_eq_true rfl) hv_X12_putTemplate_142 rfl h_8 rfl dX12_putTemplate_83 ?_
    obtain ⟨f_1, h_9, r_6⟩ := imk (k := 3) hI6
    replace r_6 : (SiQ fa) f_1 := r_6
    have h_10 : Φ5 (x + 3) = some (ai_ G 4 f_1) := h_9
    refine z_iast B h_10 (Nat.le_trans hx (Nat.le_add_right x 3)) (vp_in_nI (by omega) (by omega)) dX12_putTemplate_86 (fun Φ6 hΦ1 => ?_)
    have h_11 : Φ6 (x + 3) = some (ai_ G 4 (upd f_1 (nI t).toNatClampNeg me)) := fset_at hΦ1
    have hI7 : Im G x (rd, (NNq c), cr, tp, tt, (fun g9 => g9 = (upd f_1 (nI t).toNatClampNeg me)), (AtQ fb), pt, ql, fl, pe, i_2, nx, il, qu, kn, ec, nu, va, st, ep, ti, ad, ob, ra, rt, ex, sa, us, tk, th, me, dr, se, sn) Φ6 := Im.put3 (sI1 := (fun g9 => g9 = (upd f_1 (nI t).toNatClampNeg me))) hI6 hΦ1 rfl
    have hI8 : Im G x (rd, (NNq c), cr, tp, tt, (SiQ (upd fa t (me + 1))), (AtQ fb), pt, ql, fl, pe, i_2, nx, il, qu, kn, ec, nu, va, st, ep, ti, ad, ob, ra, rt, ex, sa, us, tk, th, me, dr, se, sn) Φ6 := Im.weak5 hI7 (fun _ q9 => q9) (fun _ q9 => q9) (fun _ q9 => q9) (fun _ q9 => q9) (fun _ q9 => q9) (eqw (SiQ.s r_6 (nI_clamp (by omega)))) (fun _ q9 => q9) (fun _ q9 => q9) (fun _ q9 => q9)
    refine z_aload_n B dX12_putTemplate_87 rfl 1 rfl ?_
    have h_12 : Φ6 x = some (o_ 14 [.int th, .ref (x + 1), .ref (x + 2), .int ti, .int ra, .int (nI rt), .int ex, .int ad, .ref (x + 3), .ref (x + 4), .int me, .long se, .ref (x + 5), .int (nI fl), .int dr, .long ob, .long sa, .long sn, .long us, .ref (x + 6), .ref (x + 7), .int (nI pe), .ref (x + 8), .int (nI i_2), .ref (x + 9), .ref (x + 10), .int (nI qu), .ref (x + 11), .ref (x + 12), .ref (x + 13), .ref (x + 14), .ref (x + 15), .ref (x + 16), .int (nI n_7), .long v_5, .ref (x + 17), .ref (x + 18), .ref (x + 19), .ref (x + 20), .ref (x + 21), .ref (x + 22), .int (nI n_8), .ref (x + 23), .ref (x + 24), .int (nI tk), .ref (x + 25), .int (nI il), .int (nI nx), .int ec, .int ep, .int kn, .int (nI st), .int nu, .long va]) := ((fset_fr hΦ1 (ne_off (x := x) (i := 0) (j := 3) rfl)).trans h_8)
    refine z_get (ref := "FlowExporterModel") (C := RX12) (T := TX12) (N := 54) (ci := 14) (v := .ref (x + 4)) B hu_X12_putTemplate_X12 rfl 9 (Nat.le_of_ble_eq_true rfl) hv_X12_putTemplate_23 rfl h_12 rfl dX12_putTemplate_88 ?_
    refine z_iload_n B dX12_putTemplate_91 rfl 2 rfl ?_
    refine z_aload_n B dX12_putTemplate_92 rfl 1 rfl ?_
    refine z_get (ref := "FlowExporterModel") (C := RX12) (T := TX12) (N := 54) (ci := 14) (v := .int ti) B hu_X12_putTemplate_X12 rfl 3 (Nat.le_of_ble_eq_true rfl) hv_X12_putTemplate_101 rfl h_12 rfl dX12_putTemplate_93 ?_
    obtain ⟨f_2, h_13, r_7⟩ := imk (k := 4) hI8
    replace r_7 : (AtQ fb) f_2 := r_7
    have h_14 : Φ6 (x + 4) = some (ai_ G 4 f_2) := h_13
    refine z_iast B h_14 (Nat.le_trans hx (Nat.le_add_right x 4)) (vp_in_nI (by omega) (by omega)) dX12_putTemplate_96 (fun Φ7 hΦ2 => ?_)
    have h_15 : Φ7 (x + 4) = some (ai_ G 4 (upd f_2 (nI t).toNatClampNeg ti)) := fset_at hΦ2
    have hI9 : Im G x (rd, (NNq c), cr, tp, tt, (SiQ (upd fa t (me + 1))), (fun g9 => g9 = (upd f_2 (nI t).toNatClampNeg ti)), pt, ql, fl, pe, i_2, nx, il, qu, kn, ec, nu, va, st, ep, ti, ad, ob, ra, rt, ex, sa, us, tk, th, me, dr, se, sn) Φ7 := Im.put4 (sT1 := (fun g9 => g9 = (upd f_2 (nI t).toNatClampNeg ti))) hI8 hΦ2 rfl
    have hI10 : Im G x (rd, (NNq c), cr, tp, tt, (SiQ (upd fa t (me + 1))), (AtQ (upd fb t ti)), pt, ql, fl, pe, i_2, nx, il, qu, kn, ec, nu, va, st, ep, ti, ad, ob, ra, rt, ex, sa, us, tk, th, me, dr, se, sn) Φ7 := Im.weak5 hI9 (fun _ q9 => q9) (fun _ q9 => q9) (fun _ q9 => q9) (fun _ q9 => q9) (fun _ q9 => q9) (fun _ q9 => q9) (eqw (AtQ.s r_7 (nI_clamp (by omega)))) (fun _ q9 => q9) (fun _ q9 => q9)
    exact z_ret_v B dX12_putTemplate_97 ⟨rfl, rfl, ⟨i_2, (show le ≤ i_2 by omega), (show i_2 ≤ le + 40 by omega), (by have h8 := b_33; rw [hes9] at h8; omega), hI10⟩, (fun b9 h9 => ((fset_fr hΦ2 (fun h8 => h9 (4) h8 (show 4 = 0 ∨ 4 = 3 ∨ 4 = 4 ∨ 4 = 8 by decide))).trans ((fset_fr hΦ1 (fun h8 => h9 (3) h8 (show 3 = 0 ∨ 3 = 3 ∨ 3 = 4 ∨ 3 = 8 by decide))).trans ((hF6 b9 (fun j9 h8 h7 => (show False from h7).elim)).trans ((hF5 b9 h9).trans ((hF4 b9 (fun j9 h8 h7 => h9 j9 h8 (fq_957 j9 h7))).trans ((hF3 b9 (fun j9 h8 h7 => (show False from h7).elim)).trans ((hF2 b9 (fun j9 h8 h7 => (show False from h7).elim)).trans ((hF1 b9 (fun j9 h8 h7 => h9 j9 h8 (fq_957 j9 h7))).trans rfl)))))))))⟩
  · have e_2 : ¬ (szC c t ≤ i_1) := fun h9 => c_1 ((nI_leI (a := szC c t) (b := i_1) (by omega) (by omega)).mpr h9)
    refine z_aload_n B dX12_putTemplate_36 rfl 1 rfl ?_
    refine z_iload_n B dX12_putTemplate_37 rfl 2 rfl ?_
    refine z_iload_n B dX12_putTemplate_38 rfl 0 rfl ?_
    have h_16 : Φ5 x = some (o_ 14 [.int th, .ref (x + 1), .ref (x + 2), .int ti, .int ra, .int (nI rt), .int ex, .int ad, .ref (x + 3), .ref (x + 4), .int me, .long se, .ref (x + 5), .int (nI fl), .int dr, .long ob, .long sa, .long sn, .long us, .ref (x + 6), .ref (x + 7), .int (nI pe), .ref (x + 8), .int (nI i_2), .ref (x + 9), .ref (x + 10), .int (nI qu), .ref (x + 11), .ref (x + 12), .ref (x + 13), .ref (x + 14), .ref (x + 15), .ref (x + 16), .int (nI n_7), .long v_5, .ref (x + 17), .ref (x + 18), .ref (x + 19), .ref (x + 20), .ref (x + 21), .ref (x + 22), .int (nI n_8), .ref (x + 23), .ref (x + 24), .int (nI tk), .ref (x + 25), .int (nI il), .int (nI nx), .int ec, .int ep, .int kn, .int (nI st), .int nu, .long va]) := ((hF6 x (fun j9 h8 h7 => (show False from h7).elim)).trans h_7)
    refine z_callV (As := [.int (nI t), .int (nI i_1)]) (rest := []) B (r_fieldOfC G l Φ5 sz x rd cr tp tt (SiQ fa) (AtQ fb) pt ql fl pe i_2 nx il qu kn ec nu va st ep ti ad ob ra rt ex sa us tk th me dr se sn c t i_1 hx hI6 (show t < 4 by omega) (show i_1 < 9 by omega)) (cwV 2 B.1.2.2.2.2 gX12_putTemplate_X12_fieldOf rfl rfl rfl (by decide +kernel) ⟨Nat.le_of_ble_eq_true rfl, Nat.le_of_ble_eq_true rfl⟩) h_16 rfl rfl rfl rfl (Nat.le_of_ble_eq_true rfl) dX12_putTemplate_39 ⟨Nat.le_of_ble_eq_true rfl, Nat.le_of_ble_eq_true rfl⟩ (fun r_8 Φ8 sz6 st6 hp6 hs6 => ?_)
    obtain ⟨⟨n_9, b_48, e_3, rfl⟩, hq6, hI11, hF7⟩ := hp6
    subst sz6
    replace hs6 : st6 = [.int (nI n_9)] := hs6
    subst st6
    replace e_3 : rwC c t i_1 = nI n_9 := e_3
    replace hI11 : Im G x (rd, (NNq c), cr, tp, tt, (SiQ fa), (AtQ fb), pt, ql, fl, pe, i_2, nx, il, qu, kn, ec, nu, va, st, ep, ti, ad, ob, ra, rt, ex, sa, us, tk, th, me, dr, se, sn) Φ8 := hI11
    refine z_istore_n (lv' := [(3, .int (nI n_9)), (2, .int (nI i_1)), (0, .ref x), (1, .int (nI t))]) B dX12_putTemplate_42 rfl (Nat.le_of_ble_eq_true rfl) rfl ?_
    refine z_aload_n B dX12_putTemplate_43 rfl 2 rfl ?_
    refine z_iload_n B dX12_putTemplate_44 rfl 0 rfl ?_
    have h_17 : Φ8 x = some (o_ 14 [.int th, .ref (x + 1), .ref (x + 2), .int ti, .int ra, .int (nI rt), .int ex, .int ad, .ref (x + 3), .ref (x + 4), .int me, .long se, .ref (x + 5), .int (nI fl), .int dr, .long ob, .long sa, .long sn, .long us, .ref (x + 6), .ref (x + 7), .int (nI pe), .ref (x + 8), .int (nI i_2), .ref (x + 9), .ref (x + 10), .int (nI qu), .ref (x + 11), .ref (x + 12), .ref (x + 13), .ref (x + 14), .ref (x + 15), .ref (x + 16), .int (nI n_7), .long v_5, .ref (x + 17), .ref (x + 18), .ref (x + 19), .ref (x + 20), .ref (x + 21), .ref (x + 22), .int (nI n_8), .ref (x + 23), .ref (x + 24), .int (nI tk), .ref (x + 25), .int (nI il), .int (nI nx), .int ec, .int ep, .int kn, .int (nI st), .int nu, .long va]) := ((hF7 x (fun j9 h8 h7 => (show False from h7).elim)).trans h_16)
    refine z_callV (As := [.int (nI n_9)]) (rest := []) B (r_isSupportedC G l Φ8 sz x rd cr tp tt (SiQ fa) (AtQ fb) pt ql fl pe i_2 nx il qu kn ec nu va st ep ti ad ob ra rt ex sa us tk th me dr se sn c (nI n_9) hx hI11 ) (cwV 1 B.1.2.2.2.2 gX12_putTemplate_X12_isSupported rfl rfl rfl (by decide +kernel) ⟨Nat.le_of_ble_eq_true rfl, Nat.le_of_ble_eq_true rfl⟩) h_17 rfl rfl rfl rfl (Nat.le_of_ble_eq_true rfl) dX12_putTemplate_45 ⟨Nat.le_of_ble_eq_true rfl, Nat.le_of_ble_eq_true rfl⟩ (fun r_9 Φ9 sz7 st7 hp7 hs7 => ?_)
    obtain ⟨rfl, hq7, hI12, hF8⟩ := hp7
    subst sz7
    replace hs7 : st7 = [.int (suV c (nI n_9))] := hs7
    subst st7
    have hb1 := suV_01 c (nI n_9)
    replace hI12 : Im G x (rd, (NNq c), cr, tp, tt, (SiQ fa), (AtQ fb), pt, ql, fl, pe, i_2, nx, il, qu, kn, ec, nu, va, st, ep, ti, ad, ob, ra, rt, ex, sa, us, tk, th, me, dr, se, sn) Φ9 := hI12
    refine z_if_ne (tgt := 54) B dX12_putTemplate_48 rfl (fun c_2 => ?_) (fun c_2 => ?_)
    · refine z_aload_n B dX12_putTemplate_54 rfl 2 rfl ?_
      refine z_iload_n B dX12_putTemplate_55 rfl 0 rfl ?_
      refine z_i2l (v := (nI n_9).toInt64) B dX12_putTemplate_56 rfl ?_
      refine z_iconst (v := 2) B dX12_putTemplate_57 rfl ?_
      have h_18 : Φ9 x = some (o_ 14 [.int th, .ref (x + 1), .ref (x + 2), .int ti, .int ra, .int (nI rt), .int ex, .int ad, .ref (x + 3), .ref (x + 4), .int me, .long se, .ref (x + 5), .int (nI fl), .int dr, .long ob, .long sa, .long sn, .long us, .ref (x + 6), .ref (x + 7), .int (nI pe), .ref (x + 8), .int (nI i_2), .ref (x + 9), .ref (x + 10), .int (nI qu), .ref (x + 11), .ref (x + 12), .ref (x + 13), .ref (x + 14), .ref (x + 15), .ref (x + 16), .int (nI n_7), .long v_5, .ref (x + 17), .ref (x + 18), .ref (x + 19), .ref (x + 20), .ref (x + 21), .ref (x + 22), .int (nI n_8), .ref (x + 23), .ref (x + 24), .int (nI tk), .ref (x + 25), .int (nI il), .int (nI nx), .int ec, .int ep, .int kn, .int (nI st), .int nu, .long va]) := ((hF8 x (fun j9 h8 h7 => (show False from h7).elim)).trans h_17)
      refine z_callV (As := [.long ((nI n_9).toInt64), .int 2]) (rest := []) B (r_put G l Φ9 sz x rd (NNq c) cr tp tt (SiQ fa) (AtQ fb) pt ql fl pe i_2 nx il qu kn ec nu va st ep ti ad ob ra rt ex sa us tk th me dr se sn ((nI n_9).toInt64) 2 hx hI12 (show 2 ≤ 8 by omega) (show i_2 + 2 ≤ 700 by omega) (fun f9 h9 => h9.1)) (cwV 2 B.1.2.2.2.2 gX12_putTemplate_X12_put rfl rfl rfl (by decide +kernel) ⟨Nat.le_of_ble_eq_true rfl, Nat.le_of_ble_eq_true rfl⟩) h_18 rfl rfl rfl rfl (Nat.le_of_ble_eq_true rfl) dX12_putTemplate_58 ⟨Nat.le_of_ble_eq_true rfl, Nat.le_of_ble_eq_true rfl⟩ (fun r_10 Φ10 sz8 st8 hp8 hs8 => ?_)
      obtain ⟨rfl, hq8, ⟨n_10, b_49, hI13⟩, hF9⟩ := hp8
      subst sz8
      replace hs8 : st8 = [] := hs8
      subst st8
      replace hI13 : Im G x (rd, (NNq c), cr, tp, tt, (SiQ fa), (AtQ fb), pt, ql, fl, pe, n_10, nx, il, qu, kn, ec, nu, va, st, ep, ti, ad, ob, ra, rt, ex, sa, us, tk, th, me, dr, se, sn) Φ10 := hI13
      replace b_49 : n_10 = i_2 + 2 := b_49
      refine z_aload_n B dX12_putTemplate_61 rfl 2 rfl ?_
      refine z_iload_n B dX12_putTemplate_62 rfl 0 rfl ?_
      refine z_callS (As := [.int (nI n_9)]) (rest := [.ref x]) B (r_lengthOf G l Φ10 sz x rd (NNq c) cr tp tt (SiQ fa) (AtQ fb) pt ql fl pe n_10 nx il qu kn ec nu va st ep ti ad ob ra rt ex sa us tk th me dr se sn n_9 hx hI13 (show n_9 < 2 ^ 31 by omega) (fun f9 h9 => h9.1)) (va_cwS 1 B.1.2.2.2.2 gX12_putTemplate_X12_lengthOf rfl rfl rfl (by decide +kernel) ⟨Nat.le_of_ble_eq_true rfl, Nat.le_of_ble_eq_true rfl⟩) rfl rfl (Nat.le_of_ble_eq_true rfl) dX12_putTemplate_63 ⟨Nat.le_of_ble_eq_true rfl, Nat.le_of_ble_eq_true rfl⟩ (fun r_11 Φ11 sz9 st9 hp9 hs9 => ?_)
      obtain ⟨rfl, hq9, hI14, hF10⟩ := hp9
      subst sz9
      replace hs9 : st9 = [.int (nI (lnN n_9)), .ref x] := hs9
      subst st9
      have b_50 := lnN_pos n_9
      have b_51 := lnN_le n_9
      replace hI14 : Im G x (rd, (NNq c), cr, tp, tt, (SiQ fa), (AtQ fb), pt, ql, fl, pe, n_10, nx, il, qu, kn, ec, nu, va, st, ep, ti, ad, ob, ra, rt, ex, sa, us, tk, th, me, dr, se, sn) Φ11 := hI14
      refine z_i2l (v := (nI (lnN n_9)).toInt64) B dX12_putTemplate_66 rfl ?_
      refine z_iconst (v := 2) B dX12_putTemplate_67 rfl ?_
      obtain ⟨n_11, v_6, n_12, h_19, b_64, b_52, b_53, b_54, b_55, b_56, b_57, b_58, b_59, b_60, b_61, b_62, b_63⟩ := im0 hI14
      replace b_52 : 1 ≤ rt := b_52
      replace b_53 : rt ≤ 1024 := b_53
      replace b_54 : fl ≤ 12 := b_54
      replace b_55 : pe ≤ 24 := b_55
      replace b_56 : n_10 ≤ 700 := b_56
      replace b_57 : qu ≤ 12 := b_57
      replace b_58 : n_11 ≤ 8 := b_58
      replace b_59 : n_12 ≤ 24 := b_59
      replace b_60 : tk ≤ 24 := b_60
      replace b_61 : il ≤ 700 := b_61
      replace b_62 : nx ≤ 701 := b_62
      replace b_63 : st ≤ 701 := b_63
      have h_20 : Φ11 x = some (o_ 14 [.int th, .ref (x + 1), .ref (x + 2), .int ti, .int ra, .int (nI rt), .int ex, .int ad, .ref (x + 3), .ref (x + 4), .int me, .long se, .ref (x + 5), .int (nI fl), .int dr, .long ob, .long sa, .long sn, .long us, .ref (x + 6), .ref (x + 7), .int (nI pe), .ref (x + 8), .int (nI n_10), .ref (x + 9), .ref (x + 10), .int (nI qu), .ref (x + 11), .ref (x + 12), .ref (x + 13), .ref (x + 14), .ref (x + 15), .ref (x + 16), .int (nI n_11), .long v_6, .ref (x + 17), .ref (x + 18), .ref (x + 19), .ref (x + 20), .ref (x + 21), .ref (x + 22), .int (nI n_12), .ref (x + 23), .ref (x + 24), .int (nI tk), .ref (x + 25), .int (nI il), .int (nI nx), .int ec, .int ep, .int kn, .int (nI st), .int nu, .long va]) := h_19
      refine z_callV (As := [.long ((nI (lnN n_9)).toInt64), .int 2]) (rest := []) B (r_put G l Φ11 sz x rd (NNq c) cr tp tt (SiQ fa) (AtQ fb) pt ql fl pe n_10 nx il qu kn ec nu va st ep ti ad ob ra rt ex sa us tk th me dr se sn ((nI (lnN n_9)).toInt64) 2 hx hI14 (show 2 ≤ 8 by omega) (show n_10 + 2 ≤ 700 by omega) (fun f9 h9 => h9.1)) (cwV 2 B.1.2.2.2.2 gX12_putTemplate_X12_put rfl rfl rfl (by decide +kernel) ⟨Nat.le_of_ble_eq_true rfl, Nat.le_of_ble_eq_true rfl⟩) h_20 rfl rfl rfl rfl (Nat.le_of_ble_eq_true rfl) dX12_putTemplate_68 ⟨Nat.le_of_ble_eq_true rfl, Nat.le_of_ble_eq_true rfl⟩ (fun r_12 Φ12 sz10 st10 hp10 hs10 => ?_)
      obtain ⟨rfl, hq10, ⟨n_13, b_65, hI15⟩, hF11⟩ := hp10
      subst sz10
      replace hs10 : st10 = [] := hs10
      subst st10
      replace hI15 : Im G x (rd, (NNq c), cr, tp, tt, (SiQ fa), (AtQ fb), pt, ql, fl, pe, n_13, nx, il, qu, kn, ec, nu, va, st, ep, ti, ad, ob, ra, rt, ex, sa, us, tk, th, me, dr, se, sn) Φ12 := hI15
      replace b_65 : n_13 = n_10 + 2 := b_65
      refine z_iinc (k := 1) (v := nI (i_1 + 1)) (lv' := [(2, .int (nI (i_1 + 1))), (3, .int (nI n_9)), (0, .ref x), (1, .int (nI t))]) B dX12_putTemplate_71 rfl (nI_add i_1 1) (Nat.le_of_ble_eq_true rfl) rfl ?_
      refine z_goto (tgt := 27) B dX12_putTemplate_74 rfl ?_
      refine z_lv [0, 2, 3] rfl ?_
      exact ih1 (i_1 + 1, n_13) Φ12 (show 9 - (i_1 + 1) < 9 - i_1 by omega) ⟨hI15, (fun b9 h9 => ((hF11 b9 (fun j9 h8 h7 => h9 j9 h8 (fq_957 j9 h7))).trans ((hF10 b9 (fun j9 h8 h7 => (show False from h7).elim)).trans ((hF9 b9 (fun j9 h8 h7 => h9 j9 h8 (fq_957 j9 h7))).trans ((hF8 b9 (fun j9 h8 h7 => (show False from h7).elim)).trans ((hF7 b9 (fun j9 h8 h7 => (show False from h7).elim)).trans ((hF6 b9 (fun j9 h8 h7 => (show False from h7).elim)).trans ((hF5 b9 h9).trans rfl)))))))), (show (i_1 + 1) ≤ 9 by omega), (show n_6 ≤ n_13 by omega), (show n_13 ≤ n_6 + 4 * (i_1 + 1) by omega), (show (i_1 + 1) ≤ szC c t by omega), (show n_13 = n_6 + 4 * fM (rwC c t) (c 9) (i_1 + 1) from (by rw [fM_y (f := rwC c t) (s := c 9) (j := i_1) (show bitI (rwC c t i_1) (c 9) by rw [e_3]; exact suV_b c_2)]; omega)), trivial⟩
    · refine z_goto (tgt := 71) B dX12_putTemplate_51 rfl ?_
      refine z_iinc (k := 1) (v := nI (i_1 + 1)) (lv' := [(2, .int (nI (i_1 + 1))), (3, .int (nI n_9)), (0, .ref x), (1, .int (nI t))]) B dX12_putTemplate_71 rfl (nI_add i_1 1) (Nat.le_of_ble_eq_true rfl) rfl ?_
      refine z_goto (tgt := 27) B dX12_putTemplate_74 rfl ?_
      refine z_lv [0, 2, 3] rfl ?_
      exact ih1 (i_1 + 1, i_2) Φ9 (show 9 - (i_1 + 1) < 9 - i_1 by omega) ⟨hI12, (fun b9 h9 => ((hF8 b9 (fun j9 h8 h7 => (show False from h7).elim)).trans ((hF7 b9 (fun j9 h8 h7 => (show False from h7).elim)).trans ((hF6 b9 (fun j9 h8 h7 => (show False from h7).elim)).trans ((hF5 b9 h9).trans rfl))))), (show (i_1 + 1) ≤ 9 by omega), (show n_6 ≤ i_2 by omega), (show i_2 ≤ n_6 + 4 * (i_1 + 1) by omega), (show (i_1 + 1) ≤ szC c t by omega), (show i_2 = n_6 + 4 * fM (rwC c t) (c 9) (i_1 + 1) from (by rw [fM_n (f := rwC c t) (s := c 9) (j := i_1) (show ¬ bitI (rwC c t i_1) (c 9) by rw [e_3]; exact suV_nb c_2)]; omega)), trivial⟩

theorem hu_X12_putTemplates_X12 : ∀ w ∈ u_ws RX12 TX12 54, w ∈ wsX12_putTemplates := fun _ h => List.mem_cons_of_mem _ (List.mem_append_left _ (List.mem_append_right _ (h)))

theorem hv_X12_putTemplates_280 : Cond.fieldLink RX12 280 "FlowExporterModel" (TX12 23).2.1 (TX12 23).2.2.1 ∈ wsX12_putTemplates := List.mem_cons_of_mem _ (List.mem_append_left _ (List.mem_append_left _ (List.mem_append_left _ (List.mem_of_getElem? (i := 0) rfl))))

theorem hv_X12_putTemplates_17 : Cond.fieldLink RX12 17 "FlowExporterModel" (TX12 2).2.1 (TX12 2).2.2.1 ∈ wsX12_putTemplates := List.mem_cons_of_mem _ (List.mem_append_left _ (List.mem_append_left _ (List.mem_append_left _ (List.mem_of_getElem? (i := 1) rfl))))

theorem fq_961 : ∀ j9 : Nat, (j9 = 8) → (j9 = 0 ∨ j9 = 3 ∨ j9 = 4 ∨ j9 = 8) := by
  intro j9 h
  omega

set_option maxHeartbeats 4000000 in
set_option maxRecDepth 100000 in
theorem r_putTemplates (G : EnvG) (l : Launch) (Φ : Hm) (sz x : Nat) (rd : (Nat → Int32) → Prop) (cr : (Nat → Int64) → Prop) (tp : (Nat → Int32) → Prop) (tt : (Nat → Int64) → Prop) (pt : (Nat → Int32) → Prop) (ql : (Nat → Int32) → Prop) (fl : Nat) (pe : Nat) (le : Nat) (nx : Nat) (il : Nat) (qu : Nat) (kn : Int32) (ec : Int32) (nu : Int32) (va : Int64) (st : Nat) (ep : Int32) (ti : Int32) (ad : Int32) (ob : Int64) (ra : Int32) (rt : Nat) (ex : Int32) (sa : Int64) (us : Int64) (tk : Nat) (th : Int32) (me : Int32) (dr : Int32) (se : Int64) (sn : Int64) (c : Cf) (fa : Nat → Int32) (fb : Nat → Int32) (hx : G.2.2.2 ≤ x) (hI : Im G x (rd, (NNq c), cr, tp, tt, (SiQ fa), (AtQ fb), pt, ql, fl, pe, le, nx, il, qu, kn, ec, nu, va, st, ep, ti, ad, ob, ra, rt, ex, sa, us, tk, th, me, dr, se, sn) Φ) (hl : le = 16) (hcw : CfW c) (hg : CfG c) : Ct G l yX12_putTemplates wsX12_putTemplates ({ frames := 4, cells := 0, slots := 0, locals := 89 }) 0 0 [.ref x] Φ sz (fun v Φ1 sz1 => (v = none) ∧ sz1 = sz ∧ (∃ (le1 : Nat) (fa1 : Nat → Int32) (fb1 : Nat → Int32), (le ≤ le1) ∧ (le1 ≤ le + 164) ∧ (∀ (rs9 : Int64) (sq9 : Int32), bgS c ti (fa, fb, me, rs9, sq9) = (le1, fa1, fb1, me, rs9, sq9)) ∧ (16 ≤ le1 ∧ le1 ≤ 180) ∧ Im G x (rd, (NNq c), cr, tp, tt, (SiQ fa1), (AtQ fb1), pt, ql, fl, pe, le1, nx, il, qu, kn, ec, nu, va, st, ep, ti, ad, ob, ra, rt, ex, sa, us, tk, th, me, dr, se, sn) Φ1) ∧ Fr x (fun j9 => j9 = 0 ∨ j9 = 3 ∨ j9 = 4 ∨ j9 = 8) Φ Φ1) := by
  refine Ct.of (cc := cX12_putTemplates) (maxL := 3) (ret := none) (by decide) rfl (Nat.le_of_ble_eq_true rfl) ?_
  intro p9 e9 s9 m9 w9 t9 k9 B
  show Z p9 l e9 _ s9 m9 _ w9 t9 k9 _ G 3 0 [(0, .ref x)] [] Φ sz 0 0
  refine z_aload_n B dX12_putTemplates_0 rfl 0 rfl ?_
  obtain ⟨n_1, v_1, n_2, h_1, b_13, b_1, b_2, b_3, b_4, b_5, b_6, b_7, b_8, b_9, b_10, b_11, b_12⟩ := im0 hI
  replace b_1 : 1 ≤ rt := b_1
  replace b_2 : rt ≤ 1024 := b_2
  replace b_3 : fl ≤ 12 := b_3
  replace b_4 : pe ≤ 24 := b_4
  replace b_5 : le ≤ 700 := b_5
  replace b_6 : qu ≤ 12 := b_6
  replace b_7 : n_1 ≤ 8 := b_7
  replace b_8 : n_2 ≤ 24 := b_8
  replace b_9 : tk ≤ 24 := b_9
  replace b_10 : il ≤ 700 := b_10
  replace b_11 : nx ≤ 701 := b_11
  replace b_12 : st ≤ 701 := b_12
  have h_2 : Φ x = some (o_ 14 [.int th, .ref (x + 1), .ref (x + 2), .int ti, .int ra, .int (nI rt), .int ex, .int ad, .ref (x + 3), .ref (x + 4), .int me, .long se, .ref (x + 5), .int (nI fl), .int dr, .long ob, .long sa, .long sn, .long us, .ref (x + 6), .ref (x + 7), .int (nI pe), .ref (x + 8), .int (nI le), .ref (x + 9), .ref (x + 10), .int (nI qu), .ref (x + 11), .ref (x + 12), .ref (x + 13), .ref (x + 14), .ref (x + 15), .ref (x + 16), .int (nI n_1), .long v_1, .ref (x + 17), .ref (x + 18), .ref (x + 19), .ref (x + 20), .ref (x + 21), .ref (x + 22), .int (nI n_2), .ref (x + 23), .ref (x + 24), .int (nI tk), .ref (x + 25), .int (nI il), .int (nI nx), .int ec, .int ep, .int kn, .int (nI st), .int nu, .long va]) := h_1
  refine z_get (ref := "FlowExporterModel") (C := RX12) (T := TX12) (N := 54) (ci := 14) (v := .int (nI le)) B hu_X12_putTemplates_X12 rfl 23 (Nat.le_of_ble_eq_true rfl) hv_X12_putTemplates_280 rfl h_2 rfl dX12_putTemplates_1 ?_
  refine z_istore_n (lv' := [(1, .int (nI le)), (0, .ref x)]) B dX12_putTemplates_4 rfl (Nat.le_of_ble_eq_true rfl) rfl ?_
  refine z_iconst (v := 0) B dX12_putTemplates_5 rfl ?_
  refine z_istore_n (lv' := [(2, .int 0), (1, .int (nI le)), (0, .ref x)]) B dX12_putTemplates_6 rfl (Nat.le_of_ble_eq_true rfl) rfl ?_
  refine z_lv [0, 1, 2] rfl ?_
  refine z_loop (α := Nat × Nat × (Nat → Int32) × (Nat → Int32)) (fun (a9 : Nat × Nat × (Nat → Int32) × (Nat → Int32)) Φi => Im G x (rd, (NNq c), cr, tp, tt, (SiQ a9.2.2.1), (AtQ a9.2.2.2), pt, ql, fl, pe, a9.2.1, nx, il, qu, kn, ec, nu, va, st, ep, ti, ad, ob, ra, rt, ex, sa, us, tk, th, me, dr, se, sn) Φi ∧ Fr x (fun j9 => j9 = 0 ∨ j9 = 3 ∨ j9 = 4 ∨ j9 = 8) Φ Φi ∧ (a9.1 ≤ 4) ∧ (le ≤ a9.2.1) ∧ (a9.2.1 ≤ le + 4 + 40 * a9.1) ∧ (ptI c ti (fa, fb, me, 0, 0) a9.1 = (a9.2.1, a9.2.2.1, a9.2.2.2, me, 0, 0)) ∧ True) (fun a9 => [(2, .int (nI (a9.1))), (1, .int (nI le)), (0, .ref x)]) (fun a9 => 4 - a9.1) ?_ (0, le, fa, fb) ⟨(Im.weak5 hI (fun _ q9 => q9) (fun _ q9 => q9) (fun _ q9 => q9) (fun _ q9 => q9) (fun _ q9 => q9) (fun _ q9 => q9) (fun _ q9 => q9) (fun _ q9 => q9) (fun _ q9 => q9)), fun _ _ => rfl, (show 0 ≤ 4 by omega), (show le ≤ le by omega), (show le ≤ le + 4 + 40 * 0 by omega), (by rw [hl]; rfl), trivial⟩
  rintro ⟨i_1, i_2, i_3, i_4⟩ Φl1 ⟨hI1, hF1, b_14, b_15, b_16, b_17, -⟩ ih1
  replace hI1 : Im G x (rd, (NNq c), cr, tp, tt, (SiQ i_3), (AtQ i_4), pt, ql, fl, pe, i_2, nx, il, qu, kn, ec, nu, va, st, ep, ti, ad, ob, ra, rt, ex, sa, us, tk, th, me, dr, se, sn) Φl1 := hI1
  replace b_14 : i_1 ≤ 4 := b_14
  replace b_15 : le ≤ i_2 := b_15
  replace b_16 : i_2 ≤ le + 4 + 40 * i_1 := b_16
  replace b_17 : ptI c ti (fa, fb, me, 0, 0) i_1 = (i_2, i_3, i_4, me, 0, 0) := b_17
  show Z p9 l e9 _ s9 m9 _ w9 t9 k9 _ G 3 7 [(2, .int (nI i_1)), (1, .int (nI le)), (0, .ref x)] [] Φl1 _ _ _
  refine z_iload_n B dX12_putTemplates_7 rfl 0 rfl ?_
  refine z_aload_n B dX12_putTemplates_8 rfl 2 rfl ?_
  obtain ⟨n_3, v_2, n_4, h_3, b_30, b_18, b_19, b_20, b_21, b_22, b_23, b_24, b_25, b_26, b_27, b_28, b_29⟩ := im0 hI1
  replace b_18 : 1 ≤ rt := b_18
  replace b_19 : rt ≤ 1024 := b_19
  replace b_20 : fl ≤ 12 := b_20
  replace b_21 : pe ≤ 24 := b_21
  replace b_22 : i_2 ≤ 700 := b_22
  replace b_23 : qu ≤ 12 := b_23
  replace b_24 : n_3 ≤ 8 := b_24
  replace b_25 : n_4 ≤ 24 := b_25
  replace b_26 : tk ≤ 24 := b_26
  replace b_27 : il ≤ 700 := b_27
  replace b_28 : nx ≤ 701 := b_28
  replace b_29 : st ≤ 701 := b_29
  have h_4 : Φl1 x = some (o_ 14 [.int th, .ref (x + 1), .ref (x + 2), .int ti, .int ra, .int (nI rt), .int ex, .int ad, .ref (x + 3), .ref (x + 4), .int me, .long se, .ref (x + 5), .int (nI fl), .int dr, .long ob, .long sa, .long sn, .long us, .ref (x + 6), .ref (x + 7), .int (nI pe), .ref (x + 8), .int (nI i_2), .ref (x + 9), .ref (x + 10), .int (nI qu), .ref (x + 11), .ref (x + 12), .ref (x + 13), .ref (x + 14), .ref (x + 15), .ref (x + 16), .int (nI n_3), .long v_2, .ref (x + 17), .ref (x + 18), .ref (x + 19), .ref (x + 20), .ref (x + 21), .ref (x + 22), .int (nI n_4), .ref (x + 23), .ref (x + 24), .int (nI tk), .ref (x + 25), .int (nI il), .int (nI nx), .int ec, .int ep, .int kn, .int (nI st), .int nu, .long va]) := h_3
  refine z_get (ref := "FlowExporterModel") (C := RX12) (T := TX12) (N := 54) (ci := 14) (v := .ref (x + 2)) B hu_X12_putTemplates_X12 rfl 2 (Nat.le_of_ble_eq_true rfl) hv_X12_putTemplates_17 rfl h_4 rfl dX12_putTemplates_9 ?_
  refine z_bipush (v := 10) B dX12_putTemplates_12 rfl ?_
  obtain ⟨f_1, h_5, r_1⟩ := imk (k := 2) hI1
  replace r_1 : (NNq c) f_1 := r_1
  have r_2 : NN f_1 := r_1.1
  have h_6 : Φl1 (x + 2) = some (ai_ G 307 f_1) := h_5
  refine z_iald B h_6 (vin rfl) dX12_putTemplates_14 ?_
  obtain ⟨n_5, b_31, e_1⟩ := r_2.2.2.2.2.1
  refine z_top (st1 := [.int (nI n_5), .int (nI i_1)]) (congrArg (fun w9 : Int32 => ([.int w9, .int (nI i_1)] : List Value)) (e_1)) ?_
  refine z_icmp_ge (tgt := 56) B dX12_putTemplates_15 rfl (fun c_1 => ?_) (fun c_1 => ?_)
  · have e_2 : n_5 ≤ i_1 := (nI_leI (a := n_5) (b := i_1) (by omega) (by omega)).mp c_1
    refine z_aload_n B dX12_putTemplates_56 rfl 2 rfl ?_
    refine z_get (ref := "FlowExporterModel") (C := RX12) (T := TX12) (N := 54) (ci := 14) (v := .int (nI i_2)) B hu_X12_putTemplates_X12 rfl 23 (Nat.le_of_ble_eq_true rfl) hv_X12_putTemplates_280 rfl h_4 rfl dX12_putTemplates_57 ?_
    refine z_iload_n B dX12_putTemplates_60 rfl 1 rfl ?_
    refine z_icmp_le (tgt := 77) B dX12_putTemplates_61 rfl (fun c_2 => ?_) (fun c_2 => ?_)
    · have e_3 : i_2 ≤ le := (nI_leI (a := i_2) (b := le) (by omega) (by omega)).mp c_2
      exact z_ret_v B dX12_putTemplates_77 ⟨rfl, rfl, ⟨i_2, i_3, i_4, (show le ≤ i_2 by omega), (show i_2 ≤ le + 164 by omega), (bg_z ((ptI_t hg ((r_1.2 10 (by decide)).symm.trans e_1) (4 - i_1) i_1 (show n_5 ≤ i_1 by omega) (by omega)).trans b_17)), (pt_16 hcw ((ptI_t hg ((r_1.2 10 (by decide)).symm.trans e_1) (4 - i_1) i_1 (show n_5 ≤ i_1 by omega) (by omega)).trans b_17)), hI1⟩, (fun b9 h9 => ((hF1 b9 h9).trans rfl))⟩
    · have e_4 : ¬ (i_2 ≤ le) := fun h9 => c_2 ((nI_leI (a := i_2) (b := le) (by omega) (by omega)).mpr h9)
      refine z_aload_n B dX12_putTemplates_64 rfl 2 rfl ?_
      refine z_iload_n B dX12_putTemplates_65 rfl 1 rfl ?_
      refine z_iconst (v := 2) B dX12_putTemplates_66 rfl ?_
      refine z_iadd B dX12_putTemplates_67 ?_
      refine z_top (st1 := [.int (nI (le + 2)), .ref x]) (congrArg (fun w9 : Int32 => ([.int w9, .ref x] : List Value)) (nI_add le 2)) ?_
      refine z_aload_n B dX12_putTemplates_68 rfl 2 rfl ?_
      refine z_get (ref := "FlowExporterModel") (C := RX12) (T := TX12) (N := 54) (ci := 14) (v := .int (nI i_2)) B hu_X12_putTemplates_X12 rfl 23 (Nat.le_of_ble_eq_true rfl) hv_X12_putTemplates_280 rfl h_4 rfl dX12_putTemplates_69 ?_
      refine z_iload_n B dX12_putTemplates_72 rfl 1 rfl ?_
      refine z_isub B dX12_putTemplates_73 ?_
      refine z_top (st1 := [.int (nI (i_2 - le)), .int (nI (le + 2)), .ref x]) (congrArg (fun w9 : Int32 => ([.int w9, .int (nI (le + 2)), .ref x] : List Value)) (nI_sub (show le ≤ i_2 by omega))) ?_
      refine z_callV (As := [.int (nI (le + 2)), .int (nI (i_2 - le))]) (rest := []) B (r_putAt G l Φl1 sz x rd (NNq c) cr tp tt (SiQ i_3) (AtQ i_4) pt ql fl pe i_2 nx il qu kn ec nu va st ep ti ad ob ra rt ex sa us tk th me dr se sn (le + 2) (i_2 - le) hx hI1 (show (le + 2) + 1 < 700 by omega) (show (i_2 - le) ≤ 700 by omega) (fun f9 h9 => h9.1)) (cwV 2 B.1.2.2.2.2 gX12_putTemplates_X12_putAt rfl rfl rfl (by decide +kernel) ⟨Nat.le_of_ble_eq_true rfl, Nat.le_of_ble_eq_true rfl⟩) h_4 rfl rfl rfl rfl (Nat.le_of_ble_eq_true rfl) dX12_putTemplates_74 ⟨Nat.le_of_ble_eq_true rfl, Nat.le_of_ble_eq_true rfl⟩ (fun r_3 Φ1 sz1 st1 hp1 hs1 => ?_)
      obtain ⟨rfl, hq1, hI2, hF2⟩ := hp1
      subst sz1
      replace hs1 : st1 = [] := hs1
      subst st1
      replace hI2 : Im G x (rd, (NNq c), cr, tp, tt, (SiQ i_3), (AtQ i_4), pt, ql, fl, pe, i_2, nx, il, qu, kn, ec, nu, va, st, ep, ti, ad, ob, ra, rt, ex, sa, us, tk, th, me, dr, se, sn) Φ1 := hI2
      exact z_ret_v B dX12_putTemplates_77 ⟨rfl, rfl, ⟨i_2, i_3, i_4, (show le ≤ i_2 by omega), (show i_2 ≤ le + 164 by omega), (bg_z ((ptI_t hg ((r_1.2 10 (by decide)).symm.trans e_1) (4 - i_1) i_1 (show n_5 ≤ i_1 by omega) (by omega)).trans b_17)), (pt_16 hcw ((ptI_t hg ((r_1.2 10 (by decide)).symm.trans e_1) (4 - i_1) i_1 (show n_5 ≤ i_1 by omega) (by omega)).trans b_17)), hI2⟩, (fun b9 h9 => ((hF2 b9 (fun j9 h8 h7 => h9 j9 h8 (fq_961 j9 h7))).trans ((hF1 b9 h9).trans rfl)))⟩
  · have e_5 : ¬ (n_5 ≤ i_1) := fun h9 => c_1 ((nI_leI (a := n_5) (b := i_1) (by omega) (by omega)).mpr h9)
    refine z_aload_n B dX12_putTemplates_18 rfl 2 rfl ?_
    refine z_iload_n B dX12_putTemplates_19 rfl 0 rfl ?_
    refine z_callV (As := [.int (nI i_1)]) (rest := []) B (r_due G l Φl1 sz x rd cr tp tt pt ql fl pe i_2 nx il qu kn ec nu va st ep ti ad ob ra rt ex sa us tk th me dr se sn c i_3 i_4 i_1 hx hI1 (show i_1 < 4 by omega) hcw) (cwV 1 B.1.2.2.2.2 gX12_putTemplates_X12_due rfl rfl rfl (by decide +kernel) ⟨Nat.le_of_ble_eq_true rfl, Nat.le_of_ble_eq_true rfl⟩) h_4 rfl rfl rfl rfl (Nat.le_of_ble_eq_true rfl) dX12_putTemplates_20 ⟨Nat.le_of_ble_eq_true rfl, Nat.le_of_ble_eq_true rfl⟩ (fun r_4 Φ2 sz2 st2 hp2 hs2 => ?_)
    obtain ⟨ha1, hq2, hI3, hF3⟩ := hp2
    subst sz2
    replace hI3 : Im G x (rd, (NNq c), cr, tp, tt, (SiQ i_3), (AtQ i_4), pt, ql, fl, pe, i_2, nx, il, qu, kn, ec, nu, va, st, ep, ti, ad, ob, ra, rt, ex, sa, us, tk, th, me, dr, se, sn) Φ2 := hI3
    rcases ha1 with ⟨rfl, e_6⟩ | ⟨rfl, e_7⟩
    · replace hs2 : st2 = [.int 1] := hs2
      subst st2
      replace e_6 : dueP c ti (i_3, i_4, me, 0, 0) i_1 := e_6
      refine z_if_ne (tgt := 29) B dX12_putTemplates_23 rfl (fun c_3 => ?_) (fun h9 => absurd h9 (by decide))
      refine z_aload_n B dX12_putTemplates_29 rfl 2 rfl ?_
      have h_7 : Φ2 x = some (o_ 14 [.int th, .ref (x + 1), .ref (x + 2), .int ti, .int ra, .int (nI rt), .int ex, .int ad, .ref (x + 3), .ref (x + 4), .int me, .long se, .ref (x + 5), .int (nI fl), .int dr, .long ob, .long sa, .long sn, .long us, .ref (x + 6), .ref (x + 7), .int (nI pe), .ref (x + 8), .int (nI i_2), .ref (x + 9), .ref (x + 10), .int (nI qu), .ref (x + 11), .ref (x + 12), .ref (x + 13), .ref (x + 14), .ref (x + 15), .ref (x + 16), .int (nI n_3), .long v_2, .ref (x + 17), .ref (x + 18), .ref (x + 19), .ref (x + 20), .ref (x + 21), .ref (x + 22), .int (nI n_4), .ref (x + 23), .ref (x + 24), .int (nI tk), .ref (x + 25), .int (nI il), .int (nI nx), .int ec, .int ep, .int kn, .int (nI st), .int nu, .long va]) := ((hF3 x (fun j9 h8 h7 => (show False from h7).elim)).trans h_4)
      refine z_get (ref := "FlowExporterModel") (C := RX12) (T := TX12) (N := 54) (ci := 14) (v := .int (nI i_2)) B hu_X12_putTemplates_X12 rfl 23 (Nat.le_of_ble_eq_true rfl) hv_X12_putTemplates_280 rfl h_7 rfl dX12_putTemplates_30 ?_
      refine z_iload_n B dX12_putTemplates_33 rfl 1 rfl ?_
      refine z_icmp_ne (tgt := 45) B dX12_putTemplates_34 rfl (fun c_4 => ?_) (fun c_4 => ?_)
      · have e_8 : ¬ (i_2 = le) := fun h9 => c_4 ((nI_eq (a := i_2) (b := le) (by omega) (by omega)).mpr h9)
        refine z_aload_n B dX12_putTemplates_45 rfl 2 rfl ?_
        refine z_iload_n B dX12_putTemplates_46 rfl 0 rfl ?_
        refine z_callV (As := [.int (nI i_1)]) (rest := []) B (r_putTemplate G l Φ2 sz x rd cr tp tt pt ql fl pe i_2 nx il qu kn ec nu va st ep ti ad ob ra rt ex sa us tk th me dr se sn c i_3 i_4 i_1 hx hI3 (show i_1 < 4 by omega) (show i_2 + 40 ≤ 700 by omega)) (cwV 1 B.1.2.2.2.2 gX12_putTemplates_X12_putTemplate rfl rfl rfl (by decide +kernel) ⟨Nat.le_of_ble_eq_true rfl, Nat.le_of_ble_eq_true rfl⟩) h_7 rfl rfl rfl rfl (Nat.le_of_ble_eq_true rfl) dX12_putTemplates_47 ⟨Nat.le_of_ble_eq_true rfl, Nat.le_of_ble_eq_true rfl⟩ (fun r_5 Φ3 sz3 st3 hp3 hs3 => ?_)
        obtain ⟨rfl, hq3, ⟨n_6, b_32, b_33, b_34, hI4⟩, hF4⟩ := hp3
        subst sz3
        replace hs3 : st3 = [] := hs3
        subst st3
        replace hI4 : Im G x (rd, (NNq c), cr, tp, tt, SiQ (upd i_3 i_1 (me + 1)), AtQ (upd i_4 i_1 ti), pt, ql, fl, pe, n_6, nx, il, qu, kn, ec, nu, va, st, ep, ti, ad, ob, ra, rt, ex, sa, us, tk, th, me, dr, se, sn) Φ3 := hI4
        replace b_32 : i_2 ≤ n_6 := b_32
        replace b_33 : n_6 ≤ i_2 + 40 := b_33
        replace b_34 : n_6 = i_2 + 4 + 4 * esN c i_1 := b_34
        refine z_iinc (k := 0) (v := nI (i_1 + 1)) (lv' := [(2, .int (nI (i_1 + 1))), (1, .int (nI le)), (0, .ref x)]) B dX12_putTemplates_50 rfl (nI_add i_1 1) (Nat.le_of_ble_eq_true rfl) rfl ?_
        refine z_goto (tgt := 7) B dX12_putTemplates_53 rfl ?_
        refine z_lv [0, 1, 2] rfl ?_
        exact ih1 (i_1 + 1, n_6, (upd i_3 i_1 (me + 1)), (upd i_4 i_1 ti)) Φ3 (show 4 - (i_1 + 1) < 4 - i_1 by omega) ⟨(Im.weak5 hI4 (fun _ q9 => q9) (fun _ q9 => q9) (fun _ q9 => q9) (fun _ q9 => q9) (fun _ q9 => q9) (fun _ q9 => q9) (fun _ q9 => q9) (fun _ q9 => q9) (fun _ q9 => q9)), (fun b9 h9 => ((hF4 b9 h9).trans ((hF3 b9 (fun j9 h8 h7 => (show False from h7).elim)).trans ((hF1 b9 h9).trans rfl)))), (show (i_1 + 1) ≤ 4 by omega), (show le ≤ n_6 by omega), (show n_6 ≤ le + 4 + 40 * (i_1 + 1) by omega), (pts_y b_17 e_6 (by rw [if_neg (show ¬ i_2 = 16 by omega)]; omega) rfl), trivial⟩
      · have e_9 : i_2 = le := (nI_eq (a := i_2) (b := le) (by omega) (by omega)).mp c_4
        refine z_aload_n B dX12_putTemplates_37 rfl 2 rfl ?_
        refine z_ldc2 (v := 131072) B (by decide +kernel) dX12_putTemplates_38 ?_
        refine z_iconst (v := 4) B dX12_putTemplates_41 rfl ?_
        refine z_callV (As := [.long 131072, .int 4]) (rest := []) B (r_put G l Φ2 sz x rd (NNq c) cr tp tt (SiQ i_3) (AtQ i_4) pt ql fl pe i_2 nx il qu kn ec nu va st ep ti ad ob ra rt ex sa us tk th me dr se sn 131072 4 hx hI3 (show 4 ≤ 8 by omega) (show i_2 + 4 ≤ 700 by omega) (fun f9 h9 => h9.1)) (cwV 2 B.1.2.2.2.2 gX12_putTemplates_X12_put rfl rfl rfl (by decide +kernel) ⟨Nat.le_of_ble_eq_true rfl, Nat.le_of_ble_eq_true rfl⟩) h_7 rfl rfl rfl rfl (Nat.le_of_ble_eq_true rfl) dX12_putTemplates_42 ⟨Nat.le_of_ble_eq_true rfl, Nat.le_of_ble_eq_true rfl⟩ (fun r_6 Φ4 sz4 st4 hp4 hs4 => ?_)
        obtain ⟨rfl, hq4, ⟨n_7, b_35, hI5⟩, hF5⟩ := hp4
        subst sz4
        replace hs4 : st4 = [] := hs4
        subst st4
        replace hI5 : Im G x (rd, (NNq c), cr, tp, tt, (SiQ i_3), (AtQ i_4), pt, ql, fl, pe, n_7, nx, il, qu, kn, ec, nu, va, st, ep, ti, ad, ob, ra, rt, ex, sa, us, tk, th, me, dr, se, sn) Φ4 := hI5
        replace b_35 : n_7 = i_2 + 4 := b_35
        refine z_aload_n B dX12_putTemplates_45 rfl 2 rfl ?_
        refine z_iload_n B dX12_putTemplates_46 rfl 0 rfl ?_
        obtain ⟨n_8, v_3, n_9, h_8, b_48, b_36, b_37, b_38, b_39, b_40, b_41, b_42, b_43, b_44, b_45, b_46, b_47⟩ := im0 hI5
        replace b_36 : 1 ≤ rt := b_36
        replace b_37 : rt ≤ 1024 := b_37
        replace b_38 : fl ≤ 12 := b_38
        replace b_39 : pe ≤ 24 := b_39
        replace b_40 : n_7 ≤ 700 := b_40
        replace b_41 : qu ≤ 12 := b_41
        replace b_42 : n_8 ≤ 8 := b_42
        replace b_43 : n_9 ≤ 24 := b_43
        replace b_44 : tk ≤ 24 := b_44
        replace b_45 : il ≤ 700 := b_45
        replace b_46 : nx ≤ 701 := b_46
        replace b_47 : st ≤ 701 := b_47
        have h_9 : Φ4 x = some (o_ 14 [.int th, .ref (x + 1), .ref (x + 2), .int ti, .int ra, .int (nI rt), .int ex, .int ad, .ref (x + 3), .ref (x + 4), .int me, .long se, .ref (x + 5), .int (nI fl), .int dr, .long ob, .long sa, .long sn, .long us, .ref (x + 6), .ref (x + 7), .int (nI pe), .ref (x + 8), .int (nI n_7), .ref (x + 9), .ref (x + 10), .int (nI qu), .ref (x + 11), .ref (x + 12), .ref (x + 13), .ref (x + 14), .ref (x + 15), .ref (x + 16), .int (nI n_8), .long v_3, .ref (x + 17), .ref (x + 18), .ref (x + 19), .ref (x + 20), .ref (x + 21), .ref (x + 22), .int (nI n_9), .ref (x + 23), .ref (x + 24), .int (nI tk), .ref (x + 25), .int (nI il), .int (nI nx), .int ec, .int ep, .int kn, .int (nI st), .int nu, .long va]) := h_8
        refine z_callV (As := [.int (nI i_1)]) (rest := []) B (r_putTemplate G l Φ4 sz x rd cr tp tt pt ql fl pe n_7 nx il qu kn ec nu va st ep ti ad ob ra rt ex sa us tk th me dr se sn c i_3 i_4 i_1 hx hI5 (show i_1 < 4 by omega) (show n_7 + 40 ≤ 700 by omega)) (cwV 1 B.1.2.2.2.2 gX12_putTemplates_X12_putTemplate rfl rfl rfl (by decide +kernel) ⟨Nat.le_of_ble_eq_true rfl, Nat.le_of_ble_eq_true rfl⟩) h_9 rfl rfl rfl rfl (Nat.le_of_ble_eq_true rfl) dX12_putTemplates_47 ⟨Nat.le_of_ble_eq_true rfl, Nat.le_of_ble_eq_true rfl⟩ (fun r_7 Φ5 sz5 st5 hp5 hs5 => ?_)
        obtain ⟨rfl, hq5, ⟨n_10, b_49, b_50, b_51, hI6⟩, hF6⟩ := hp5
        subst sz5
        replace hs5 : st5 = [] := hs5
        subst st5
        replace hI6 : Im G x (rd, (NNq c), cr, tp, tt, SiQ (upd i_3 i_1 (me + 1)), AtQ (upd i_4 i_1 ti), pt, ql, fl, pe, n_10, nx, il, qu, kn, ec, nu, va, st, ep, ti, ad, ob, ra, rt, ex, sa, us, tk, th, me, dr, se, sn) Φ5 := hI6
        replace b_49 : n_7 ≤ n_10 := b_49
        replace b_50 : n_10 ≤ n_7 + 40 := b_50
        replace b_51 : n_10 = n_7 + 4 + 4 * esN c i_1 := b_51
        refine z_iinc (k := 0) (v := nI (i_1 + 1)) (lv' := [(2, .int (nI (i_1 + 1))), (1, .int (nI le)), (0, .ref x)]) B dX12_putTemplates_50 rfl (nI_add i_1 1) (Nat.le_of_ble_eq_true rfl) rfl ?_
        refine z_goto (tgt := 7) B dX12_putTemplates_53 rfl ?_
        refine z_lv [0, 1, 2] rfl ?_
        exact ih1 (i_1 + 1, n_10, (upd i_3 i_1 (me + 1)), (upd i_4 i_1 ti)) Φ5 (show 4 - (i_1 + 1) < 4 - i_1 by omega) ⟨(Im.weak5 hI6 (fun _ q9 => q9) (fun _ q9 => q9) (fun _ q9 => q9) (fun _ q9 => q9) (fun _ q9 => q9) (fun _ q9 => q9) (fun _ q9 => q9) (fun _ q9 => q9) (fun _ q9 => q9)), (fun b9 h9 => ((hF6 b9 h9).trans ((hF5 b9 (fun j9 h8 h7 => h9 j9 h8 (fq_957 j9 h7))).trans ((hF3 b9 (fun j9 h8 h7 => (show False from h7).elim)).trans ((hF1 b9 h9).trans rfl))))), (show (i_1 + 1) ≤ 4 by omega), (show le ≤ n_10 by omega), (show n_10 ≤ le + 4 + 40 * (i_1 + 1) by omega), (pts_y b_17 e_6 (by rw [if_pos (show i_2 = 16 by omega)]; omega) rfl), trivial⟩
    · replace hs2 : st2 = [.int 0] := hs2
      subst st2
      replace e_7 : ¬ dueP c ti (i_3, i_4, me, 0, 0) i_1 := e_7
      refine z_if_ne (tgt := 29) B dX12_putTemplates_23 rfl (fun h9 => absurd (by decide) h9) (fun c_5 => ?_)
      refine z_goto (tgt := 50) B dX12_putTemplates_26 rfl ?_
      refine z_iinc (k := 0) (v := nI (i_1 + 1)) (lv' := [(2, .int (nI (i_1 + 1))), (1, .int (nI le)), (0, .ref x)]) B dX12_putTemplates_50 rfl (nI_add i_1 1) (Nat.le_of_ble_eq_true rfl) rfl ?_
      refine z_goto (tgt := 7) B dX12_putTemplates_53 rfl ?_
      refine z_lv [0, 1, 2] rfl ?_
      exact ih1 (i_1 + 1, i_2, i_3, i_4) Φ2 (show 4 - (i_1 + 1) < 4 - i_1 by omega) ⟨(Im.weak5 hI3 (fun _ q9 => q9) (fun _ q9 => q9) (fun _ q9 => q9) (fun _ q9 => q9) (fun _ q9 => q9) (fun _ q9 => q9) (fun _ q9 => q9) (fun _ q9 => q9) (fun _ q9 => q9)), (fun b9 h9 => ((hF3 b9 (fun j9 h8 h7 => (show False from h7).elim)).trans ((hF1 b9 h9).trans rfl))), (show (i_1 + 1) ≤ 4 by omega), (show le ≤ i_2 by omega), (show i_2 ≤ le + 4 + 40 * (i_1 + 1) by omega), (ptI_n b_17 e_7), trivial⟩

theorem hu_X12_putRecords_X12 : ∀ w ∈ u_ws RX12 TX12 54, w ∈ wsX12_putRecords := fun _ h => List.mem_cons_of_mem _ (List.mem_append_left _ (List.mem_append_right _ (h)))

theorem hv_X12_putRecords_136 : Cond.fieldLink RX12 136 "FlowExporterModel" (TX12 21).2.1 (TX12 21).2.2.1 ∈ wsX12_putRecords := List.mem_cons_of_mem _ (List.mem_append_left _ (List.mem_append_left _ (List.mem_append_left _ (List.mem_of_getElem? (i := 0) rfl))))

theorem hv_X12_putRecords_30 : Cond.fieldLink RX12 30 "FlowExporterModel" (TX12 19).2.1 (TX12 19).2.2.1 ∈ wsX12_putRecords := List.mem_cons_of_mem _ (List.mem_append_left _ (List.mem_append_left _ (List.mem_append_left _ (List.mem_of_getElem? (i := 1) rfl))))

theorem hv_X12_putRecords_280 : Cond.fieldLink RX12 280 "FlowExporterModel" (TX12 23).2.1 (TX12 23).2.2.1 ∈ wsX12_putRecords := List.mem_cons_of_mem _ (List.mem_append_left _ (List.mem_append_left _ (List.mem_append_left _ (List.mem_of_getElem? (i := 2) rfl))))

theorem hv_X12_putRecords_17 : Cond.fieldLink RX12 17 "FlowExporterModel" (TX12 2).2.1 (TX12 2).2.2.1 ∈ wsX12_putRecords := List.mem_cons_of_mem _ (List.mem_append_left _ (List.mem_append_left _ (List.mem_append_left _ (List.mem_of_getElem? (i := 3) rfl))))

theorem fq_967 : ∀ j9 : Nat, (j9 = 8) → (j9 = 0 ∨ j9 = 8) := by
  intro j9 h
  omega

theorem hv_X12_putRecords_33 : Cond.fieldLink RX12 33 "FlowExporterModel" (TX12 20).2.1 (TX12 20).2.2.1 ∈ wsX12_putRecords := List.mem_cons_of_mem _ (List.mem_append_left _ (List.mem_append_left _ (List.mem_append_left _ (List.mem_of_getElem? (i := 4) rfl))))

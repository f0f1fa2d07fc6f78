set_option maxRecDepth 20000 in
theorem ggX2_clear_X1_get : GoodIn wsX2_clear wsX1_get := goodIn_ca ((goodIn_ca (goodIn_r _ [18, 19] rfl (by decide +kernel)) (goodIn_sub (fun _ h => List.mem_cons_of_mem _ (List.mem_append_left _ (List.mem_append_right _ h))) gw_wsX10))) (goodIn_sub (fun _ h => List.mem_cons_of_mem _ (List.mem_append_right _ h)) (all_fg _))
set_option maxRecDepth 20000 in
theorem gX2_clear_X1_get : GoodIn wsX2_clear (wsV RX2 64 RX1 yX1_get wsX1_get) := goodIn_app (goodIn_m (mem_cA (List.mem_cons_of_mem _ (List.mem_append_left _ (List.mem_append_left _ (List.mem_append_left _ (List.mem_append_left _ (List.mem_of_getElem? (i := 13) rfl)))))) (mem_cA (List.mem_cons_of_mem _ (List.mem_append_left _ (List.mem_append_left _ (List.mem_append_left _ (List.mem_append_left _ (List.mem_of_getElem? (i := 14) rfl)))))) (mem_cA (List.mem_cons_of_mem _ (List.mem_append_left _ (List.mem_append_left _ (List.mem_append_left _ (List.mem_append_left _ (List.mem_of_getElem? (i := 15) rfl)))))) (mem_cA (List.mem_cons_of_mem _ (List.mem_append_left _ (List.mem_append_left _ (List.mem_append_left _ (List.mem_append_left _ (List.mem_of_getElem? (i := 16) rfl)))))) mem_cZ)))) (by decide +kernel)) ggX2_clear_X1_get
theorem dX2_clear_0 : decode cX2_clear 0 = .ok (.aload_n 0, 1) := by decide +kernel
theorem dX2_clear_1 : decode cX2_clear 1 = .ok (.getfield 14, 3) := by decide +kernel
theorem dX2_clear_4 : decode cX2_clear 4 = .ok (.iconst 0, 1) := by decide +kernel
theorem dX2_clear_5 : decode cX2_clear 5 = .ok (.putfield 61, 3) := by decide +kernel
theorem dX2_clear_8 : decode cX2_clear 8 = .ok (.aload_n 0, 1) := by decide +kernel
theorem dX2_clear_9 : decode cX2_clear 9 = .ok (.getfield 20, 3) := by decide +kernel
theorem dX2_clear_12 : decode cX2_clear 12 = .ok (.iconst 0, 1) := by decide +kernel
theorem dX2_clear_13 : decode cX2_clear 13 = .ok (.putfield 61, 3) := by decide +kernel
theorem dX2_clear_16 : decode cX2_clear 16 = .ok (.aload_n 0, 1) := by decide +kernel
theorem dX2_clear_17 : decode cX2_clear 17 = .ok (.iconst 0, 1) := by decide +kernel
theorem dX2_clear_18 : decode cX2_clear 18 = .ok (.putfield 23, 3) := by decide +kernel
theorem dX2_clear_21 : decode cX2_clear 21 = .ok (.aload_n 0, 1) := by decide +kernel
theorem dX2_clear_22 : decode cX2_clear 22 = .ok (.aload_n 0, 1) := by decide +kernel
theorem dX2_clear_23 : decode cX2_clear 23 = .ok (.getfield 53, 3) := by decide +kernel
theorem dX2_clear_26 : decode cX2_clear 26 = .ok (.iconst 0, 1) := by decide +kernel
theorem dX2_clear_27 : decode cX2_clear 27 = .ok (.invokevirtual 64, 3) := by decide +kernel
theorem dX2_clear_30 : decode cX2_clear 30 = .ok (.putfield 27, 3) := by decide +kernel
theorem dX2_clear_33 : decode cX2_clear 33 = .ok (.aload_n 0, 1) := by decide +kernel
theorem dX2_clear_34 : decode cX2_clear 34 = .ok (.iconst 1, 1) := by decide +kernel
theorem dX2_clear_35 : decode cX2_clear 35 = .ok (.putfield 30, 3) := by decide +kernel
theorem dX2_clear_38 : decode cX2_clear 38 = .ok (.aload_n 0, 1) := by decide +kernel
theorem dX2_clear_39 : decode cX2_clear 39 = .ok (.iconst 0, 1) := by decide +kernel
theorem dX2_clear_40 : decode cX2_clear 40 = .ok (.putfield 33, 3) := by decide +kernel
theorem dX2_clear_43 : decode cX2_clear 43 = .ok (.aload_n 0, 1) := by decide +kernel
theorem dX2_clear_44 : decode cX2_clear 44 = .ok (.iconst 0, 1) := by decide +kernel
theorem dX2_clear_45 : decode cX2_clear 45 = .ok (.putfield 37, 3) := by decide +kernel
theorem dX2_clear_48 : decode cX2_clear 48 = .ok (.aload_n 0, 1) := by decide +kernel
theorem dX2_clear_49 : decode cX2_clear 49 = .ok (.iconst 0, 1) := by decide +kernel
theorem dX2_clear_50 : decode cX2_clear 50 = .ok (.putfield 40, 3) := by decide +kernel
theorem dX2_clear_53 : decode cX2_clear 53 = .ok (.aload_n 0, 1) := by decide +kernel
theorem dX2_clear_54 : decode cX2_clear 54 = .ok (.lconst 0, 1) := by decide +kernel
theorem dX2_clear_55 : decode cX2_clear 55 = .ok (.putfield 43, 3) := by decide +kernel
theorem dX2_clear_58 : decode cX2_clear 58 = .ok (.aload_n 0, 1) := by decide +kernel
theorem dX2_clear_59 : decode cX2_clear 59 = .ok (.lconst 0, 1) := by decide +kernel
theorem dX2_clear_60 : decode cX2_clear 60 = .ok (.putfield 47, 3) := by decide +kernel
theorem dX2_clear_63 : decode cX2_clear 63 = .ok (.aload_n 0, 1) := by decide +kernel
theorem dX2_clear_64 : decode cX2_clear 64 = .ok (.lconst 0, 1) := by decide +kernel
theorem dX2_clear_65 : decode cX2_clear 65 = .ok (.putfield 50, 3) := by decide +kernel
theorem dX2_clear_68 : decode cX2_clear 68 = .ok (.return_, 1) := by decide +kernel
set_option maxRecDepth 20000 in
theorem ggX2_remember_X4_indexOf : GoodIn wsX2_remember wsX4_indexOf := (goodIn_ca (goodIn_ca (goodIn_r _ [9, 10, 11, 12] rfl (by decide +kernel)) (goodIn_sub (fun _ h => List.mem_cons_of_mem _ (List.mem_append_right _ h)) gw_wsX40)) (goodIn_sub (fun _ h => List.mem_cons_of_mem _ (List.mem_append_left _ (List.mem_append_right _ h))) gw_wsX30))
set_option maxRecDepth 20000 in
theorem gX2_remember_X4_indexOf : GoodIn wsX2_remember (wsV RX2 87 RX4 yX4_indexOf wsX4_indexOf) := goodIn_app (goodIn_m (mem_cA (List.mem_cons_of_mem _ (List.mem_append_left _ (List.mem_append_left _ (List.mem_append_left _ (List.mem_append_left _ (List.mem_of_getElem? (i := 4) rfl)))))) (mem_cA (List.mem_cons_of_mem _ (List.mem_append_left _ (List.mem_append_left _ (List.mem_append_left _ (List.mem_append_left _ (List.mem_of_getElem? (i := 5) rfl)))))) (mem_cA (List.mem_cons_of_mem _ (List.mem_append_left _ (List.mem_append_left _ (List.mem_append_left _ (List.mem_append_left _ (List.mem_of_getElem? (i := 6) rfl)))))) (mem_cA (List.mem_cons_of_mem _ (List.mem_append_left _ (List.mem_append_left _ (List.mem_append_left _ (List.mem_append_left _ (List.mem_of_getElem? (i := 7) rfl)))))) mem_cZ)))) (by decide +kernel)) ggX2_remember_X4_indexOf
set_option maxRecDepth 20000 in
theorem ggX2_remember_X4_isFull : GoodIn wsX2_remember wsX4_isFull := (goodIn_ca (goodIn_r _ [16, 10, 11] rfl (by decide +kernel)) (goodIn_sub (fun _ h => List.mem_cons_of_mem _ (List.mem_append_right _ h)) gw_wsX40))
set_option maxRecDepth 20000 in
theorem gX2_remember_X4_isFull : GoodIn wsX2_remember (wsV RX2 91 RX4 yX4_isFull wsX4_isFull) := goodIn_app (goodIn_m (mem_cA (List.mem_cons_of_mem _ (List.mem_append_left _ (List.mem_append_left _ (List.mem_append_left _ (List.mem_append_left _ (List.mem_of_getElem? (i := 12) rfl)))))) (mem_cA (List.mem_cons_of_mem _ (List.mem_append_left _ (List.mem_append_left _ (List.mem_append_left _ (List.mem_append_left _ (List.mem_of_getElem? (i := 13) rfl)))))) (mem_cA (List.mem_cons_of_mem _ (List.mem_append_left _ (List.mem_append_left _ (List.mem_append_left _ (List.mem_append_left _ (List.mem_of_getElem? (i := 14) rfl)))))) (mem_cA (List.mem_cons_of_mem _ (List.mem_append_left _ (List.mem_append_left _ (List.mem_append_left _ (List.mem_append_left _ (List.mem_of_getElem? (i := 7) rfl)))))) mem_cZ)))) (by decide +kernel)) ggX2_remember_X4_isFull
set_option maxRecDepth 20000 in
theorem ggX2_remember_X4_addFlow : GoodIn wsX2_remember wsX4_addFlow := (goodIn_ca (goodIn_ca (goodIn_r _ [20, 10, 11, 21, 22, 23, 24, 25, 26, 27, 8, 28, 29, 30, 31, 32, 33, 34, 35, 36, 37, 38] rfl (by decide +kernel)) (goodIn_sub (fun _ h => List.mem_cons_of_mem _ (List.mem_append_right _ h)) gw_wsX40)) (goodIn_sub (fun _ h => List.mem_cons_of_mem _ (List.mem_append_left _ (List.mem_append_right _ h))) gw_wsX30))
set_option maxRecDepth 20000 in
theorem gX2_remember_X4_addFlow : GoodIn wsX2_remember (wsV RX2 94 RX4 yX4_addFlow wsX4_addFlow) := goodIn_app (goodIn_m (mem_cA (List.mem_cons_of_mem _ (List.mem_append_left _ (List.mem_append_left _ (List.mem_append_left _ (List.mem_append_left _ (List.mem_of_getElem? (i := 16) rfl)))))) (mem_cA (List.mem_cons_of_mem _ (List.mem_append_left _ (List.mem_append_left _ (List.mem_append_left _ (List.mem_append_left _ (List.mem_of_getElem? (i := 17) rfl)))))) (mem_cA (List.mem_cons_of_mem _ (List.mem_append_left _ (List.mem_append_left _ (List.mem_append_left _ (List.mem_append_left _ (List.mem_of_getElem? (i := 18) rfl)))))) (mem_cA (List.mem_cons_of_mem _ (List.mem_append_left _ (List.mem_append_left _ (List.mem_append_left _ (List.mem_append_left _ (List.mem_of_getElem? (i := 7) rfl)))))) mem_cZ)))) (by decide +kernel)) ggX2_remember_X4_addFlow
set_option maxRecDepth 20000 in
theorem ggX2_remember_X4_flowAt : GoodIn wsX2_remember wsX4_flowAt := (goodIn_ca (goodIn_r _ [28, 11] rfl (by decide +kernel)) (goodIn_sub (fun _ h => List.mem_cons_of_mem _ (List.mem_append_right _ h)) gw_wsX40))
set_option maxRecDepth 20000 in
theorem gX2_remember_X4_flowAt : GoodIn wsX2_remember (wsV RX2 98 RX4 yX4_flowAt wsX4_flowAt) := goodIn_app (goodIn_m (mem_cA (List.mem_cons_of_mem _ (List.mem_append_left _ (List.mem_append_left _ (List.mem_append_left _ (List.mem_append_right _ (List.mem_of_getElem? (i := 14) rfl)))))) (mem_cA (List.mem_cons_of_mem _ (List.mem_append_left _ (List.mem_append_left _ (List.mem_append_left _ (List.mem_append_right _ (List.mem_of_getElem? (i := 1) rfl)))))) (mem_cA (List.mem_cons_of_mem _ (List.mem_append_left _ (List.mem_append_left _ (List.mem_append_left _ (List.mem_append_right _ (List.mem_of_getElem? (i := 2) rfl)))))) (mem_cA (List.mem_cons_of_mem _ (List.mem_append_left _ (List.mem_append_left _ (List.mem_append_left _ (List.mem_append_left _ (List.mem_of_getElem? (i := 7) rfl)))))) mem_cZ)))) (by decide +kernel)) ggX2_remember_X4_flowAt
theorem dX2_remember_0 : decode cX2_remember 0 = .ok (.aload_n 0, 1) := by decide +kernel
theorem dX2_remember_1 : decode cX2_remember 1 = .ok (.getfield 20, 3) := by decide +kernel
theorem dX2_remember_4 : decode cX2_remember 4 = .ok (.lload_n 1, 1) := by decide +kernel
theorem dX2_remember_5 : decode cX2_remember 5 = .ok (.invokevirtual 87, 3) := by decide +kernel
theorem dX2_remember_8 : decode cX2_remember 8 = .ok (.istore 5, 2) := by decide +kernel
theorem dX2_remember_10 : decode cX2_remember 10 = .ok (.iload 5, 2) := by decide +kernel
theorem dX2_remember_12 : decode cX2_remember 12 = .ok (.iconst (-1), 1) := by decide +kernel
theorem dX2_remember_13 : decode cX2_remember 13 = .ok (.if_icmp .ne 14, 3) := by decide +kernel
theorem dX2_remember_16 : decode cX2_remember 16 = .ok (.aload_n 0, 1) := by decide +kernel
theorem dX2_remember_17 : decode cX2_remember 17 = .ok (.getfield 20, 3) := by decide +kernel
theorem dX2_remember_20 : decode cX2_remember 20 = .ok (.invokevirtual 91, 3) := by decide +kernel
theorem dX2_remember_23 : decode cX2_remember 23 = .ok (.ifCond .eq 4, 3) := by decide +kernel
theorem dX2_remember_26 : decode cX2_remember 26 = .ok (.return_, 1) := by decide +kernel
theorem dX2_remember_27 : decode cX2_remember 27 = .ok (.iload 5, 2) := by decide +kernel
theorem dX2_remember_29 : decode cX2_remember 29 = .ok (.iconst (-1), 1) := by decide +kernel
theorem dX2_remember_30 : decode cX2_remember 30 = .ok (.if_icmp .ne 18, 3) := by decide +kernel
theorem dX2_remember_33 : decode cX2_remember 33 = .ok (.aload_n 0, 1) := by decide +kernel
theorem dX2_remember_34 : decode cX2_remember 34 = .ok (.getfield 20, 3) := by decide +kernel
theorem dX2_remember_37 : decode cX2_remember 37 = .ok (.lload_n 1, 1) := by decide +kernel
theorem dX2_remember_38 : decode cX2_remember 38 = .ok (.aload_n 0, 1) := by decide +kernel
theorem dX2_remember_39 : decode cX2_remember 39 = .ok (.getfield 23, 3) := by decide +kernel
theorem dX2_remember_42 : decode cX2_remember 42 = .ok (.invokevirtual 94, 3) := by decide +kernel
theorem dX2_remember_45 : decode cX2_remember 45 = .ok (.goto 12, 3) := by decide +kernel
theorem dX2_remember_48 : decode cX2_remember 48 = .ok (.aload_n 0, 1) := by decide +kernel
theorem dX2_remember_49 : decode cX2_remember 49 = .ok (.getfield 20, 3) := by decide +kernel
theorem dX2_remember_52 : decode cX2_remember 52 = .ok (.iload 5, 2) := by decide +kernel
theorem dX2_remember_54 : decode cX2_remember 54 = .ok (.invokevirtual 98, 3) := by decide +kernel
theorem dX2_remember_57 : decode cX2_remember 57 = .ok (.astore 6, 2) := by decide +kernel
theorem dX2_remember_59 : decode cX2_remember 59 = .ok (.aload 6, 2) := by decide +kernel
theorem dX2_remember_61 : decode cX2_remember 61 = .ok (.dup, 1) := by decide +kernel
theorem dX2_remember_62 : decode cX2_remember 62 = .ok (.getfield 102, 3) := by decide +kernel
theorem dX2_remember_65 : decode cX2_remember 65 = .ok (.iload 4, 2) := by decide +kernel
theorem dX2_remember_67 : decode cX2_remember 67 = .ok (.i2l, 1) := by decide +kernel
theorem dX2_remember_68 : decode cX2_remember 68 = .ok (.ladd, 1) := by decide +kernel
theorem dX2_remember_69 : decode cX2_remember 69 = .ok (.putfield 102, 3) := by decide +kernel
theorem dX2_remember_72 : decode cX2_remember 72 = .ok (.aload 6, 2) := by decide +kernel
theorem dX2_remember_74 : decode cX2_remember 74 = .ok (.dup, 1) := by decide +kernel
theorem dX2_remember_75 : decode cX2_remember 75 = .ok (.getfield 107, 3) := by decide +kernel
theorem dX2_remember_78 : decode cX2_remember 78 = .ok (.iload 4, 2) := by decide +kernel
theorem dX2_remember_80 : decode cX2_remember 80 = .ok (.i2l, 1) := by decide +kernel
theorem dX2_remember_81 : decode cX2_remember 81 = .ok (.iload_n 3, 1) := by decide +kernel
theorem dX2_remember_82 : decode cX2_remember 82 = .ok (.i2l, 1) := by decide +kernel
theorem dX2_remember_83 : decode cX2_remember 83 = .ok (.lmul, 1) := by decide +kernel
theorem dX2_remember_84 : decode cX2_remember 84 = .ok (.ladd, 1) := by decide +kernel
theorem dX2_remember_85 : decode cX2_remember 85 = .ok (.putfield 107, 3) := by decide +kernel
theorem dX2_remember_88 : decode cX2_remember 88 = .ok (.return_, 1) := by decide +kernel
set_option maxRecDepth 20000 in
theorem ggX2_trueValue_X4_indexOf : GoodIn wsX2_trueValue wsX4_indexOf := (goodIn_ca (goodIn_ca (goodIn_r _ [6, 7, 8, 9] rfl (by decide +kernel)) (goodIn_sub (fun _ h => List.mem_cons_of_mem _ (List.mem_append_left _ (List.mem_append_left _ (List.mem_append_right _ h)))) gw_wsX40)) (goodIn_sub (fun _ h => List.mem_cons_of_mem _ (List.mem_append_left _ (List.mem_append_right _ h))) gw_wsX30))
set_option maxRecDepth 20000 in
theorem gX2_trueValue_X4_indexOf : GoodIn wsX2_trueValue (wsV RX2 87 RX4 yX4_indexOf wsX4_indexOf) := goodIn_app (goodIn_m (mem_cA (List.mem_cons_of_mem _ (List.mem_append_left _ (List.mem_append_left _ (List.mem_append_left _ (List.mem_append_left _ (List.mem_append_left _ (List.mem_of_getElem? (i := 1) rfl))))))) (mem_cA (List.mem_cons_of_mem _ (List.mem_append_left _ (List.mem_append_left _ (List.mem_append_left _ (List.mem_append_left _ (List.mem_append_left _ (List.mem_of_getElem? (i := 2) rfl))))))) (mem_cA (List.mem_cons_of_mem _ (List.mem_append_left _ (List.mem_append_left _ (List.mem_append_left _ (List.mem_append_left _ (List.mem_append_left _ (List.mem_of_getElem? (i := 3) rfl))))))) (mem_cA (List.mem_cons_of_mem _ (List.mem_append_left _ (List.mem_append_left _ (List.mem_append_left _ (List.mem_append_left _ (List.mem_append_left _ (List.mem_of_getElem? (i := 4) rfl))))))) mem_cZ)))) (by decide +kernel)) ggX2_trueValue_X4_indexOf
set_option maxRecDepth 20000 in
theorem ggX2_trueValue_X4_flowAt : GoodIn wsX2_trueValue wsX4_flowAt := (goodIn_ca (goodIn_r _ [13, 8] rfl (by decide +kernel)) (goodIn_sub (fun _ h => List.mem_cons_of_mem _ (List.mem_append_left _ (List.mem_append_left _ (List.mem_append_right _ h)))) gw_wsX40))
set_option maxRecDepth 20000 in
theorem gX2_trueValue_X4_flowAt : GoodIn wsX2_trueValue (wsV RX2 98 RX4 yX4_flowAt wsX4_flowAt) := goodIn_app (goodIn_m (mem_cA (List.mem_cons_of_mem _ (List.mem_append_left _ (List.mem_append_left _ (List.mem_append_left _ (List.mem_append_left _ (List.mem_append_left _ (List.mem_of_getElem? (i := 9) rfl))))))) (mem_cA (List.mem_cons_of_mem _ (List.mem_append_left _ (List.mem_append_left _ (List.mem_append_left _ (List.mem_append_left _ (List.mem_append_left _ (List.mem_of_getElem? (i := 10) rfl))))))) (mem_cA (List.mem_cons_of_mem _ (List.mem_append_left _ (List.mem_append_left _ (List.mem_append_left _ (List.mem_append_left _ (List.mem_append_left _ (List.mem_of_getElem? (i := 11) rfl))))))) (mem_cA (List.mem_cons_of_mem _ (List.mem_append_left _ (List.mem_append_left _ (List.mem_append_left _ (List.mem_append_left _ (List.mem_append_left _ (List.mem_of_getElem? (i := 4) rfl))))))) mem_cZ)))) (by decide +kernel)) ggX2_trueValue_X4_flowAt
set_option maxRecDepth 20000 in
theorem ggX2_trueValue_X3_value : GoodIn wsX2_trueValue wsX3_value := goodIn_ca ((goodIn_ca (goodIn_r _ [18, 19, 20, 21, 22, 23, 24, 25, 17, 26, 27, 28] rfl (by decide +kernel)) (goodIn_sub (fun _ h => List.mem_cons_of_mem _ (List.mem_append_left _ (List.mem_append_right _ h))) gw_wsX30))) (goodIn_sub (fun _ h => List.mem_cons_of_mem _ (List.mem_append_right _ h)) (all_fg _))
set_option maxRecDepth 20000 in
theorem gX2_trueValue_X3_value : GoodIn wsX2_trueValue (wsV RX2 110 RX3 yX3_value wsX3_value) := goodIn_app (goodIn_m (mem_cA (List.mem_cons_of_mem _ (List.mem_append_left _ (List.mem_append_left _ (List.mem_append_left _ (List.mem_append_left _ (List.mem_append_left _ (List.mem_of_getElem? (i := 13) rfl))))))) (mem_cA (List.mem_cons_of_mem _ (List.mem_append_left _ (List.mem_append_left _ (List.mem_append_left _ (List.mem_append_left _ (List.mem_append_left _ (List.mem_of_getElem? (i := 14) rfl))))))) (mem_cA (List.mem_cons_of_mem _ (List.mem_append_left _ (List.mem_append_left _ (List.mem_append_left _ (List.mem_append_left _ (List.mem_append_left _ (List.mem_of_getElem? (i := 15) rfl))))))) (mem_cA (List.mem_cons_of_mem _ (List.mem_append_left _ (List.mem_append_left _ (List.mem_append_left _ (List.mem_append_left _ (List.mem_append_left _ (List.mem_of_getElem? (i := 16) rfl))))))) mem_cZ)))) (by decide +kernel)) ggX2_trueValue_X3_value
theorem dX2_trueValue_0 : decode cX2_trueValue 0 = .ok (.aload_n 0, 1) := by decide +kernel
theorem dX2_trueValue_1 : decode cX2_trueValue 1 = .ok (.getfield 20, 3) := by decide +kernel
theorem dX2_trueValue_4 : decode cX2_trueValue 4 = .ok (.lload_n 1, 1) := by decide +kernel
theorem dX2_trueValue_5 : decode cX2_trueValue 5 = .ok (.invokevirtual 87, 3) := by decide +kernel
theorem dX2_trueValue_8 : decode cX2_trueValue 8 = .ok (.istore 4, 2) := by decide +kernel
theorem dX2_trueValue_10 : decode cX2_trueValue 10 = .ok (.iload 4, 2) := by decide +kernel
theorem dX2_trueValue_12 : decode cX2_trueValue 12 = .ok (.iconst (-1), 1) := by decide +kernel
theorem dX2_trueValue_13 : decode cX2_trueValue 13 = .ok (.if_icmp .ne 7, 3) := by decide +kernel
theorem dX2_trueValue_16 : decode cX2_trueValue 16 = .ok (.lconst 0, 1) := by decide +kernel
theorem dX2_trueValue_17 : decode cX2_trueValue 17 = .ok (.goto 24, 3) := by decide +kernel
theorem dX2_trueValue_20 : decode cX2_trueValue 20 = .ok (.aload_n 0, 1) := by decide +kernel
theorem dX2_trueValue_21 : decode cX2_trueValue 21 = .ok (.getfield 20, 3) := by decide +kernel
theorem dX2_trueValue_24 : decode cX2_trueValue 24 = .ok (.iload 4, 2) := by decide +kernel
theorem dX2_trueValue_26 : decode cX2_trueValue 26 = .ok (.invokevirtual 98, 3) := by decide +kernel
theorem dX2_trueValue_29 : decode cX2_trueValue 29 = .ok (.iload_n 3, 1) := by decide +kernel
theorem dX2_trueValue_30 : decode cX2_trueValue 30 = .ok (.ifCond .ne 7, 3) := by decide +kernel
theorem dX2_trueValue_33 : decode cX2_trueValue 33 = .ok (.iconst 4, 1) := by decide +kernel
theorem dX2_trueValue_34 : decode cX2_trueValue 34 = .ok (.goto 4, 3) := by decide +kernel
theorem dX2_trueValue_37 : decode cX2_trueValue 37 = .ok (.iconst 5, 1) := by decide +kernel
theorem dX2_trueValue_38 : decode cX2_trueValue 38 = .ok (.invokevirtual 110, 3) := by decide +kernel
theorem dX2_trueValue_41 : decode cX2_trueValue 41 = .ok (.lreturn, 1) := by decide +kernel
theorem dX2_isSampled_0 : decode cX2_isSampled 0 = .ok (.aload_n 0, 1) := by decide +kernel
theorem dX2_isSampled_1 : decode cX2_isSampled 1 = .ok (.getfield 27, 3) := by decide +kernel
theorem dX2_isSampled_4 : decode cX2_isSampled 4 = .ok (.iconst 1, 1) := by decide +kernel
theorem dX2_isSampled_5 : decode cX2_isSampled 5 = .ok (.if_icmp .gt 5, 3) := by decide +kernel
theorem dX2_isSampled_8 : decode cX2_isSampled 8 = .ok (.iconst 1, 1) := by decide +kernel
theorem dX2_isSampled_9 : decode cX2_isSampled 9 = .ok (.ireturn, 1) := by decide +kernel
theorem dX2_isSampled_10 : decode cX2_isSampled 10 = .ok (.aload_n 0, 1) := by decide +kernel
theorem dX2_isSampled_11 : decode cX2_isSampled 11 = .ok (.ldc 114, 2) := by decide +kernel
theorem dX2_isSampled_13 : decode cX2_isSampled 13 = .ok (.aload_n 0, 1) := by decide +kernel
theorem dX2_isSampled_14 : decode cX2_isSampled 14 = .ok (.getfield 30, 3) := by decide +kernel
theorem dX2_isSampled_17 : decode cX2_isSampled 17 = .ok (.imul, 1) := by decide +kernel
theorem dX2_isSampled_18 : decode cX2_isSampled 18 = .ok (.sipush 12345, 3) := by decide +kernel
theorem dX2_isSampled_21 : decode cX2_isSampled 21 = .ok (.iadd, 1) := by decide +kernel
theorem dX2_isSampled_22 : decode cX2_isSampled 22 = .ok (.ldc 115, 2) := by decide +kernel
theorem dX2_isSampled_24 : decode cX2_isSampled 24 = .ok (.iand, 1) := by decide +kernel
theorem dX2_isSampled_25 : decode cX2_isSampled 25 = .ok (.putfield 30, 3) := by decide +kernel
theorem dX2_isSampled_28 : decode cX2_isSampled 28 = .ok (.aload_n 0, 1) := by decide +kernel
theorem dX2_isSampled_29 : decode cX2_isSampled 29 = .ok (.getfield 30, 3) := by decide +kernel
theorem dX2_isSampled_32 : decode cX2_isSampled 32 = .ok (.sipush 256, 3) := by decide +kernel
theorem dX2_isSampled_35 : decode cX2_isSampled 35 = .ok (.idiv, 1) := by decide +kernel
theorem dX2_isSampled_36 : decode cX2_isSampled 36 = .ok (.aload_n 0, 1) := by decide +kernel
theorem dX2_isSampled_37 : decode cX2_isSampled 37 = .ok (.getfield 27, 3) := by decide +kernel
theorem dX2_isSampled_40 : decode cX2_isSampled 40 = .ok (.irem, 1) := by decide +kernel
theorem dX2_isSampled_41 : decode cX2_isSampled 41 = .ok (.ifCond .ne 7, 3) := by decide +kernel
theorem dX2_isSampled_44 : decode cX2_isSampled 44 = .ok (.iconst 1, 1) := by decide +kernel
theorem dX2_isSampled_45 : decode cX2_isSampled 45 = .ok (.goto 4, 3) := by decide +kernel
theorem dX2_isSampled_48 : decode cX2_isSampled 48 = .ok (.iconst 0, 1) := by decide +kernel
theorem dX2_isSampled_49 : decode cX2_isSampled 49 = .ok (.ireturn, 1) := by decide +kernel
set_option maxRecDepth 20000 in
theorem ggX2_exportAt_X4_removeAt : GoodIn wsX2_exportAt wsX4_removeAt := (goodIn_ca (goodIn_r _ [13, 14, 15, 16, 17, 18, 12, 19] rfl (by decide +kernel)) (goodIn_sub (fun _ h => List.mem_cons_of_mem _ (List.mem_append_left _ (List.mem_append_left _ (List.mem_append_left _ (List.mem_append_left _ (List.mem_append_left _ (List.mem_append_right _ h))))))) gw_wsX40))
set_option maxRecDepth 20000 in
theorem gX2_exportAt_X4_removeAt : GoodIn wsX2_exportAt (wsV RX2 126 RX4 yX4_removeAt wsX4_removeAt) := goodIn_app (goodIn_m (mem_cA (List.mem_cons_of_mem _ (List.mem_append_left _ (List.mem_append_left _ (List.mem_append_left _ (List.mem_append_left _ (List.mem_append_left _ (List.mem_append_left _ (List.mem_append_left _ (List.mem_append_left _ (List.mem_append_left _ (List.mem_append_left _ (List.mem_of_getElem? (i := 8) rfl)))))))))))) (mem_cA (List.mem_cons_of_mem _ (List.mem_append_left _ (List.mem_append_left _ (List.mem_append_left _ (List.mem_append_left _ (List.mem_append_left _ (List.mem_append_left _ (List.mem_append_left _ (List.mem_append_left _ (List.mem_append_left _ (List.mem_append_left _ (List.mem_of_getElem? (i := 9) rfl)))))))))))) (mem_cA (List.mem_cons_of_mem _ (List.mem_append_left _ (List.mem_append_left _ (List.mem_append_left _ (List.mem_append_left _ (List.mem_append_left _ (List.mem_append_left _ (List.mem_append_left _ (List.mem_append_left _ (List.mem_append_left _ (List.mem_append_left _ (List.mem_of_getElem? (i := 10) rfl)))))))))))) (mem_cA (List.mem_cons_of_mem _ (List.mem_append_left _ (List.mem_append_left _ (List.mem_append_left _ (List.mem_append_left _ (List.mem_append_left _ (List.mem_append_left _ (List.mem_append_left _ (List.mem_append_left _ (List.mem_append_left _ (List.mem_append_left _ (List.mem_of_getElem? (i := 11) rfl)))))))))))) mem_cZ)))) (by decide +kernel)) ggX2_exportAt_X4_removeAt
set_option maxRecDepth 20000 in
theorem ggX2_exportAt_X3_partOf : GoodIn wsX2_exportAt wsX3_partOf := goodIn_ca ((goodIn_r _ [23, 24, 25] rfl (by decide +kernel))) (goodIn_sub (fun _ h => List.mem_cons_of_mem _ (List.mem_append_left _ (List.mem_append_right _ h))) (all_fg _))
set_option maxRecDepth 20000 in
theorem gX2_exportAt_X3_partOf : GoodIn wsX2_exportAt (va_wsS RX2 132 yX3_partOf wsX3_partOf) := goodIn_app (goodIn_m (mem_cA (List.mem_cons_of_mem _ (List.mem_append_left _ (List.mem_append_left _ (List.mem_append_left _ (List.mem_append_left _ (List.mem_append_left _ (List.mem_append_left _ (List.mem_append_left _ (List.mem_append_left _ (List.mem_append_left _ (List.mem_append_left _ (List.mem_of_getElem? (i := 19) rfl)))))))))))) (mem_cA (List.mem_cons_of_mem _ (List.mem_append_left _ (List.mem_append_left _ (List.mem_append_left _ (List.mem_append_left _ (List.mem_append_left _ (List.mem_append_left _ (List.mem_append_left _ (List.mem_append_left _ (List.mem_append_left _ (List.mem_append_left _ (List.mem_of_getElem? (i := 20) rfl)))))))))))) (mem_cA (List.mem_cons_of_mem _ (List.mem_append_left _ (List.mem_append_left _ (List.mem_append_left _ (List.mem_append_left _ (List.mem_append_left _ (List.mem_append_left _ (List.mem_append_left _ (List.mem_append_left _ (List.mem_append_left _ (List.mem_append_left _ (List.mem_of_getElem? (i := 21) rfl)))))))))))) mem_cZ))) (by decide +kernel)) ggX2_exportAt_X3_partOf
set_option maxRecDepth 20000 in
theorem ggX2_exportAt_X1_templateOf : GoodIn wsX2_exportAt wsX1_templateOf := goodIn_ca ((goodIn_ca (goodIn_r _ [30, 31] rfl (by decide +kernel)) (goodIn_sub (fun _ h => List.mem_cons_of_mem _ (List.mem_append_left _ (List.mem_append_left _ (List.mem_append_left _ (List.mem_append_left _ (List.mem_append_right _ h)))))) gw_wsX10))) (goodIn_sub (fun _ h => List.mem_cons_of_mem _ (List.mem_append_left _ (List.mem_append_right _ h))) (all_fg _))
set_option maxRecDepth 20000 in
theorem gX2_exportAt_X1_templateOf : GoodIn wsX2_exportAt (wsV RX2 136 RX1 yX1_templateOf wsX1_templateOf) := goodIn_app (goodIn_m (mem_cA (List.mem_cons_of_mem _ (List.mem_append_left _ (List.mem_append_left _ (List.mem_append_left _ (List.mem_append_left _ (List.mem_append_left _ (List.mem_append_left _ (List.mem_append_left _ (List.mem_append_left _ (List.mem_append_left _ (List.mem_append_right _ (List.mem_append_left _ (List.mem_of_getElem? (i := 1) rfl))))))))))))) (mem_cA (List.mem_cons_of_mem _ (List.mem_append_left _ (List.mem_append_left _ (List.mem_append_left _ (List.mem_append_left _ (List.mem_append_left _ (List.mem_append_left _ (List.mem_append_left _ (List.mem_append_left _ (List.mem_append_left _ (List.mem_append_right _ (List.mem_append_left _ (List.mem_of_getElem? (i := 2) rfl))))))))))))) (mem_cA (List.mem_cons_of_mem _ (List.mem_append_left _ (List.mem_append_left _ (List.mem_append_left _ (List.mem_append_left _ (List.mem_append_left _ (List.mem_append_left _ (List.mem_append_left _ (List.mem_append_left _ (List.mem_append_left _ (List.mem_append_right _ (List.mem_append_left _ (List.mem_of_getElem? (i := 3) rfl))))))))))))) (mem_cA (List.mem_cons_of_mem _ (List.mem_append_left _ (List.mem_append_left _ (List.mem_append_left _ (List.mem_append_left _ (List.mem_append_left _ (List.mem_append_left _ (List.mem_append_left _ (List.mem_append_left _ (List.mem_append_left _ (List.mem_append_right _ (List.mem_append_left _ (List.mem_of_getElem? (i := 4) rfl))))))))))))) mem_cZ)))) (by decide +kernel)) ggX2_exportAt_X1_templateOf
set_option maxRecDepth 20000 in
theorem ggX2_exportAt_X1_effective : GoodIn wsX2_exportAt wsX1_effective := (goodIn_ca (goodIn_r _ [35, 36] rfl (by decide +kernel)) (goodIn_sub (fun _ h => List.mem_cons_of_mem _ (List.mem_append_left _ (List.mem_append_left _ (List.mem_append_left _ (List.mem_append_left _ (List.mem_append_right _ h)))))) gw_wsX10))
set_option maxRecDepth 20000 in
theorem gX2_exportAt_X1_effective : GoodIn wsX2_exportAt (wsV RX2 139 RX1 yX1_effective wsX1_effective) := goodIn_app (goodIn_m (mem_cA (List.mem_cons_of_mem _ (List.mem_append_left _ (List.mem_append_left _ (List.mem_append_left _ (List.mem_append_left _ (List.mem_append_left _ (List.mem_append_left _ (List.mem_append_left _ (List.mem_append_left _ (List.mem_append_left _ (List.mem_append_right _ (List.mem_append_left _ (List.mem_of_getElem? (i := 7) rfl))))))))))))) (mem_cA (List.mem_cons_of_mem _ (List.mem_append_left _ (List.mem_append_left _ (List.mem_append_left _ (List.mem_append_left _ (List.mem_append_left _ (List.mem_append_left _ (List.mem_append_left _ (List.mem_append_left _ (List.mem_append_left _ (List.mem_append_right _ (List.mem_append_left _ (List.mem_of_getElem? (i := 8) rfl))))))))))))) (mem_cA (List.mem_cons_of_mem _ (List.mem_append_left _ (List.mem_append_left _ (List.mem_append_left _ (List.mem_append_left _ (List.mem_append_left _ (List.mem_append_left _ (List.mem_append_left _ (List.mem_append_left _ (List.mem_append_left _ (List.mem_append_right _ (List.mem_append_left _ (List.mem_of_getElem? (i := 9) rfl))))))))))))) (mem_cA (List.mem_cons_of_mem _ (List.mem_append_left _ (List.mem_append_left _ (List.mem_append_left _ (List.mem_append_left _ (List.mem_append_left _ (List.mem_append_left _ (List.mem_append_left _ (List.mem_append_left _ (List.mem_append_left _ (List.mem_append_right _ (List.mem_append_left _ (List.mem_of_getElem? (i := 4) rfl))))))))))))) mem_cZ)))) (by decide +kernel)) ggX2_exportAt_X1_effective
set_option maxRecDepth 20000 in
theorem ggX2_exportAt_X2_bitsOfInverse : GoodIn wsX2_exportAt wsX2_bitsOfInverse := goodIn_ca ((goodIn_r _ [40, 41] rfl (by decide +kernel))) (goodIn_sub (fun _ h => List.mem_cons_of_mem _ (List.mem_append_right _ h)) (all_fg _))
set_option maxRecDepth 20000 in
theorem gX2_exportAt_X2_bitsOfInverse : GoodIn wsX2_exportAt (va_wsS RX2 146 yX2_bitsOfInverse wsX2_bitsOfInverse) := goodIn_app (goodIn_m (mem_cA (List.mem_cons_of_mem _ (List.mem_append_left _ (List.mem_append_left _ (List.mem_append_left _ (List.mem_append_left _ (List.mem_append_left _ (List.mem_append_left _ (List.mem_append_left _ (List.mem_append_left _ (List.mem_append_left _ (List.mem_append_right _ (List.mem_append_left _ (List.mem_of_getElem? (i := 12) rfl))))))))))))) (mem_cA (List.mem_cons_of_mem _ (List.mem_append_left _ (List.mem_append_left _ (List.mem_append_left _ (List.mem_append_left _ (List.mem_append_left _ (List.mem_append_left _ (List.mem_append_left _ (List.mem_append_left _ (List.mem_append_left _ (List.mem_append_right _ (List.mem_append_left _ (List.mem_of_getElem? (i := 13) rfl))))))))))))) (mem_cA (List.mem_cons_of_mem _ (List.mem_append_left _ (List.mem_append_left _ (List.mem_append_left _ (List.mem_append_left _ (List.mem_append_left _ (List.mem_append_left _ (List.mem_append_left _ (List.mem_append_left _ (List.mem_append_left _ (List.mem_append_right _ (List.mem_append_left _ (List.mem_of_getElem? (i := 14) rfl))))))))))))) mem_cZ))) (by decide +kernel)) ggX2_exportAt_X2_bitsOfInverse
set_option maxRecDepth 20000 in
theorem ggX2_exportAt_X8_addRecord : GoodIn wsX2_exportAt wsX8_addRecord := goodIn_ca ((goodIn_ca (goodIn_ca (goodIn_ca (goodIn_ca (goodIn_ca (goodIn_r _ [46, 47, 48, 49, 50, 51, 52, 53, 33, 34, 29, 35, 36, 54, 55, 56, 57, 58, 59, 60, 61, 62, 63, 22, 64, 65, 66, 67, 68, 69, 70, 21, 23, 24, 25, 71, 72, 73, 74, 75, 76, 77, 78, 79, 80, 81] rfl (by decide +kernel)) (goodIn_sub (fun _ h => List.mem_cons_of_mem _ (List.mem_append_left _ (List.mem_append_left _ (List.mem_append_left _ (List.mem_append_right _ h))))) gw_wsX80)) (goodIn_sub (fun _ h => List.mem_cons_of_mem _ (List.mem_append_left _ (List.mem_append_left _ (List.mem_append_left _ (List.mem_append_left _ (List.mem_append_left _ (List.mem_append_left _ (List.mem_append_right _ h)))))))) gw_wsX100)) (goodIn_sub (fun _ h => List.mem_cons_of_mem _ (List.mem_append_left _ (List.mem_append_left _ (List.mem_append_left _ (List.mem_append_left _ (List.mem_append_right _ h)))))) gw_wsX10)) (goodIn_sub (fun _ h => List.mem_cons_of_mem _ (List.mem_append_left _ (List.mem_append_left _ (List.mem_append_left _ (List.mem_append_left _ (List.mem_append_left _ (List.mem_append_left _ (List.mem_append_left _ (List.mem_append_right _ h))))))))) gw_wsX30)) (goodIn_sub (fun _ h => List.mem_cons_of_mem _ (List.mem_append_left _ (List.mem_append_left _ (List.mem_append_right _ h)))) gw_wsX50))) (goodIn_sub (fun _ h => List.mem_cons_of_mem _ (List.mem_append_left _ (List.mem_append_right _ h))) (all_fg _))
set_option maxRecDepth 20000 in
theorem gX2_exportAt_X8_addRecord : GoodIn wsX2_exportAt (wsV RX2 149 RX8 yX8_addRecord wsX8_addRecord) := goodIn_app (goodIn_m (mem_cA (List.mem_cons_of_mem _ (List.mem_append_left _ (List.mem_append_left _ (List.mem_append_left _ (List.mem_append_left _ (List.mem_append_left _ (List.mem_append_left _ (List.mem_append_left _ (List.mem_append_left _ (List.mem_append_left _ (List.mem_append_right _ (List.mem_append_left _ (List.mem_of_getElem? (i := 17) rfl))))))))))))) (mem_cA (List.mem_cons_of_mem _ (List.mem_append_left _ (List.mem_append_left _ (List.mem_append_left _ (List.mem_append_left _ (List.mem_append_left _ (List.mem_append_left _ (List.mem_append_left _ (List.mem_append_left _ (List.mem_append_left _ (List.mem_append_right _ (List.mem_append_left _ (List.mem_of_getElem? (i := 18) rfl))))))))))))) (mem_cA (List.mem_cons_of_mem _ (List.mem_append_left _ (List.mem_append_left _ (List.mem_append_left _ (List.mem_append_left _ (List.mem_append_left _ (List.mem_append_left _ (List.mem_append_left _ (List.mem_append_left _ (List.mem_append_left _ (List.mem_append_right _ (List.mem_append_left _ (List.mem_of_getElem? (i := 19) rfl))))))))))))) (mem_cA (List.mem_cons_of_mem _ (List.mem_append_left _ (List.mem_append_left _ (List.mem_append_left _ (List.mem_append_left _ (List.mem_append_left _ (List.mem_append_left _ (List.mem_append_left _ (List.mem_append_left _ (List.mem_append_left _ (List.mem_append_right _ (List.mem_append_left _ (List.mem_of_getElem? (i := 20) rfl))))))))))))) mem_cZ)))) (by decide +kernel)) ggX2_exportAt_X8_addRecord
theorem dX2_exportAt_0 : decode cX2_exportAt 0 = .ok (.aload_n 0, 1) := by decide +kernel
theorem dX2_exportAt_1 : decode cX2_exportAt 1 = .ok (.getfield 14, 3) := by decide +kernel
theorem dX2_exportAt_4 : decode cX2_exportAt 4 = .ok (.iload_n 1, 1) := by decide +kernel
theorem dX2_exportAt_5 : decode cX2_exportAt 5 = .ok (.invokevirtual 126, 3) := by decide +kernel
theorem dX2_exportAt_8 : decode cX2_exportAt 8 = .ok (.astore_n 2, 1) := by decide +kernel
theorem dX2_exportAt_9 : decode cX2_exportAt 9 = .ok (.aload_n 0, 1) := by decide +kernel
theorem dX2_exportAt_10 : decode cX2_exportAt 10 = .ok (.getfield 53, 3) := by decide +kernel
theorem dX2_exportAt_13 : decode cX2_exportAt 13 = .ok (.aload_n 2, 1) := by decide +kernel
theorem dX2_exportAt_14 : decode cX2_exportAt 14 = .ok (.getfield 129, 3) := by decide +kernel
theorem dX2_exportAt_17 : decode cX2_exportAt 17 = .ok (.iconst 3, 1) := by decide +kernel
theorem dX2_exportAt_18 : decode cX2_exportAt 18 = .ok (.invokestatic 132, 3) := by decide +kernel
theorem dX2_exportAt_21 : decode cX2_exportAt 21 = .ok (.invokevirtual 136, 3) := by decide +kernel
theorem dX2_exportAt_24 : decode cX2_exportAt 24 = .ok (.istore_n 3, 1) := by decide +kernel
theorem dX2_exportAt_25 : decode cX2_exportAt 25 = .ok (.aload_n 0, 1) := by decide +kernel
theorem dX2_exportAt_26 : decode cX2_exportAt 26 = .ok (.dup, 1) := by decide +kernel
theorem dX2_exportAt_27 : decode cX2_exportAt 27 = .ok (.getfield 37, 3) := by decide +kernel
theorem dX2_exportAt_30 : decode cX2_exportAt 30 = .ok (.iconst 1, 1) := by decide +kernel
theorem dX2_exportAt_31 : decode cX2_exportAt 31 = .ok (.iadd, 1) := by decide +kernel
theorem dX2_exportAt_32 : decode cX2_exportAt 32 = .ok (.putfield 37, 3) := by decide +kernel
theorem dX2_exportAt_35 : decode cX2_exportAt 35 = .ok (.aload_n 0, 1) := by decide +kernel
theorem dX2_exportAt_36 : decode cX2_exportAt 36 = .ok (.getfield 53, 3) := by decide +kernel
theorem dX2_exportAt_39 : decode cX2_exportAt 39 = .ok (.iload_n 3, 1) := by decide +kernel
theorem dX2_exportAt_40 : decode cX2_exportAt 40 = .ok (.invokevirtual 139, 3) := by decide +kernel
theorem dX2_exportAt_43 : decode cX2_exportAt 43 = .ok (.getfield 143, 3) := by decide +kernel
theorem dX2_exportAt_46 : decode cX2_exportAt 46 = .ok (.ifCond .ne 16, 3) := by decide +kernel
theorem dX2_exportAt_49 : decode cX2_exportAt 49 = .ok (.aload_n 0, 1) := by decide +kernel
theorem dX2_exportAt_50 : decode cX2_exportAt 50 = .ok (.dup, 1) := by decide +kernel
theorem dX2_exportAt_51 : decode cX2_exportAt 51 = .ok (.getfield 50, 3) := by decide +kernel
theorem dX2_exportAt_54 : decode cX2_exportAt 54 = .ok (.lconst 1, 1) := by decide +kernel
theorem dX2_exportAt_55 : decode cX2_exportAt 55 = .ok (.ladd, 1) := by decide +kernel
theorem dX2_exportAt_56 : decode cX2_exportAt 56 = .ok (.putfield 50, 3) := by decide +kernel
theorem dX2_exportAt_59 : decode cX2_exportAt 59 = .ok (.goto 19, 3) := by decide +kernel
theorem dX2_exportAt_62 : decode cX2_exportAt 62 = .ok (.aload_n 0, 1) := by decide +kernel
theorem dX2_exportAt_63 : decode cX2_exportAt 63 = .ok (.getfield 57, 3) := by decide +kernel
theorem dX2_exportAt_66 : decode cX2_exportAt 66 = .ok (.aload_n 2, 1) := by decide +kernel
theorem dX2_exportAt_67 : decode cX2_exportAt 67 = .ok (.iload_n 3, 1) := by decide +kernel
theorem dX2_exportAt_68 : decode cX2_exportAt 68 = .ok (.aload_n 0, 1) := by decide +kernel
theorem dX2_exportAt_69 : decode cX2_exportAt 69 = .ok (.getfield 27, 3) := by decide +kernel
theorem dX2_exportAt_72 : decode cX2_exportAt 72 = .ok (.invokestatic 146, 3) := by decide +kernel
theorem dX2_exportAt_75 : decode cX2_exportAt 75 = .ok (.invokevirtual 149, 3) := by decide +kernel
theorem dX2_exportAt_78 : decode cX2_exportAt 78 = .ok (.return_, 1) := by decide +kernel
theorem dX2_bitsOfInverse_0 : decode cX2_bitsOfInverse 0 = .ok (.iload_n 0, 1) := by decide +kernel
theorem dX2_bitsOfInverse_1 : decode cX2_bitsOfInverse 1 = .ok (.iconst 1, 1) := by decide +kernel
theorem dX2_bitsOfInverse_2 : decode cX2_bitsOfInverse 2 = .ok (.if_icmp .ge 5, 3) := by decide +kernel
theorem dX2_bitsOfInverse_5 : decode cX2_bitsOfInverse 5 = .ok (.iconst 0, 1) := by decide +kernel
theorem dX2_bitsOfInverse_6 : decode cX2_bitsOfInverse 6 = .ok (.ireturn, 1) := by decide +kernel
theorem dX2_bitsOfInverse_7 : decode cX2_bitsOfInverse 7 = .ok (.iconst 0, 1) := by decide +kernel
theorem dX2_bitsOfInverse_8 : decode cX2_bitsOfInverse 8 = .ok (.istore_n 1, 1) := by decide +kernel
theorem dX2_bitsOfInverse_9 : decode cX2_bitsOfInverse 9 = .ok (.iload_n 1, 1) := by decide +kernel
theorem dX2_bitsOfInverse_10 : decode cX2_bitsOfInverse 10 = .ok (.bipush 30, 2) := by decide +kernel
theorem dX2_bitsOfInverse_12 : decode cX2_bitsOfInverse 12 = .ok (.if_icmp .ge 16, 3) := by decide +kernel
theorem dX2_bitsOfInverse_15 : decode cX2_bitsOfInverse 15 = .ok (.iconst 1, 1) := by decide +kernel
theorem dX2_bitsOfInverse_16 : decode cX2_bitsOfInverse 16 = .ok (.iload_n 1, 1) := by decide +kernel
theorem dX2_bitsOfInverse_17 : decode cX2_bitsOfInverse 17 = .ok (.ishl, 1) := by decide +kernel
theorem dX2_bitsOfInverse_18 : decode cX2_bitsOfInverse 18 = .ok (.iload_n 0, 1) := by decide +kernel
theorem dX2_bitsOfInverse_19 : decode cX2_bitsOfInverse 19 = .ok (.if_icmp .ge 9, 3) := by decide +kernel
theorem dX2_bitsOfInverse_22 : decode cX2_bitsOfInverse 22 = .ok (.iinc 1 1, 3) := by decide +kernel
theorem dX2_bitsOfInverse_25 : decode cX2_bitsOfInverse 25 = .ok (.goto (-16), 3) := by decide +kernel
theorem dX2_bitsOfInverse_28 : decode cX2_bitsOfInverse 28 = .ok (.lconst 1, 1) := by decide +kernel
theorem dX2_bitsOfInverse_29 : decode cX2_bitsOfInverse 29 = .ok (.bipush 23, 2) := by decide +kernel
theorem dX2_bitsOfInverse_31 : decode cX2_bitsOfInverse 31 = .ok (.iload_n 1, 1) := by decide +kernel
theorem dX2_bitsOfInverse_32 : decode cX2_bitsOfInverse 32 = .ok (.iadd, 1) := by decide +kernel
theorem dX2_bitsOfInverse_33 : decode cX2_bitsOfInverse 33 = .ok (.lshl, 1) := by decide +kernel
theorem dX2_bitsOfInverse_34 : decode cX2_bitsOfInverse 34 = .ok (.iload_n 0, 1) := by decide +kernel
theorem dX2_bitsOfInverse_35 : decode cX2_bitsOfInverse 35 = .ok (.iconst 2, 1) := by decide +kernel
theorem dX2_bitsOfInverse_36 : decode cX2_bitsOfInverse 36 = .ok (.idiv, 1) := by decide +kernel
theorem dX2_bitsOfInverse_37 : decode cX2_bitsOfInverse 37 = .ok (.i2l, 1) := by decide +kernel
theorem dX2_bitsOfInverse_38 : decode cX2_bitsOfInverse 38 = .ok (.ladd, 1) := by decide +kernel
theorem dX2_bitsOfInverse_39 : decode cX2_bitsOfInverse 39 = .ok (.iload_n 0, 1) := by decide +kernel
theorem dX2_bitsOfInverse_40 : decode cX2_bitsOfInverse 40 = .ok (.i2l, 1) := by decide +kernel
theorem dX2_bitsOfInverse_41 : decode cX2_bitsOfInverse 41 = .ok (.ldiv, 1) := by decide +kernel
theorem dX2_bitsOfInverse_42 : decode cX2_bitsOfInverse 42 = .ok (.lstore_n 2, 1) := by decide +kernel
theorem dX2_bitsOfInverse_43 : decode cX2_bitsOfInverse 43 = .ok (.bipush 127, 2) := by decide +kernel
theorem dX2_bitsOfInverse_45 : decode cX2_bitsOfInverse 45 = .ok (.iload_n 1, 1) := by decide +kernel
theorem dX2_bitsOfInverse_46 : decode cX2_bitsOfInverse 46 = .ok (.isub, 1) := by decide +kernel
theorem dX2_bitsOfInverse_47 : decode cX2_bitsOfInverse 47 = .ok (.bipush 23, 2) := by decide +kernel
theorem dX2_bitsOfInverse_49 : decode cX2_bitsOfInverse 49 = .ok (.ishl, 1) := by decide +kernel
theorem dX2_bitsOfInverse_50 : decode cX2_bitsOfInverse 50 = .ok (.lload_n 2, 1) := by decide +kernel
theorem dX2_bitsOfInverse_51 : decode cX2_bitsOfInverse 51 = .ok (.ldc2_w 165, 3) := by decide +kernel
theorem dX2_bitsOfInverse_54 : decode cX2_bitsOfInverse 54 = .ok (.lsub, 1) := by decide +kernel
theorem dX2_bitsOfInverse_55 : decode cX2_bitsOfInverse 55 = .ok (.l2i, 1) := by decide +kernel
theorem dX2_bitsOfInverse_56 : decode cX2_bitsOfInverse 56 = .ok (.iadd, 1) := by decide +kernel
theorem dX2_bitsOfInverse_57 : decode cX2_bitsOfInverse 57 = .ok (.ireturn, 1) := by decide +kernel
theorem hv_X2_clear_30 : Cond.fieldLink RX2 30 "FlowExporter$Exporter" (TX2 6).2.1 (TX2 6).2.2.1 ∈ wsX2_clear := List.mem_cons_of_mem _ (List.mem_append_left _ (List.mem_append_left _ (List.mem_append_left _ (List.mem_append_left _ (List.mem_of_getElem? (i := 6) rfl)))))

theorem hv_X2_clear_33 : Cond.fieldLink RX2 33 "FlowExporter$Exporter" (TX2 7).2.1 (TX2 7).2.2.1 ∈ wsX2_clear := List.mem_cons_of_mem _ (List.mem_append_left _ (List.mem_append_left _ (List.mem_append_left _ (List.mem_append_left _ (List.mem_of_getElem? (i := 7) rfl)))))

theorem hv_X2_clear_37 : Cond.fieldLink RX2 37 "FlowExporter$Exporter" (TX2 8).2.1 (TX2 8).2.2.1 ∈ wsX2_clear := List.mem_cons_of_mem _ (List.mem_append_left _ (List.mem_append_left _ (List.mem_append_left _ (List.mem_append_left _ (List.mem_of_getElem? (i := 8) rfl)))))

theorem hv_X2_clear_40 : Cond.fieldLink RX2 40 "FlowExporter$Exporter" (TX2 9).2.1 (TX2 9).2.2.1 ∈ wsX2_clear := List.mem_cons_of_mem _ (List.mem_append_left _ (List.mem_append_left _ (List.mem_append_left _ (List.mem_append_left _ (List.mem_of_getElem? (i := 9) rfl)))))

theorem hv_X2_clear_43 : Cond.fieldLink RX2 43 "FlowExporter$Exporter" (TX2 10).2.1 (TX2 10).2.2.1 ∈ wsX2_clear := List.mem_cons_of_mem _ (List.mem_append_left _ (List.mem_append_left _ (List.mem_append_left _ (List.mem_append_left _ (List.mem_of_getElem? (i := 10) rfl)))))

theorem hv_X2_clear_47 : Cond.fieldLink RX2 47 "FlowExporter$Exporter" (TX2 11).2.1 (TX2 11).2.2.1 ∈ wsX2_clear := List.mem_cons_of_mem _ (List.mem_append_left _ (List.mem_append_left _ (List.mem_append_left _ (List.mem_append_left _ (List.mem_of_getElem? (i := 11) rfl)))))

theorem hv_X2_clear_50 : Cond.fieldLink RX2 50 "FlowExporter$Exporter" (TX2 12).2.1 (TX2 12).2.2.1 ∈ wsX2_clear := List.mem_cons_of_mem _ (List.mem_append_left _ (List.mem_append_left _ (List.mem_append_left _ (List.mem_append_left _ (List.mem_of_getElem? (i := 12) rfl)))))

set_option maxHeartbeats 4000000 in
set_option maxRecDepth 100000 in
theorem s_X2_clear (G : EnvG) (l : Launch) (Φ : Hm) (sz x ca : Nat) (nw : Int32) (rt : Int32) (dw : Int32) (aq : Int32) (xp : Int32) (xb : Int32) (ob : Int64) (sm : Int64) (un : Int64) (hx : G.2.2.2 ≤ x) (hI : In G x ca Φ) (hc0 : Φ (x + 80) = some (o_ 4 [.ref (x + 3), .ref (x + 74), .ref (x + 81), .ref (x + 95), .int nw, .int rt, .int dw, .int aq, .int xp, .int xb, .long ob, .long sm, .long un])) (had : aq = 0 ∨ aq = 1) : Ct G l yX2_clear wsX2_clear ({ frames := 1, cells := 0, slots := 0, locals := 21 }) 0 0 [.ref (x + 80)] Φ sz (fun v Φ1 sz1 => ((v = none) ∧ ∃ rt8 : Int32, Φ1 (x + 80) = some (o_ 4 [.ref (x + 3), .ref (x + 74), .ref (x + 81), .ref (x + 95), .int 0, .int rt8, .int 1, .int 0, .int 0, .int 0, .long 0, .long 0, .long 0])) ∧ sz1 = sz ∧ In G x (ca) Φ1 ∧ Fr x (fun j9 => j9 = 80 ∨ j9 = 81 ∨ j9 = 95) Φ Φ1) := by
  refine Ct.of (cc := cX2_clear) (maxL := 1) (ret := none) (by decide) rfl (Nat.le_of_ble_eq_true rfl) ?_
  intro p9 e9 s9 m9 w9 t9 k9 B
  show Z p9 l e9 _ s9 m9 _ w9 t9 k9 _ G 1 0 [(0, .ref (x + 80))] [] Φ sz 0 0
  refine z_aload_n B dX2_clear_0 rfl 0 rfl ?_
  refine z_get (ref := "FlowExporter$Exporter") (C := RX2) (T := TX2) (N := 13) (ci := 4) (v := .ref (x + 81)) B hu_X2_clear_X2 rfl 2 (Nat.le_of_ble_eq_true rfl) hv_X2_clear_14 rfl hc0 rfl dX2_clear_1 ?_
  refine z_iconst (v := 0) B dX2_clear_4 rfl ?_
  obtain ⟨n_1, h_1, b_1⟩ := in17 (k := 81) hI rfl
  replace b_1 : n_1 ≤ 12 := b_1
  have h_2 : Φ (x + 81) = some (o_ 6 [.ref (x + 82), .int (nI n_1)]) := h_1
  refine z_put (ref := "FlowExporter$FlowTable") (C := RX4) (T := TX4) (N := 2) (ci := 6) (v := .int 0) B hu_X2_clear_X4 tyX4 tyX4_ok nmX4 rfl 1 (Nat.le_of_ble_eq_true rfl) hv_X2_clear_61 rfl (Or.inl rfl) h_2 (Nat.le_trans hx (Nat.le_add_right x 81)) rfl rfl (Nat.le_of_ble_eq_true rfl) dX2_clear_5 (fun Φ1 hΦ1 => ?_)
  have h_3 : Φ1 (x + 81) = some (o_ 6 [.ref (x + 82), .int 0]) := fset_at hΦ1
  have hI1 : In G x (ca) Φ1 := In.put (k := 81) hI hΦ1 (ok17 (k := 81) rfl ⟨0, rfl, (show 0 ≤ 12 by omega)⟩)
  refine z_aload_n B dX2_clear_8 rfl 0 rfl ?_
  have h_4 : Φ1 (x + 80) = some (o_ 4 [.ref (x + 3), .ref (x + 74), .ref (x + 81), .ref (x + 95), .int nw, .int rt, .int dw, .int aq, .int xp, .int xb, .long ob, .long sm, .long un]) := ((fset_fr hΦ1 (ne_off (x := x) (i := 80) (j := 81) rfl)).trans hc0)
  refine z_get (ref := "FlowExporter$Exporter") (C := RX2) (T := TX2) (N := 13) (ci := 4) (v := .ref (x + 95)) B hu_X2_clear_X2 rfl 3 (Nat.le_of_ble_eq_true rfl) hv_X2_clear_20 rfl h_4 rfl dX2_clear_9 ?_
  refine z_iconst (v := 0) B dX2_clear_12 rfl ?_
  obtain ⟨n_2, h_5, b_2⟩ := in17 (k := 95) hI1 rfl
  replace b_2 : n_2 ≤ 24 := b_2
  have h_6 : Φ1 (x + 95) = some (o_ 6 [.ref (x + 96), .int (nI n_2)]) := h_5
  refine z_put (ref := "FlowExporter$FlowTable") (C := RX4) (T := TX4) (N := 2) (ci := 6) (v := .int 0) B hu_X2_clear_X4 tyX4 tyX4_ok nmX4 rfl 1 (Nat.le_of_ble_eq_true rfl) hv_X2_clear_61 rfl (Or.inl rfl) h_6 (Nat.le_trans hx (Nat.le_add_right x 95)) rfl rfl (Nat.le_of_ble_eq_true rfl) dX2_clear_13 (fun Φ2 hΦ2 => ?_)
  have h_7 : Φ2 (x + 95) = some (o_ 6 [.ref (x + 96), .int 0]) := fset_at hΦ2
  have hI2 : In G x (ca) Φ2 := In.put (k := 95) hI1 hΦ2 (ok17 (k := 95) rfl ⟨0, rfl, (show 0 ≤ 24 by omega)⟩)
  refine z_aload_n B dX2_clear_16 rfl 0 rfl ?_
  refine z_iconst (v := 0) B dX2_clear_17 rfl ?_
  have h_8 : Φ2 (x + 80) = some (o_ 4 [.ref (x + 3), .ref (x + 74), .ref (x + 81), .ref (x + 95), .int nw, .int rt, .int dw, .int aq, .int xp, .int xb, .long ob, .long sm, .long un]) := ((fset_fr hΦ2 (ne_off (x := x) (i := 80) (j := 95) rfl)).trans h_4)
  refine z_put (ref := "FlowExporter$Exporter") (C := RX2) (T := TX2) (N := 13) (ci := 4) (v := .int 0) B hu_X2_clear_X2 tyX2 tyX2_ok nmX2 rfl 4 (Nat.le_of_ble_eq_true rfl) hv_X2_clear_23 rfl (Or.inl rfl) h_8 (Nat.le_trans hx (Nat.le_add_right x 80)) rfl rfl (Nat.le_of_ble_eq_true rfl) dX2_clear_18 (fun Φ3 hΦ3 => ?_)
  have h_9 : Φ3 (x + 80) = some (o_ 4 [.ref (x + 3), .ref (x + 74), .ref (x + 81), .ref (x + 95), .int 0, .int rt, .int dw, .int aq, .int xp, .int xb, .long ob, .long sm, .long un]) := fset_at hΦ3
  have hI3 : In G x (ca) Φ3 := In.put (k := 80) hI2 hΦ3 (ok16 (k := 80) rfl ⟨0, rt, dw, aq, xp, xb, ob, sm, un, rfl, had⟩)
  refine z_aload_n B dX2_clear_21 rfl 0 rfl ?_
  refine z_aload_n B dX2_clear_22 rfl 0 rfl ?_
  refine z_get (ref := "FlowExporter$Exporter") (C := RX2) (T := TX2) (N := 13) (ci := 4) (v := .ref (x + 3)) B hu_X2_clear_X2 rfl 0 (Nat.le_of_ble_eq_true rfl) hv_X2_clear_53 rfl h_9 rfl dX2_clear_23 ?_
  refine z_iconst (v := 0) B dX2_clear_26 rfl ?_
  obtain ⟨v_1, v_2, h_10⟩ := in3 (k := 3) hI3 rfl
  have h_11 : Φ3 (x + 3) = some (o_ 3 [.ref (x + 4), .ref (x + 5), .ref (x + 6), .ref (x + 7), .int v_1, .int v_2]) := h_10
  refine z_callV (As := [.int 0]) (rest := [.ref (x + 80)]) B (s_X1_get G l Φ3 sz x (ca) 3 0 hx hI3 rfl) (cwV 1 B.1.2.2.2.2 gX2_clear_X1_get rfl rfl rfl (by decide +kernel) ⟨Nat.le_of_ble_eq_true rfl, Nat.le_of_ble_eq_true rfl⟩) h_11 rfl rfl rfl rfl (Nat.le_of_ble_eq_true rfl) dX2_clear_27 ⟨Nat.le_of_ble_eq_true rfl, Nat.le_of_ble_eq_true rfl⟩ (fun r_1 Φ4 sz1 st1 hp1 hs1 => ?_)
  obtain ⟨⟨n_3, rfl, b_3⟩, hq1, hI4, hF1⟩ := hp1
  subst sz1
  replace hs1 : st1 = [.int (nI n_3), .ref (x + 80)] := hs1
  subst st1
  replace hI4 : In G x (ca) Φ4 := hI4
  replace b_3 : n_3 < 2 ^ 31 := b_3
  have h_12 : Φ4 (x + 80) = some (o_ 4 [.ref (x + 3), .ref (x + 74), .ref (x + 81), .ref (x + 95), .int 0, .int rt, .int dw, .int aq, .int xp, .int xb, .long ob, .long sm, .long un]) := ((hF1 (x + 80) (fun j9 h8 h7 => (show False from h7).elim)).trans h_9)
  refine z_put (ref := "FlowExporter$Exporter") (C := RX2) (T := TX2) (N := 13) (ci := 4) (v := .int (nI n_3)) B hu_X2_clear_X2 tyX2 tyX2_ok nmX2 rfl 5 (Nat.le_of_ble_eq_true rfl) hv_X2_clear_27 rfl (Or.inl rfl) h_12 (Nat.le_trans hx (Nat.le_add_right x 80)) rfl rfl (Nat.le_of_ble_eq_true rfl) dX2_clear_30 (fun Φ5 hΦ4 => ?_)
  have h_13 : Φ5 (x + 80) = some (o_ 4 [.ref (x + 3), .ref (x + 74), .ref (x + 81), .ref (x + 95), .int 0, .int (nI n_3), .int dw, .int aq, .int xp, .int xb, .long ob, .long sm, .long un]) := fset_at hΦ4
  have hI5 : In G x (ca) Φ5 := In.put (k := 80) hI4 hΦ4 (ok16 (k := 80) rfl ⟨0, nI n_3, dw, aq, xp, xb, ob, sm, un, rfl, had⟩)
  refine z_aload_n B dX2_clear_33 rfl 0 rfl ?_
  refine z_iconst (v := 1) B dX2_clear_34 rfl ?_
  refine z_put (ref := "FlowExporter$Exporter") (C := RX2) (T := TX2) (N := 13) (ci := 4) (v := .int 1) B hu_X2_clear_X2 tyX2 tyX2_ok nmX2 rfl 6 (Nat.le_of_ble_eq_true rfl) hv_X2_clear_30 rfl (Or.inl rfl) h_13 (Nat.le_trans hx (Nat.le_add_right x 80)) rfl rfl (Nat.le_of_ble_eq_true rfl) dX2_clear_35 (fun Φ6 hΦ5 => ?_)
  have h_14 : Φ6 (x + 80) = some (o_ 4 [.ref (x + 3), .ref (x + 74), .ref (x + 81), .ref (x + 95), .int 0, .int (nI n_3), .int 1, .int aq, .int xp, .int xb, .long ob, .long sm, .long un]) := fset_at hΦ5
  have hI6 : In G x (ca) Φ6 := In.put (k := 80) hI5 hΦ5 (ok16 (k := 80) rfl ⟨0, nI n_3, 1, aq, xp, xb, ob, sm, un, rfl, had⟩)
  refine z_aload_n B dX2_clear_38 rfl 0 rfl ?_
  refine z_iconst (v := 0) B dX2_clear_39 rfl ?_
  refine z_put (ref := "FlowExporter$Exporter") (C := RX2) (T := TX2) (N := 13) (ci := 4) (v := .int 0) B hu_X2_clear_X2 tyX2 tyX2_ok nmX2 rfl 7 (Nat.le_of_ble_eq_true rfl) hv_X2_clear_33 rfl (Or.inl rfl) h_14 (Nat.le_trans hx (Nat.le_add_right x 80)) (by decide +kernel) (by decide +kernel) (Nat.le_of_ble_eq_true rfl) dX2_clear_40 (fun Φ7 hΦ6 => ?_)
  have h_15 : Φ7 (x + 80) = some (o_ 4 [.ref (x + 3), .ref (x + 74), .ref (x + 81), .ref (x + 95), .int 0, .int (nI n_3), .int 1, .int 0, .int xp, .int xb, .long ob, .long sm, .long un]) := fset_at hΦ6
  have hI7 : In G x (ca) Φ7 := In.put (k := 80) hI6 hΦ6 (ok16 (k := 80) rfl ⟨0, nI n_3, 1, 0, xp, xb, ob, sm, un, rfl, (by decide)⟩)
  refine z_aload_n B dX2_clear_43 rfl 0 rfl ?_
  refine z_iconst (v := 0) B dX2_clear_44 rfl ?_
  refine z_put (ref := "FlowExporter$Exporter") (C := RX2) (T := TX2) (N := 13) (ci := 4) (v := .int 0) B hu_X2_clear_X2 tyX2 tyX2_ok nmX2 rfl 8 (Nat.le_of_ble_eq_true rfl) hv_X2_clear_37 rfl (Or.inl rfl) h_15 (Nat.le_trans hx (Nat.le_add_right x 80)) rfl rfl (Nat.le_of_ble_eq_true rfl) dX2_clear_45 (fun Φ8 hΦ7 => ?_)
  have h_16 : Φ8 (x + 80) = some (o_ 4 [.ref (x + 3), .ref (x + 74), .ref (x + 81), .ref (x + 95), .int 0, .int (nI n_3), .int 1, .int 0, .int 0, .int xb, .long ob, .long sm, .long un]) := fset_at hΦ7
  have hI8 : In G x (ca) Φ8 := In.put (k := 80) hI7 hΦ7 (ok16 (k := 80) rfl ⟨0, nI n_3, 1, 0, 0, xb, ob, sm, un, rfl, (by decide)⟩)
  refine z_aload_n B dX2_clear_48 rfl 0 rfl ?_
  refine z_iconst (v := 0) B dX2_clear_49 rfl ?_
  refine z_put (ref := "FlowExporter$Exporter") (C := RX2) (T := TX2) (N := 13) (ci := 4) (v := .int 0) B hu_X2_clear_X2 tyX2 tyX2_ok nmX2 rfl 9 (Nat.le_of_ble_eq_true rfl) hv_X2_clear_40 rfl (Or.inl rfl) h_16 (Nat.le_trans hx (Nat.le_add_right x 80)) rfl rfl (Nat.le_of_ble_eq_true rfl) dX2_clear_50 (fun Φ9 hΦ8 => ?_)
  have h_17 : Φ9 (x + 80) = some (o_ 4 [.ref (x + 3), .ref (x + 74), .ref (x + 81), .ref (x + 95), .int 0, .int (nI n_3), .int 1, .int 0, .int 0, .int 0, .long ob, .long sm, .long un]) := fset_at hΦ8
  have hI9 : In G x (ca) Φ9 := In.put (k := 80) hI8 hΦ8 (ok16 (k := 80) rfl ⟨0, nI n_3, 1, 0, 0, 0, ob, sm, un, rfl, (by decide)⟩)
  refine z_aload_n B dX2_clear_53 rfl 0 rfl ?_
  refine z_lconst (v := 0) B dX2_clear_54 rfl ?_
  refine z_put (ref := "FlowExporter$Exporter") (C := RX2) (T := TX2) (N := 13) (ci := 4) (v := .long 0) B hu_X2_clear_X2 tyX2 tyX2_ok nmX2 rfl 10 (Nat.le_of_ble_eq_true rfl) hv_X2_clear_43 rfl (Or.inl rfl) h_17 (Nat.le_trans hx (Nat.le_add_right x 80)) rfl rfl (Nat.le_of_ble_eq_true rfl) dX2_clear_55 (fun Φ10 hΦ9 => ?_)
  have h_18 : Φ10 (x + 80) = some (o_ 4 [.ref (x + 3), .ref (x + 74), .ref (x + 81), .ref (x + 95), .int 0, .int (nI n_3), .int 1, .int 0, .int 0, .int 0, .long 0, .long sm, .long un]) := fset_at hΦ9
  have hI10 : In G x (ca) Φ10 := In.put (k := 80) hI9 hΦ9 (ok16 (k := 80) rfl ⟨0, nI n_3, 1, 0, 0, 0, 0, sm, un, rfl, (by decide)⟩)
  refine z_aload_n B dX2_clear_58 rfl 0 rfl ?_
  refine z_lconst (v := 0) B dX2_clear_59 rfl ?_
  refine z_put (ref := "FlowExporter$Exporter") (C := RX2) (T := TX2) (N := 13) (ci := 4) (v := .long 0) B hu_X2_clear_X2 tyX2 tyX2_ok nmX2 rfl 11 (Nat.le_of_ble_eq_true rfl) hv_X2_clear_47 rfl (Or.inl rfl) h_18 (Nat.le_trans hx (Nat.le_add_right x 80)) rfl rfl (Nat.le_of_ble_eq_true rfl) dX2_clear_60 (fun Φ11 hΦ10 => ?_)
  have h_19 : Φ11 (x + 80) = some (o_ 4 [.ref (x + 3), .ref (x + 74), .ref (x + 81), .ref (x + 95), .int 0, .int (nI n_3), .int 1, .int 0, .int 0, .int 0, .long 0, .long 0, .long un]) := fset_at hΦ10
  have hI11 : In G x (ca) Φ11 := In.put (k := 80) hI10 hΦ10 (ok16 (k := 80) rfl ⟨0, nI n_3, 1, 0, 0, 0, 0, 0, un, rfl, (by decide)⟩)
  refine z_aload_n B dX2_clear_63 rfl 0 rfl ?_
  refine z_lconst (v := 0) B dX2_clear_64 rfl ?_
  refine z_put (ref := "FlowExporter$Exporter") (C := RX2) (T := TX2) (N := 13) (ci := 4) (v := .long 0) B hu_X2_clear_X2 tyX2 tyX2_ok nmX2 rfl 12 (Nat.le_of_ble_eq_true rfl) hv_X2_clear_50 rfl (Or.inl rfl) h_19 (Nat.le_trans hx (Nat.le_add_right x 80)) rfl rfl (Nat.le_of_ble_eq_true rfl) dX2_clear_65 (fun Φ12 hΦ11 => ?_)
  have h_20 : Φ12 (x + 80) = some (o_ 4 [.ref (x + 3), .ref (x + 74), .ref (x + 81), .ref (x + 95), .int 0, .int (nI n_3), .int 1, .int 0, .int 0, .int 0, .long 0, .long 0, .long 0]) := fset_at hΦ11
  have hI12 : In G x (ca) Φ12 := In.put (k := 80) hI11 hΦ11 (ok16 (k := 80) rfl ⟨0, nI n_3, 1, 0, 0, 0, 0, 0, 0, rfl, (by decide)⟩)
  exact z_ret_v B dX2_clear_68 ⟨⟨rfl, nI n_3, h_20⟩, rfl, hI12, (fun b9 h9 => ((fset_fr hΦ11 (fun h8 => h9 (80) h8 (show 80 = 80 ∨ 80 = 81 ∨ 80 = 95 by decide))).trans ((fset_fr hΦ10 (fun h8 => h9 (80) h8 (show 80 = 80 ∨ 80 = 81 ∨ 80 = 95 by decide))).trans ((fset_fr hΦ9 (fun h8 => h9 (80) h8 (show 80 = 80 ∨ 80 = 81 ∨ 80 = 95 by decide))).trans ((fset_fr hΦ8 (fun h8 => h9 (80) h8 (show 80 = 80 ∨ 80 = 81 ∨ 80 = 95 by decide))).trans ((fset_fr hΦ7 (fun h8 => h9 (80) h8 (show 80 = 80 ∨ 80 = 81 ∨ 80 = 95 by decide))).trans ((fset_fr hΦ6 (fun h8 => h9 (80) h8 (show 80 = 80 ∨ 80 = 81 ∨ 80 = 95 by decide))).trans ((fset_fr hΦ5 (fun h8 => h9 (80) h8 (show 80 = 80 ∨ 80 = 81 ∨ 80 = 95 by decide))).trans ((fset_fr hΦ4 (fun h8 => h9 (80) h8 (show 80 = 80 ∨ 80 = 81 ∨ 80 = 95 by decide))).trans ((hF1 b9 (fun j9 h8 h7 => (show False from h7).elim)).trans ((fset_fr hΦ3 (fun h8 => h9 (80) h8 (show 80 = 80 ∨ 80 = 81 ∨ 80 = 95 by decide))).trans ((fset_fr hΦ2 (fun h8 => h9 (95) h8 (show 95 = 80 ∨ 95 = 81 ∨ 95 = 95 by decide))).trans ((fset_fr hΦ1 (fun h8 => h9 (81) h8 (show 81 = 80 ∨ 81 = 81 ∨ 81 = 95 by decide))).trans rfl)))))))))))))⟩

theorem hu_X2_isSampled_X2 : ∀ w ∈ u_ws RX2 TX2 13, w ∈ wsX2_isSampled := fun _ h => List.mem_cons_of_mem _ (List.mem_append_left _ (List.mem_append_right _ (h)))

theorem hv_X2_isSampled_27 : Cond.fieldLink RX2 27 "FlowExporter$Exporter" (TX2 5).2.1 (TX2 5).2.2.1 ∈ wsX2_isSampled := List.mem_cons_of_mem _ (List.mem_append_left _ (List.mem_append_left _ (List.mem_of_getElem? (i := 0) rfl)))

theorem hv_X2_isSampled_30 : Cond.fieldLink RX2 30 "FlowExporter$Exporter" (TX2 6).2.1 (TX2 6).2.2.1 ∈ wsX2_isSampled := List.mem_cons_of_mem _ (List.mem_append_left _ (List.mem_append_left _ (List.mem_of_getElem? (i := 2) rfl)))

set_option maxHeartbeats 4000000 in
set_option maxRecDepth 100000 in
theorem s_X2_isSampled (G : EnvG) (l : Launch) (Φ : Hm) (sz x ca : Nat) (nw : Int32) (rt : Int32) (dw : Int32) (aq : Int32) (xp : Int32) (xb : Int32) (ob : Int64) (sm : Int64) (un : Int64) (hx : G.2.2.2 ≤ x) (hI : In G x ca Φ) (hc0 : Φ (x + 80) = some (o_ 4 [.ref (x + 3), .ref (x + 74), .ref (x + 81), .ref (x + 95), .int nw, .int rt, .int dw, .int aq, .int xp, .int xb, .long ob, .long sm, .long un])) (had : aq = 0 ∨ aq = 1) : Ct G l yX2_isSampled wsX2_isSampled ({ frames := 0, cells := 0, slots := 0, locals := 0 }) 0 0 [.ref (x + 80)] Φ sz (fun v Φ1 sz1 => ((∃ r9 : Int32, v = some (.int r9) ∧ (r9 = 0 ∨ r9 = 1)) ∧ ∃ dw8 : Int32, Φ1 (x + 80) = some (o_ 4 [.ref (x + 3), .ref (x + 74), .ref (x + 81), .ref (x + 95), .int nw, .int rt, .int dw8, .int aq, .int xp, .int xb, .long ob, .long sm, .long un])) ∧ sz1 = sz ∧ In G x (ca) Φ1 ∧ Fr x (fun j9 => j9 = 80) Φ Φ1) := by
  refine Ct.of (cc := cX2_isSampled) (maxL := 1) (ret := (some .boolean)) (by decide) rfl (Nat.le_of_ble_eq_true rfl) ?_
  intro p9 e9 s9 m9 w9 t9 k9 B
  show Z p9 l e9 _ s9 m9 _ w9 t9 k9 _ G 1 0 [(0, .ref (x + 80))] [] Φ sz 0 0
  refine z_aload_n B dX2_isSampled_0 rfl 0 rfl ?_
  refine z_get (ref := "FlowExporter$Exporter") (C := RX2) (T := TX2) (N := 13) (ci := 4) (v := .int rt) B hu_X2_isSampled_X2 rfl 5 (Nat.le_of_ble_eq_true rfl) hv_X2_isSampled_27 rfl hc0 rfl dX2_isSampled_1 ?_
  refine z_iconst (v := 1) B dX2_isSampled_4 rfl ?_
  refine z_icmp_gt (tgt := 10) B dX2_isSampled_5 rfl (fun c_1 => ?_) (fun c_1 => ?_)
  · refine z_aload_n B dX2_isSampled_10 rfl 0 rfl ?_
    refine z_ldc (v := 1103515245) B (by decide +kernel) dX2_isSampled_11 ?_
    refine z_aload_n B dX2_isSampled_13 rfl 0 rfl ?_
    refine z_get (ref := "FlowExporter$Exporter") (C := RX2) (T := TX2) (N := 13) (ci := 4) (v := .int dw) B hu_X2_isSampled_X2 rfl 6 (Nat.le_of_ble_eq_true rfl) hv_X2_isSampled_30 rfl hc0 rfl dX2_isSampled_14 ?_
    refine z_imul B dX2_isSampled_17 ?_
    refine z_fi (fun v_1 => ?_)
    refine z_sipush (v := 12345) B dX2_isSampled_18 rfl ?_
    refine z_iadd B dX2_isSampled_21 ?_
    refine z_fi (fun v_2 => ?_)
    refine z_ldc (v := 2147483647) B (by decide +kernel) dX2_isSampled_22 ?_
    refine z_iand B dX2_isSampled_24 ?_
    refine z_fi (fun v_3 => ?_)
    refine z_put (ref := "FlowExporter$Exporter") (C := RX2) (T := TX2) (N := 13) (ci := 4) (v := .int v_3) B hu_X2_isSampled_X2 tyX2 tyX2_ok nmX2 rfl 6 (Nat.le_of_ble_eq_true rfl) hv_X2_isSampled_30 rfl (Or.inl rfl) hc0 (Nat.le_trans hx (Nat.le_add_right x 80)) rfl rfl (Nat.le_of_ble_eq_true rfl) dX2_isSampled_25 (fun Φ1 hΦ1 => ?_)
    have h_1 : Φ1 (x + 80) = some (o_ 4 [.ref (x + 3), .ref (x + 74), .ref (x + 81), .ref (x + 95), .int nw, .int rt, .int v_3, .int aq, .int xp, .int xb, .long ob, .long sm, .long un]) := fset_at hΦ1
    have hI1 : In G x (ca) Φ1 := In.put (k := 80) hI hΦ1 (ok16 (k := 80) rfl ⟨nw, rt, v_3, aq, xp, xb, ob, sm, un, rfl, had⟩)
    refine z_aload_n B dX2_isSampled_28 rfl 0 rfl ?_
    refine z_get (ref := "FlowExporter$Exporter") (C := RX2) (T := TX2) (N := 13) (ci := 4) (v := .int v_3) B hu_X2_isSampled_X2 rfl 6 (Nat.le_of_ble_eq_true rfl) hv_X2_isSampled_30 rfl h_1 rfl dX2_isSampled_29 ?_
    refine z_sipush (v := 256) B dX2_isSampled_32 rfl ?_
    refine z_idiv B dX2_isSampled_35 (by decide) ?_
    refine z_fi (fun v_4 => ?_)
    refine z_aload_n B dX2_isSampled_36 rfl 0 rfl ?_
    refine z_get (ref := "FlowExporter$Exporter") (C := RX2) (T := TX2) (N := 13) (ci := 4) (v := .int rt) B hu_X2_isSampled_X2 rfl 5 (Nat.le_of_ble_eq_true rfl) hv_X2_isSampled_27 rfl h_1 rfl dX2_isSampled_37 ?_
    refine z_irem B dX2_isSampled_40 (gt1_ne c_1) ?_
    refine z_fi (fun v_5 => ?_)
    refine z_if_ne (tgt := 48) B dX2_isSampled_41 rfl (fun c_2 => ?_) (fun c_2 => ?_)
    · refine z_iconst (v := 0) B dX2_isSampled_48 rfl ?_
      exact z_ret_z B dX2_isSampled_49 (by decide) ⟨⟨⟨_, rfl, by decide⟩, v_3, h_1⟩, rfl, hI1, (fun b9 h9 => ((fset_fr hΦ1 (fun h8 => h9 (80) h8 (show 80 = 80 by decide))).trans rfl))⟩
    · refine z_iconst (v := 1) B dX2_isSampled_44 rfl ?_
      refine z_goto (tgt := 49) B dX2_isSampled_45 rfl ?_
      exact z_ret_z B dX2_isSampled_49 (by decide) ⟨⟨⟨_, rfl, by decide⟩, v_3, h_1⟩, rfl, hI1, (fun b9 h9 => ((fset_fr hΦ1 (fun h8 => h9 (80) h8 (show 80 = 80 by decide))).trans rfl))⟩
  · refine z_iconst (v := 1) B dX2_isSampled_8 rfl ?_
    exact z_ret_z B dX2_isSampled_9 (by decide) ⟨⟨⟨_, rfl, by decide⟩, dw, hc0⟩, rfl, hI, (fun b9 h9 => rfl)⟩

theorem hu_X2_remember_X2 : ∀ w ∈ u_ws RX2 TX2 13, w ∈ wsX2_remember := fun _ h => List.mem_cons_of_mem _ (List.mem_append_left _ (List.mem_append_left _ (List.mem_append_right _ (h))))

theorem hv_X2_remember_20 : Cond.fieldLink RX2 20 "FlowExporter$Exporter" (TX2 3).2.1 (TX2 3).2.2.1 ∈ wsX2_remember := List.mem_cons_of_mem _ (List.mem_append_left _ (List.mem_append_left _ (List.mem_append_left _ (List.mem_append_left _ (List.mem_of_getElem? (i := 0) rfl)))))

theorem hu_X2_remember_X3 : ∀ w ∈ u_ws RX3 TX3 5, w ∈ wsX2_remember := fun _ h => List.mem_cons_of_mem _ (List.mem_append_left _ (List.mem_append_right _ (h)))

theorem hv_X2_remember_102 : Cond.fieldLink RX2 102 "FlowExporter$Flow" (TX3 1).2.1 (TX3 1).2.2.1 ∈ wsX2_remember := List.mem_cons_of_mem _ (List.mem_append_left _ (List.mem_append_left _ (List.mem_append_left _ (List.mem_append_left _ (List.mem_of_getElem? (i := 2) rfl)))))

theorem hv_X2_remember_107 : Cond.fieldLink RX2 107 "FlowExporter$Flow" (TX3 2).2.1 (TX3 2).2.2.1 ∈ wsX2_remember := List.mem_cons_of_mem _ (List.mem_append_left _ (List.mem_append_left _ (List.mem_append_left _ (List.mem_append_left _ (List.mem_of_getElem? (i := 3) rfl)))))

theorem hv_X2_remember_23 : Cond.fieldLink RX2 23 "FlowExporter$Exporter" (TX2 4).2.1 (TX2 4).2.2.1 ∈ wsX2_remember := List.mem_cons_of_mem _ (List.mem_append_left _ (List.mem_append_left _ (List.mem_append_left _ (List.mem_append_left _ (List.mem_of_getElem? (i := 1) rfl)))))

theorem fq_208 : ∀ j9 : Nat, (95 ≤ j9 ∧ j9 < 95 + 2 + 24) → (95 ≤ j9 ∧ j9 < 121) := by
  intro j9 h
  omega

set_option maxHeartbeats 4000000 in
set_option maxRecDepth 100000 in
theorem s_X2_remember (G : EnvG) (l : Launch) (Φ : Hm) (sz x ca : Nat) (a : Int64) (b : Int32) (d : Int32) (hx : G.2.2.2 ≤ x) (hI : In G x ca Φ)  : Ct G l yX2_remember wsX2_remember ({ frames := 2, cells := 0, slots := 0, locals := 47 }) 0 0 [.ref (x + 80), .long a, .int b, .int d] Φ sz (fun v Φ1 sz1 => (v = none) ∧ sz1 = sz ∧ In G x (ca) Φ1 ∧ Fr x (fun j9 => 95 ≤ j9 ∧ j9 < 121) Φ Φ1) := by
  refine Ct.of (cc := cX2_remember) (maxL := 7) (ret := none) (by decide) rfl (Nat.le_of_ble_eq_true rfl) ?_
  intro p9 e9 s9 m9 w9 t9 k9 B
  show Z p9 l e9 _ s9 m9 _ w9 t9 k9 _ G 7 0 [(0, .ref (x + 80)), (1, .long a), (3, .int b), (4, .int d)] [] Φ sz 0 0
  refine z_aload_n B dX2_remember_0 rfl 0 rfl ?_
  obtain ⟨v_1, v_2, v_3, v_4, v_5, v_6, v_7, v_8, v_9, h_1, b_1⟩ := in16 (k := 80) hI rfl
  have h_2 : Φ (x + 80) = some (o_ 4 [.ref (x + 3), .ref (x + 74), .ref (x + 81), .ref (x + 95), .int v_1, .int v_2, .int v_3, .int v_4, .int v_5, .int v_6, .long v_7, .long v_8, .long v_9]) := h_1
  refine z_get (ref := "FlowExporter$Exporter") (C := RX2) (T := TX2) (N := 13) (ci := 4) (v := .ref (x + 95)) B hu_X2_remember_X2 rfl 3 (Nat.le_of_ble_eq_true rfl) hv_X2_remember_20 rfl h_2 rfl dX2_remember_1 ?_
  refine z_lload_n B dX2_remember_4 rfl 1 rfl ?_
  obtain ⟨n_1, h_3, b_2⟩ := in17 (k := 95) hI rfl
  replace b_2 : n_1 ≤ 24 := b_2
  have h_4 : Φ (x + 95) = some (o_ 6 [.ref (x + 96), .int (nI n_1)]) := h_3
  refine z_callV (As := [.long a]) (rest := []) B (s_X4_indexOf G l Φ sz x (ca) 95 a hx hI rfl) (cwV 1 B.1.2.2.2.2 gX2_remember_X4_indexOf rfl rfl rfl (by decide +kernel) ⟨Nat.le_of_ble_eq_true rfl, Nat.le_of_ble_eq_true rfl⟩) h_4 rfl rfl rfl rfl (Nat.le_of_ble_eq_true rfl) dX2_remember_5 ⟨Nat.le_of_ble_eq_true rfl, Nat.le_of_ble_eq_true rfl⟩ (fun r_1 Φ1 sz1 st1 hp1 hs1 => ?_)
  obtain ⟨⟨v_10, rfl⟩, hq1, hI1, hF1⟩ := hp1
  subst sz1
  replace hs1 : st1 = [.int v_10] := hs1
  subst st1
  replace hI1 : In G x (ca) Φ1 := hI1
  refine z_istore (lv' := [(5, .int v_10), (0, .ref (x + 80)), (1, .long a), (3, .int b), (4, .int d)]) B dX2_remember_8 (Nat.le_of_ble_eq_true rfl) rfl ?_
  refine z_iload B dX2_remember_10 0 rfl ?_
  refine z_iconst (v := (-1)) B dX2_remember_12 rfl ?_
  refine z_icmp_ne (tgt := 27) B dX2_remember_13 rfl (fun c_1 => ?_) (fun c_1 => ?_)
  · refine z_iload B dX2_remember_27 0 rfl ?_
    refine z_iconst (v := (-1)) B dX2_remember_29 rfl ?_
    refine z_icmp_ne (tgt := 48) B dX2_remember_30 rfl (fun c_2 => ?_) (fun c_2 => ?_)
    · refine z_aload_n B dX2_remember_48 rfl 1 rfl ?_
      have h_5 : Φ1 (x + 80) = some (o_ 4 [.ref (x + 3), .ref (x + 74), .ref (x + 81), .ref (x + 95), .int v_1, .int v_2, .int v_3, .int v_4, .int v_5, .int v_6, .long v_7, .long v_8, .long v_9]) := ((hF1 (x + 80) (fun j9 h8 h7 => (show False from h7).elim)).trans h_2)
      refine z_get (ref := "FlowExporter$Exporter") (C := RX2) (T := TX2) (N := 13) (ci := 4) (v := .ref (x + 95)) B hu_X2_remember_X2 rfl 3 (Nat.le_of_ble_eq_true rfl) hv_X2_remember_20 rfl h_5 rfl dX2_remember_49 ?_
      refine z_iload B dX2_remember_52 0 rfl ?_
      have h_6 : Φ1 (x + 95) = some (o_ 6 [.ref (x + 96), .int (nI n_1)]) := ((hF1 (x + 95) (fun j9 h8 h7 => (show False from h7).elim)).trans h_4)
      refine z_callV (As := [.int v_10]) (rest := []) B (s_X4_flowAt G l Φ1 sz x (ca) 95 v_10 hx hI1 rfl) (cwV 1 B.1.2.2.2.2 gX2_remember_X4_flowAt rfl rfl rfl (by decide +kernel) ⟨Nat.le_of_ble_eq_true rfl, Nat.le_of_ble_eq_true rfl⟩) h_6 rfl rfl rfl rfl (Nat.le_of_ble_eq_true rfl) dX2_remember_54 ⟨Nat.le_of_ble_eq_true rfl, Nat.le_of_ble_eq_true rfl⟩ (fun r_2 Φ2 sz2 st2 hp2 hs2 => ?_)
      obtain ⟨⟨m_1, hm_1, rfl⟩, hq2, hI2, hF2⟩ := hp2
      subst sz2
      replace hs2 : st2 = [.ref (x + (95 + 2 + m_1))] := hs2
      subst st2
      replace hI2 : In G x (ca) Φ2 := hI2
      replace hm_1 : m_1 < 24 := hm_1
      refine z_astore (lv' := [(6, .ref (x + (95 + 2 + m_1))), (5, .int v_10), (0, .ref (x + 80)), (1, .long a), (3, .int b), (4, .int d)]) B dX2_remember_57 (Nat.le_of_ble_eq_true rfl) rfl ?_
      refine z_aload B dX2_remember_59 0 rfl ?_
      refine z_dup B dX2_remember_61 rfl ?_
      obtain ⟨v_11, v_12, v_13, v_14, v_15, h_7⟩ := in19 (k := 95 + 2 + m_1) hI2 (kd_f (kd_r rfl) hm_1)
      have h_8 : Φ2 (x + (95 + 2 + m_1)) = some (o_ 5 [.long v_11, .long v_12, .long v_13, .int v_14, .int v_15]) := h_7
      refine z_get (ref := "FlowExporter$Flow") (C := RX3) (T := TX3) (N := 5) (ci := 5) (v := .long v_12) B hu_X2_remember_X3 rfl 1 (Nat.le_of_ble_eq_true rfl) hv_X2_remember_102 rfl h_8 rfl dX2_remember_62 ?_
      refine z_iload B dX2_remember_65 5 rfl ?_
      refine z_i2l (v := d.toInt64) B dX2_remember_67 rfl ?_
      refine z_fl (fun v_16 => ?_)
      refine z_ladd B dX2_remember_68 ?_
      refine z_fl (fun v_17 => ?_)
      refine z_put (ref := "FlowExporter$Flow") (C := RX3) (T := TX3) (N := 5) (ci := 5) (v := .long v_17) B hu_X2_remember_X3 tyX3 tyX3_ok nmX3 rfl 1 (Nat.le_of_ble_eq_true rfl) hv_X2_remember_102 rfl (Or.inl rfl) h_8 (by omega) rfl rfl (Nat.le_of_ble_eq_true rfl) dX2_remember_69 (fun Φ3 hΦ1 => ?_)
      have h_9 : Φ3 (x + (95 + 2 + m_1)) = some (o_ 5 [.long v_11, .long v_17, .long v_13, .int v_14, .int v_15]) := fset_at hΦ1
      have hI3 : In G x (ca) Φ3 := In.put (k := 95 + 2 + m_1) hI2 hΦ1 (ok19 (k := 95 + 2 + m_1) (kd_f (kd_r rfl) hm_1) ⟨v_11, v_17, v_13, v_14, v_15, rfl⟩)
      refine z_aload B dX2_remember_72 0 rfl ?_
      refine z_dup B dX2_remember_74 rfl ?_
      refine z_get (ref := "FlowExporter$Flow") (C := RX3) (T := TX3) (N := 5) (ci := 5) (v := .long v_13) B hu_X2_remember_X3 rfl 2 (Nat.le_of_ble_eq_true rfl) hv_X2_remember_107 rfl h_9 rfl dX2_remember_75 ?_
      refine z_iload B dX2_remember_78 5 rfl ?_
      refine z_i2l (v := d.toInt64) B dX2_remember_80 rfl ?_
      refine z_fl (fun v_18 => ?_)
      refine z_iload_n B dX2_remember_81 rfl 4 rfl ?_
      refine z_i2l (v := b.toInt64) B dX2_remember_82 rfl ?_
      refine z_fl (fun v_19 => ?_)
      refine z_lmul B dX2_remember_83 ?_
      refine z_fl (fun v_20 => ?_)
      refine z_ladd B dX2_remember_84 ?_
      refine z_fl (fun v_21 => ?_)
      refine z_put (ref := "FlowExporter$Flow") (C := RX3) (T := TX3) (N := 5) (ci := 5) (v := .long v_21) B hu_X2_remember_X3 tyX3 tyX3_ok nmX3 rfl 2 (Nat.le_of_ble_eq_true rfl) hv_X2_remember_107 rfl (Or.inl rfl) h_9 (by omega) rfl rfl (Nat.le_of_ble_eq_true rfl) dX2_remember_85 (fun Φ4 hΦ2 => ?_)
      have h_10 : Φ4 (x + (95 + 2 + m_1)) = some (o_ 5 [.long v_11, .long v_17, .long v_21, .int v_14, .int v_15]) := fset_at hΦ2
      have hI4 : In G x (ca) Φ4 := In.put (k := 95 + 2 + m_1) hI3 hΦ2 (ok19 (k := 95 + 2 + m_1) (kd_f (kd_r rfl) hm_1) ⟨v_11, v_17, v_21, v_14, v_15, rfl⟩)
      exact z_ret_v B dX2_remember_88 ⟨rfl, rfl, hI4, (fun b9 h9 => ((fset_fr hΦ2 (fun h8 => h9 (95 + 2 + m_1) h8 (show 95 ≤ (95 + 2 + m_1) ∧ (95 + 2 + m_1) < 121 by omega))).trans ((fset_fr hΦ1 (fun h8 => h9 (95 + 2 + m_1) h8 (show 95 ≤ (95 + 2 + m_1) ∧ (95 + 2 + m_1) < 121 by omega))).trans ((hF2 b9 (fun j9 h8 h7 => (show False from h7).elim)).trans ((hF1 b9 (fun j9 h8 h7 => (show False from h7).elim)).trans rfl)))))⟩
    · refine z_aload_n B dX2_remember_33 rfl 1 rfl ?_
      have h_11 : Φ1 (x + 80) = some (o_ 4 [.ref (x + 3), .ref (x + 74), .ref (x + 81), .ref (x + 95), .int v_1, .int v_2, .int v_3, .int v_4, .int v_5, .int v_6, .long v_7, .long v_8, .long v_9]) := ((hF1 (x + 80) (fun j9 h8 h7 => (show False from h7).elim)).trans h_2)
      refine z_get (ref := "FlowExporter$Exporter") (C := RX2) (T := TX2) (N := 13) (ci := 4) (v := .ref (x + 95)) B hu_X2_remember_X2 rfl 3 (Nat.le_of_ble_eq_true rfl) hv_X2_remember_20 rfl h_11 rfl dX2_remember_34 ?_
      refine z_lload_n B dX2_remember_37 rfl 2 rfl ?_
      refine z_aload_n B dX2_remember_38 rfl 1 rfl ?_
      refine z_get (ref := "FlowExporter$Exporter") (C := RX2) (T := TX2) (N := 13) (ci := 4) (v := .int v_1) B hu_X2_remember_X2 rfl 4 (Nat.le_of_ble_eq_true rfl) hv_X2_remember_23 rfl h_11 rfl dX2_remember_39 ?_
      have h_12 : Φ1 (x + 95) = some (o_ 6 [.ref (x + 96), .int (nI n_1)]) := ((hF1 (x + 95) (fun j9 h8 h7 => (show False from h7).elim)).trans h_4)
      refine z_callV (As := [.long a, .int v_1]) (rest := []) B (s_X4_addFlow G l Φ1 sz x (ca) 95 a v_1 hx hI1 rfl) (cwV 2 B.1.2.2.2.2 gX2_remember_X4_addFlow rfl rfl rfl (by decide +kernel) ⟨Nat.le_of_ble_eq_true rfl, Nat.le_of_ble_eq_true rfl⟩) h_12 rfl rfl rfl rfl (Nat.le_of_ble_eq_true rfl) dX2_remember_42 ⟨Nat.le_of_ble_eq_true rfl, Nat.le_of_ble_eq_true rfl⟩ (fun r_3 Φ5 sz3 st3 hp3 hs3 => ?_)
      obtain ⟨⟨m_2, hm_2, rfl⟩, hq3, hI5, hF3⟩ := hp3
      subst sz3
      replace hs3 : st3 = [.ref (x + (95 + 2 + m_2))] := hs3
      subst st3
      replace hI5 : In G x (ca) Φ5 := hI5
      replace hm_2 : m_2 < 24 := hm_2
      refine z_goto (tgt := 57) B dX2_remember_45 rfl ?_
      refine z_astore (lv' := [(6, .ref (x + (95 + 2 + m_2))), (5, .int v_10), (0, .ref (x + 80)), (1, .long a), (3, .int b), (4, .int d)]) B dX2_remember_57 (Nat.le_of_ble_eq_true rfl) rfl ?_
      refine z_aload B dX2_remember_59 0 rfl ?_
      refine z_dup B dX2_remember_61 rfl ?_
      obtain ⟨v_22, v_23, v_24, v_25, v_26, h_13⟩ := in19 (k := 95 + 2 + m_2) hI5 (kd_f (kd_r rfl) hm_2)
      have h_14 : Φ5 (x + (95 + 2 + m_2)) = some (o_ 5 [.long v_22, .long v_23, .long v_24, .int v_25, .int v_26]) := h_13
      refine z_get (ref := "FlowExporter$Flow") (C := RX3) (T := TX3) (N := 5) (ci := 5) (v := .long v_23) B hu_X2_remember_X3 rfl 1 (Nat.le_of_ble_eq_true rfl) hv_X2_remember_102 rfl h_14 rfl dX2_remember_62 ?_
      refine z_iload B dX2_remember_65 5 rfl ?_
      refine z_i2l (v := d.toInt64) B dX2_remember_67 rfl ?_
      refine z_fl (fun v_27 => ?_)
      refine z_ladd B dX2_remember_68 ?_
      refine z_fl (fun v_28 => ?_)
      refine z_put (ref := "FlowExporter$Flow") (C := RX3) (T := TX3) (N := 5) (ci := 5) (v := .long v_28) B hu_X2_remember_X3 tyX3 tyX3_ok nmX3 rfl 1 (Nat.le_of_ble_eq_true rfl) hv_X2_remember_102 rfl (Or.inl rfl) h_14 (by omega) rfl rfl (Nat.le_of_ble_eq_true rfl) dX2_remember_69 (fun Φ6 hΦ3 => ?_)
      have h_15 : Φ6 (x + (95 + 2 + m_2)) = some (o_ 5 [.long v_22, .long v_28, .long v_24, .int v_25, .int v_26]) := fset_at hΦ3
      have hI6 : In G x (ca) Φ6 := In.put (k := 95 + 2 + m_2) hI5 hΦ3 (ok19 (k := 95 + 2 + m_2) (kd_f (kd_r rfl) hm_2) ⟨v_22, v_28, v_24, v_25, v_26, rfl⟩)
      refine z_aload B dX2_remember_72 0 rfl ?_
      refine z_dup B dX2_remember_74 rfl ?_
      refine z_get (ref := "FlowExporter$Flow") (C := RX3) (T := TX3) (N := 5) (ci := 5) (v := .long v_24) B hu_X2_remember_X3 rfl 2 (Nat.le_of_ble_eq_true rfl) hv_X2_remember_107 rfl h_15 rfl dX2_remember_75 ?_
      refine z_iload B dX2_remember_78 5 rfl ?_
      refine z_i2l (v := d.toInt64) B dX2_remember_80 rfl ?_
      refine z_fl (fun v_29 => ?_)
      refine z_iload_n B dX2_remember_81 rfl 4 rfl ?_
      refine z_i2l (v := b.toInt64) B dX2_remember_82 rfl ?_
      refine z_fl (fun v_30 => ?_)
      refine z_lmul B dX2_remember_83 ?_
      refine z_fl (fun v_31 => ?_)
      refine z_ladd B dX2_remember_84 ?_
      refine z_fl (fun v_32 => ?_)
      refine z_put (ref := "FlowExporter$Flow") (C := RX3) (T := TX3) (N := 5) (ci := 5) (v := .long v_32) B hu_X2_remember_X3 tyX3 tyX3_ok nmX3 rfl 2 (Nat.le_of_ble_eq_true rfl) hv_X2_remember_107 rfl (Or.inl rfl) h_15 (by omega) rfl rfl (Nat.le_of_ble_eq_true rfl) dX2_remember_85 (fun Φ7 hΦ4 => ?_)
      have h_16 : Φ7 (x + (95 + 2 + m_2)) = some (o_ 5 [.long v_22, .long v_28, .long v_32, .int v_25, .int v_26]) := fset_at hΦ4
      have hI7 : In G x (ca) Φ7 := In.put (k := 95 + 2 + m_2) hI6 hΦ4 (ok19 (k := 95 + 2 + m_2) (kd_f (kd_r rfl) hm_2) ⟨v_22, v_28, v_32, v_25, v_26, rfl⟩)
      exact z_ret_v B dX2_remember_88 ⟨rfl, rfl, hI7, (fun b9 h9 => ((fset_fr hΦ4 (fun h8 => h9 (95 + 2 + m_2) h8 (show 95 ≤ (95 + 2 + m_2) ∧ (95 + 2 + m_2) < 121 by omega))).trans ((fset_fr hΦ3 (fun h8 => h9 (95 + 2 + m_2) h8 (show 95 ≤ (95 + 2 + m_2) ∧ (95 + 2 + m_2) < 121 by omega))).trans ((hF3 b9 (fun j9 h8 h7 => h9 j9 h8 (fq_208 j9 h7))).trans ((hF1 b9 (fun j9 h8 h7 => (show False from h7).elim)).trans rfl)))))⟩
  · refine z_aload_n B dX2_remember_16 rfl 1 rfl ?_
    have h_17 : Φ1 (x + 80) = some (o_ 4 [.ref (x + 3), .ref (x + 74), .ref (x + 81), .ref (x + 95), .int v_1, .int v_2, .int v_3, .int v_4, .int v_5, .int v_6, .long v_7, .long v_8, .long v_9]) := ((hF1 (x + 80) (fun j9 h8 h7 => (show False from h7).elim)).trans h_2)
    refine z_get (ref := "FlowExporter$Exporter") (C := RX2) (T := TX2) (N := 13) (ci := 4) (v := .ref (x + 95)) B hu_X2_remember_X2 rfl 3 (Nat.le_of_ble_eq_true rfl) hv_X2_remember_20 rfl h_17 rfl dX2_remember_17 ?_
    have h_18 : Φ1 (x + 95) = some (o_ 6 [.ref (x + 96), .int (nI n_1)]) := ((hF1 (x + 95) (fun j9 h8 h7 => (show False from h7).elim)).trans h_4)
    refine z_callV (As := []) (rest := []) B (s_X4_isFull G l Φ1 sz x (ca) 95 hx hI1 rfl) (cwV 0 B.1.2.2.2.2 gX2_remember_X4_isFull rfl rfl rfl (by decide +kernel) ⟨Nat.le_of_ble_eq_true rfl, Nat.le_of_ble_eq_true rfl⟩) h_18 rfl rfl rfl rfl (Nat.le_of_ble_eq_true rfl) dX2_remember_20 ⟨Nat.le_of_ble_eq_true rfl, Nat.le_of_ble_eq_true rfl⟩ (fun r_4 Φ8 sz4 st4 hp4 hs4 => ?_)
    obtain ⟨⟨v_33, rfl, b_3⟩, hq4, hI8, hF4⟩ := hp4
    subst sz4
    replace hs4 : st4 = [.int v_33] := hs4
    subst st4
    replace hI8 : In G x (ca) Φ8 := hI8
    refine z_if_eq (tgt := 27) B dX2_remember_23 rfl (fun c_3 => ?_) (fun c_3 => ?_)
    · refine z_iload B dX2_remember_27 0 rfl ?_
      refine z_iconst (v := (-1)) B dX2_remember_29 rfl ?_
      refine z_icmp_ne (tgt := 48) B dX2_remember_30 rfl (fun c_4 => ?_) (fun c_4 => ?_)
      · refine z_aload_n B dX2_remember_48 rfl 1 rfl ?_
        have h_19 : Φ8 (x + 80) = some (o_ 4 [.ref (x + 3), .ref (x + 74), .ref (x + 81), .ref (x + 95), .int v_1, .int v_2, .int v_3, .int v_4, .int v_5, .int v_6, .long v_7, .long v_8, .long v_9]) := ((hF4 (x + 80) (fun j9 h8 h7 => (show False from h7).elim)).trans h_17)
        refine z_get (ref := "FlowExporter$Exporter") (C := RX2) (T := TX2) (N := 13) (ci := 4) (v := .ref (x + 95)) B hu_X2_remember_X2 rfl 3 (Nat.le_of_ble_eq_true rfl) hv_X2_remember_20 rfl h_19 rfl dX2_remember_49 ?_
        refine z_iload B dX2_remember_52 0 rfl ?_
        have h_20 : Φ8 (x + 95) = some (o_ 6 [.ref (x + 96), .int (nI n_1)]) := ((hF4 (x + 95) (fun j9 h8 h7 => (show False from h7).elim)).trans h_18)
        refine z_callV (As := [.int v_10]) (rest := []) B (s_X4_flowAt G l Φ8 sz x (ca) 95 v_10 hx hI8 rfl) (cwV 1 B.1.2.2.2.2 gX2_remember_X4_flowAt rfl rfl rfl (by decide +kernel) ⟨Nat.le_of_ble_eq_true rfl, Nat.le_of_ble_eq_true rfl⟩) h_20 rfl rfl rfl rfl (Nat.le_of_ble_eq_true rfl) dX2_remember_54 ⟨Nat.le_of_ble_eq_true rfl, Nat.le_of_ble_eq_true rfl⟩ (fun r_5 Φ9 sz5 st5 hp5 hs5 => ?_)
        obtain ⟨⟨m_3, hm_3, rfl⟩, hq5, hI9, hF5⟩ := hp5
        subst sz5
        replace hs5 : st5 = [.ref (x + (95 + 2 + m_3))] := hs5
        subst st5
        replace hI9 : In G x (ca) Φ9 := hI9
        replace hm_3 : m_3 < 24 := hm_3
        refine z_astore (lv' := [(6, .ref (x + (95 + 2 + m_3))), (5, .int v_10), (0, .ref (x + 80)), (1, .long a), (3, .int b), (4, .int d)]) B dX2_remember_57 (Nat.le_of_ble_eq_true rfl) rfl ?_
        refine z_aload B dX2_remember_59 0 rfl ?_
        refine z_dup B dX2_remember_61 rfl ?_
        obtain ⟨v_34, v_35, v_36, v_37, v_38, h_21⟩ := in19 (k := 95 + 2 + m_3) hI9 (kd_f (kd_r rfl) hm_3)
        have h_22 : Φ9 (x + (95 + 2 + m_3)) = some (o_ 5 [.long v_34, .long v_35, .long v_36, .int v_37, .int v_38]) := h_21
        refine z_get (ref := "FlowExporter$Flow") (C := RX3) (T := TX3) (N := 5) (ci := 5) (v := .long v_35) B hu_X2_remember_X3 rfl 1 (Nat.le_of_ble_eq_true rfl) hv_X2_remember_102 rfl h_22 rfl dX2_remember_62 ?_
        refine z_iload B dX2_remember_65 5 rfl ?_
        refine z_i2l (v := d.toInt64) B dX2_remember_67 rfl ?_
        refine z_fl (fun v_39 => ?_)
        refine z_ladd B dX2_remember_68 ?_
        refine z_fl (fun v_40 => ?_)
        refine z_put (ref := "FlowExporter$Flow") (C := RX3) (T := TX3) (N := 5) (ci := 5) (v := .long v_40) B hu_X2_remember_X3 tyX3 tyX3_ok nmX3 rfl 1 (Nat.le_of_ble_eq_true rfl) hv_X2_remember_102 rfl (Or.inl rfl) h_22 (by omega) rfl rfl (Nat.le_of_ble_eq_true rfl) dX2_remember_69 (fun Φ10 hΦ5 => ?_)
        have h_23 : Φ10 (x + (95 + 2 + m_3)) = some (o_ 5 [.long v_34, .long v_40, .long v_36, .int v_37, .int v_38]) := fset_at hΦ5
        have hI10 : In G x (ca) Φ10 := In.put (k := 95 + 2 + m_3) hI9 hΦ5 (ok19 (k := 95 + 2 + m_3) (kd_f (kd_r rfl) hm_3) ⟨v_34, v_40, v_36, v_37, v_38, rfl⟩)
        refine z_aload B dX2_remember_72 0 rfl ?_
        refine z_dup B dX2_remember_74 rfl ?_
        refine z_get (ref := "FlowExporter$Flow") (C := RX3) (T := TX3) (N := 5) (ci := 5) (v := .long v_36) B hu_X2_remember_X3 rfl 2 (Nat.le_of_ble_eq_true rfl) hv_X2_remember_107 rfl h_23 rfl dX2_remember_75 ?_
        refine z_iload B dX2_remember_78 5 rfl ?_
        refine z_i2l (v := d.toInt64) B dX2_remember_80 rfl ?_
        refine z_fl (fun v_41 => ?_)
        refine z_iload_n B dX2_remember_81 rfl 4 rfl ?_
        refine z_i2l (v := b.toInt64) B dX2_remember_82 rfl ?_
        refine z_fl (fun v_42 => ?_)
        refine z_lmul B dX2_remember_83 ?_
        refine z_fl (fun v_43 => ?_)
        refine z_ladd B dX2_remember_84 ?_
        refine z_fl (fun v_44 => ?_)
        refine z_put (ref := "FlowExporter$Flow") (C := RX3) (T := TX3) (N := 5) (ci := 5) (v := .long v_44) B hu_X2_remember_X3 tyX3 tyX3_ok nmX3 rfl 2 (Nat.le_of_ble_eq_true rfl) hv_X2_remember_107 rfl (Or.inl rfl) h_23 (by omega) rfl rfl (Nat.le_of_ble_eq_true rfl) dX2_remember_85 (fun Φ11 hΦ6 => ?_)
        have h_24 : Φ11 (x + (95 + 2 + m_3)) = some (o_ 5 [.long v_34, .long v_40, .long v_44, .int v_37, .int v_38]) := fset_at hΦ6
        have hI11 : In G x (ca) Φ11 := In.put (k := 95 + 2 + m_3) hI10 hΦ6 (ok19 (k := 95 + 2 + m_3) (kd_f (kd_r rfl) hm_3) ⟨v_34, v_40, v_44, v_37, v_38, rfl⟩)
        exact z_ret_v B dX2_remember_88 ⟨rfl, rfl, hI11, (fun b9 h9 => ((fset_fr hΦ6 (fun h8 => h9 (95 + 2 + m_3) h8 (show 95 ≤ (95 + 2 + m_3) ∧ (95 + 2 + m_3) < 121 by omega))).trans ((fset_fr hΦ5 (fun h8 => h9 (95 + 2 + m_3) h8 (show 95 ≤ (95 + 2 + m_3) ∧ (95 + 2 + m_3) < 121 by omega))).trans ((hF5 b9 (fun j9 h8 h7 => (show False from h7).elim)).trans ((hF4 b9 (fun j9 h8 h7 => (show False from h7).elim)).trans ((hF1 b9 (fun j9 h8 h7 => (show False from h7).elim)).trans rfl))))))⟩
      · refine z_aload_n B dX2_remember_33 rfl 1 rfl ?_
        have h_25 : Φ8 (x + 80) = some (o_ 4 [.ref (x + 3), .ref (x + 74), .ref (x + 81), .ref (x + 95), .int v_1, .int v_2, .int v_3, .int v_4, .int v_5, .int v_6, .long v_7, .long v_8, .long v_9]) := ((hF4 (x + 80) (fun j9 h8 h7 => (show False from h7).elim)).trans h_17)
        refine z_get (ref := "FlowExporter$Exporter") (C := RX2) (T := TX2) (N := 13) (ci := 4) (v := .ref (x + 95)) B hu_X2_remember_X2 rfl 3 (Nat.le_of_ble_eq_true rfl) hv_X2_remember_20 rfl h_25 rfl dX2_remember_34 ?_
        refine z_lload_n B dX2_remember_37 rfl 2 rfl ?_
        refine z_aload_n B dX2_remember_38 rfl 1 rfl ?_
        refine z_get (ref := "FlowExporter$Exporter") (C := RX2) (T := TX2) (N := 13) (ci := 4) (v := .int v_1) B hu_X2_remember_X2 rfl 4 (Nat.le_of_ble_eq_true rfl) hv_X2_remember_23 rfl h_25 rfl dX2_remember_39 ?_
        have h_26 : Φ8 (x + 95) = some (o_ 6 [.ref (x + 96), .int (nI n_1)]) := ((hF4 (x + 95) (fun j9 h8 h7 => (show False from h7).elim)).trans h_18)
        refine z_callV (As := [.long a, .int v_1]) (rest := []) B (s_X4_addFlow G l Φ8 sz x (ca) 95 a v_1 hx hI8 rfl) (cwV 2 B.1.2.2.2.2 gX2_remember_X4_addFlow rfl rfl rfl (by decide +kernel) ⟨Nat.le_of_ble_eq_true rfl, Nat.le_of_ble_eq_true rfl⟩) h_26 rfl rfl rfl rfl (Nat.le_of_ble_eq_true rfl) dX2_remember_42 ⟨Nat.le_of_ble_eq_true rfl, Nat.le_of_ble_eq_true rfl⟩ (fun r_6 Φ12 sz6 st6 hp6 hs6 => ?_)
        obtain ⟨⟨m_4, hm_4, rfl⟩, hq6, hI12, hF6⟩ := hp6
        subst sz6
        replace hs6 : st6 = [.ref (x + (95 + 2 + m_4))] := hs6
        subst st6
        replace hI12 : In G x (ca) Φ12 := hI12
        replace hm_4 : m_4 < 24 := hm_4
        refine z_goto (tgt := 57) B dX2_remember_45 rfl ?_
        refine z_astore (lv' := [(6, .ref (x + (95 + 2 + m_4))), (5, .int v_10), (0, .ref (x + 80)), (1, .long a), (3, .int b), (4, .int d)]) B dX2_remember_57 (Nat.le_of_ble_eq_true rfl) rfl ?_
        refine z_aload B dX2_remember_59 0 rfl ?_
        refine z_dup B dX2_remember_61 rfl ?_
        obtain ⟨v_45, v_46, v_47, v_48, v_49, h_27⟩ := in19 (k := 95 + 2 + m_4) hI12 (kd_f (kd_r rfl) hm_4)
        have h_28 : Φ12 (x + (95 + 2 + m_4)) = some (o_ 5 [.long v_45, .long v_46, .long v_47, .int v_48, .int v_49]) := h_27
        refine z_get (ref := "FlowExporter$Flow") (C := RX3) (T := TX3) (N := 5) (ci := 5) (v := .long v_46) B hu_X2_remember_X3 rfl 1 (Nat.le_of_ble_eq_true rfl) hv_X2_remember_102 rfl h_28 rfl dX2_remember_62 ?_
        refine z_iload B dX2_remember_65 5 rfl ?_
        refine z_i2l (v := d.toInt64) B dX2_remember_67 rfl ?_
        refine z_fl (fun v_50 => ?_)
        refine z_ladd B dX2_remember_68 ?_
        refine z_fl (fun v_51 => ?_)
        refine z_put (ref := "FlowExporter$Flow") (C := RX3) (T := TX3) (N := 5) (ci := 5) (v := .long v_51) B hu_X2_remember_X3 tyX3 tyX3_ok nmX3 rfl 1 (Nat.le_of_ble_eq_true rfl) hv_X2_remember_102 rfl (Or.inl rfl) h_28 (by omega) rfl rfl (Nat.le_of_ble_eq_true rfl) dX2_remember_69 (fun Φ13 hΦ7 => ?_)
        have h_29 : Φ13 (x + (95 + 2 + m_4)) = some (o_ 5 [.long v_45, .long v_51, .long v_47, .int v_48, .int v_49]) := fset_at hΦ7
        have hI13 : In G x (ca) Φ13 := In.put (k := 95 + 2 + m_4) hI12 hΦ7 (ok19 (k := 95 + 2 + m_4) (kd_f (kd_r rfl) hm_4) ⟨v_45, v_51, v_47, v_48, v_49, rfl⟩)
        refine z_aload B dX2_remember_72 0 rfl ?_
        refine z_dup B dX2_remember_74 rfl ?_
        refine z_get (ref := "FlowExporter$Flow") (C := RX3) (T := TX3) (N := 5) (ci := 5) (v := .long v_47) B hu_X2_remember_X3 rfl 2 (Nat.le_of_ble_eq_true rfl) hv_X2_remember_107 rfl h_29 rfl dX2_remember_75 ?_
        refine z_iload B dX2_remember_78 5 rfl ?_
        refine z_i2l (v := d.toInt64) B dX2_remember_80 rfl ?_
        refine z_fl (fun v_52 => ?_)
        refine z_iload_n B dX2_remember_81 rfl 4 rfl ?_
        refine z_i2l (v := b.toInt64) B dX2_remember_82 rfl ?_
        refine z_fl (fun v_53 => ?_)
        refine z_lmul B dX2_remember_83 ?_
        refine z_fl (fun v_54 => ?_)
        refine z_ladd B dX2_remember_84 ?_
        refine z_fl (fun v_55 => ?_)
        refine z_put (ref := "FlowExporter$Flow") (C := RX3) (T := TX3) (N := 5) (ci := 5) (v := .long v_55) B hu_X2_remember_X3 tyX3 tyX3_ok nmX3 rfl 2 (Nat.le_of_ble_eq_true rfl) hv_X2_remember_107 rfl (Or.inl rfl) h_29 (by omega) rfl rfl (Nat.le_of_ble_eq_true rfl) dX2_remember_85 (fun Φ14 hΦ8 => ?_)
        have h_30 : Φ14 (x + (95 + 2 + m_4)) = some (o_ 5 [.long v_45, .long v_51, .long v_55, .int v_48, .int v_49]) := fset_at hΦ8
        have hI14 : In G x (ca) Φ14 := In.put (k := 95 + 2 + m_4) hI13 hΦ8 (ok19 (k := 95 + 2 + m_4) (kd_f (kd_r rfl) hm_4) ⟨v_45, v_51, v_55, v_48, v_49, rfl⟩)
        exact z_ret_v B dX2_remember_88 ⟨rfl, rfl, hI14, (fun b9 h9 => ((fset_fr hΦ8 (fun h8 => h9 (95 + 2 + m_4) h8 (show 95 ≤ (95 + 2 + m_4) ∧ (95 + 2 + m_4) < 121 by omega))).trans ((fset_fr hΦ7 (fun h8 => h9 (95 + 2 + m_4) h8 (show 95 ≤ (95 + 2 + m_4) ∧ (95 + 2 + m_4) < 121 by omega))).trans ((hF6 b9 (fun j9 h8 h7 => h9 j9 h8 (fq_208 j9 h7))).trans ((hF4 b9 (fun j9 h8 h7 => (show False from h7).elim)).trans ((hF1 b9 (fun j9 h8 h7 => (show False from h7).elim)).trans rfl))))))⟩
    · exact z_ret_v B dX2_remember_26 ⟨rfl, rfl, hI8, (fun b9 h9 => ((hF4 b9 (fun j9 h8 h7 => (show False from h7).elim)).trans ((hF1 b9 (fun j9 h8 h7 => (show False from h7).elim)).trans rfl)))⟩

theorem hu_X2_trueValue_X2 : ∀ w ∈ u_ws RX2 TX2 13, w ∈ wsX2_trueValue := fun _ h => List.mem_cons_of_mem _ (List.mem_append_left _ (List.mem_append_left _ (List.mem_append_left _ (List.mem_append_right _ (h)))))

theorem hv_X2_trueValue_20 : Cond.fieldLink RX2 20 "FlowExporter$Exporter" (TX2 3).2.1 (TX2 3).2.2.1 ∈ wsX2_trueValue := List.mem_cons_of_mem _ (List.mem_append_left _ (List.mem_append_left _ (List.mem_append_left _ (List.mem_append_left _ (List.mem_append_left _ (List.mem_of_getElem? (i := 0) rfl))))))

set_option maxHeartbeats 4000000 in
set_option maxRecDepth 100000 in
theorem s_X2_trueValue (G : EnvG) (l : Launch) (Φ : Hm) (sz x ca : Nat) (a : Int64) (b : Int32) (hx : G.2.2.2 ≤ x) (hI : In G x ca Φ)  : Ct G l yX2_trueValue wsX2_trueValue ({ frames := 2, cells := 0, slots := 0, locals := 43 }) 0 0 [.ref (x + 80), .long a, .int b] Φ sz (fun v Φ1 sz1 => (∃ r9 : Int64, v = some (.long r9)) ∧ sz1 = sz ∧ In G x (ca) Φ1 ∧ Fr x (fun j9 => False) Φ Φ1) := by
  refine Ct.of (cc := cX2_trueValue) (maxL := 5) (ret := (some .long)) (by decide) rfl (Nat.le_of_ble_eq_true rfl) ?_
  intro p9 e9 s9 m9 w9 t9 k9 B
  show Z p9 l e9 _ s9 m9 _ w9 t9 k9 _ G 5 0 [(0, .ref (x + 80)), (1, .long a), (3, .int b)] [] Φ sz 0 0
  refine z_aload_n B dX2_trueValue_0 rfl 0 rfl ?_
  obtain ⟨v_1, v_2, v_3, v_4, v_5, v_6, v_7, v_8, v_9, h_1, b_1⟩ := in16 (k := 80) hI rfl
  have h_2 : Φ (x + 80) = some (o_ 4 [.ref (x + 3), .ref (x + 74), .ref (x + 81), .ref (x + 95), .int v_1, .int v_2, .int v_3, .int v_4, .int v_5, .int v_6, .long v_7, .long v_8, .long v_9]) := h_1
  refine z_get (ref := "FlowExporter$Exporter") (C := RX2) (T := TX2) (N := 13) (ci := 4) (v := .ref (x + 95)) B hu_X2_trueValue_X2 rfl 3 (Nat.le_of_ble_eq_true rfl) hv_X2_trueValue_20 rfl h_2 rfl dX2_trueValue_1 ?_
  refine z_lload_n B dX2_trueValue_4 rfl 1 rfl ?_
  obtain ⟨n_1, h_3, b_2⟩ := in17 (k := 95) hI rfl
  replace b_2 : n_1 ≤ 24 := b_2
  have h_4 : Φ (x + 95) = some (o_ 6 [.ref (x + 96), .int (nI n_1)]) := h_3
  refine z_callV (As := [.long a]) (rest := []) B (s_X4_indexOf G l Φ sz x (ca) 95 a hx hI rfl) (cwV 1 B.1.2.2.2.2 gX2_trueValue_X4_indexOf rfl rfl rfl (by decide +kernel) ⟨Nat.le_of_ble_eq_true rfl, Nat.le_of_ble_eq_true rfl⟩) h_4 rfl rfl rfl rfl (Nat.le_of_ble_eq_true rfl) dX2_trueValue_5 ⟨Nat.le_of_ble_eq_true rfl, Nat.le_of_ble_eq_true rfl⟩ (fun r_1 Φ1 sz1 st1 hp1 hs1 => ?_)
  obtain ⟨⟨v_10, rfl⟩, hq1, hI1, hF1⟩ := hp1
  subst sz1
  replace hs1 : st1 = [.int v_10] := hs1
  subst st1
  replace hI1 : In G x (ca) Φ1 := hI1
  refine z_istore (lv' := [(4, .int v_10), (0, .ref (x + 80)), (1, .long a), (3, .int b)]) B dX2_trueValue_8 (Nat.le_of_ble_eq_true rfl) rfl ?_
  refine z_iload B dX2_trueValue_10 0 rfl ?_
  refine z_iconst (v := (-1)) B dX2_trueValue_12 rfl ?_
  refine z_icmp_ne (tgt := 20) B dX2_trueValue_13 rfl (fun c_1 => ?_) (fun c_1 => ?_)
  · refine z_aload_n B dX2_trueValue_20 rfl 1 rfl ?_
    have h_5 : Φ1 (x + 80) = some (o_ 4 [.ref (x + 3), .ref (x + 74), .ref (x + 81), .ref (x + 95), .int v_1, .int v_2, .int v_3, .int v_4, .int v_5, .int v_6, .long v_7, .long v_8, .long v_9]) := ((hF1 (x + 80) (fun j9 h8 h7 => (show False from h7).elim)).trans h_2)
    refine z_get (ref := "FlowExporter$Exporter") (C := RX2) (T := TX2) (N := 13) (ci := 4) (v := .ref (x + 95)) B hu_X2_trueValue_X2 rfl 3 (Nat.le_of_ble_eq_true rfl) hv_X2_trueValue_20 rfl h_5 rfl dX2_trueValue_21 ?_
    refine z_iload B dX2_trueValue_24 0 rfl ?_
    have h_6 : Φ1 (x + 95) = some (o_ 6 [.ref (x + 96), .int (nI n_1)]) := ((hF1 (x + 95) (fun j9 h8 h7 => (show False from h7).elim)).trans h_4)
    refine z_callV (As := [.int v_10]) (rest := []) B (s_X4_flowAt G l Φ1 sz x (ca) 95 v_10 hx hI1 rfl) (cwV 1 B.1.2.2.2.2 gX2_trueValue_X4_flowAt rfl rfl rfl (by decide +kernel) ⟨Nat.le_of_ble_eq_true rfl, Nat.le_of_ble_eq_true rfl⟩) h_6 rfl rfl rfl rfl (Nat.le_of_ble_eq_true rfl) dX2_trueValue_26 ⟨Nat.le_of_ble_eq_true rfl, Nat.le_of_ble_eq_true rfl⟩ (fun r_2 Φ2 sz2 st2 hp2 hs2 => ?_)
    obtain ⟨⟨m_1, hm_1, rfl⟩, hq2, hI2, hF2⟩ := hp2
    subst sz2
    replace hs2 : st2 = [.ref (x + (95 + 2 + m_1))] := hs2
    subst st2
    replace hI2 : In G x (ca) Φ2 := hI2
    replace hm_1 : m_1 < 24 := hm_1
    refine z_iload_n B dX2_trueValue_29 rfl 3 rfl ?_
    refine z_if_ne (tgt := 37) B dX2_trueValue_30 rfl (fun c_2 => ?_) (fun c_2 => ?_)
    · refine z_iconst (v := 5) B dX2_trueValue_37 rfl ?_
      obtain ⟨v_11, v_12, v_13, v_14, v_15, h_7⟩ := in19 (k := 95 + 2 + m_1) hI2 (kd_f (kd_r rfl) hm_1)
      have h_8 : Φ2 (x + (95 + 2 + m_1)) = some (o_ 5 [.long v_11, .long v_12, .long v_13, .int v_14, .int v_15]) := h_7
      refine z_callV (As := [.int 5]) (rest := []) B (s_X3_value G l Φ2 sz x (ca) (95 + 2 + m_1) 5 hx hI2 (kd_f (kd_r rfl) hm_1)) (cwV 1 B.1.2.2.2.2 gX2_trueValue_X3_value rfl rfl rfl (by decide +kernel) ⟨Nat.le_of_ble_eq_true rfl, Nat.le_of_ble_eq_true rfl⟩) h_8 rfl rfl rfl rfl (Nat.le_of_ble_eq_true rfl) dX2_trueValue_38 ⟨Nat.le_of_ble_eq_true rfl, Nat.le_of_ble_eq_true rfl⟩ (fun r_3 Φ3 sz3 st3 hp3 hs3 => ?_)
      obtain ⟨⟨v_16, rfl⟩, hq3, hI3, hF3⟩ := hp3
      subst sz3
      replace hs3 : st3 = [.long v_16] := hs3
      subst st3
      replace hI3 : In G x (ca) Φ3 := hI3
      exact z_ret_l B dX2_trueValue_41 ⟨⟨_, rfl⟩, rfl, hI3, (fun b9 h9 => ((hF3 b9 (fun j9 h8 h7 => (show False from h7).elim)).trans ((hF2 b9 (fun j9 h8 h7 => (show False from h7).elim)).trans ((hF1 b9 (fun j9 h8 h7 => (show False from h7).elim)).trans rfl))))⟩
    · refine z_iconst (v := 4) B dX2_trueValue_33 rfl ?_
      refine z_goto (tgt := 38) B dX2_trueValue_34 rfl ?_
      obtain ⟨v_17, v_18, v_19, v_20, v_21, h_9⟩ := in19 (k := 95 + 2 + m_1) hI2 (kd_f (kd_r rfl) hm_1)
      have h_10 : Φ2 (x + (95 + 2 + m_1)) = some (o_ 5 [.long v_17, .long v_18, .long v_19, .int v_20, .int v_21]) := h_9
      refine z_callV (As := [.int 4]) (rest := []) B (s_X3_value G l Φ2 sz x (ca) (95 + 2 + m_1) 4 hx hI2 (kd_f (kd_r rfl) hm_1)) (cwV 1 B.1.2.2.2.2 gX2_trueValue_X3_value rfl rfl rfl (by decide +kernel) ⟨Nat.le_of_ble_eq_true rfl, Nat.le_of_ble_eq_true rfl⟩) h_10 rfl rfl rfl rfl (Nat.le_of_ble_eq_true rfl) dX2_trueValue_38 ⟨Nat.le_of_ble_eq_true rfl, Nat.le_of_ble_eq_true rfl⟩ (fun r_4 Φ4 sz4 st4 hp4 hs4 => ?_)
      obtain ⟨⟨v_22, rfl⟩, hq4, hI4, hF4⟩ := hp4
      subst sz4
      replace hs4 : st4 = [.long v_22] := hs4
      subst st4
      replace hI4 : In G x (ca) Φ4 := hI4
      exact z_ret_l B dX2_trueValue_41 ⟨⟨_, rfl⟩, rfl, hI4, (fun b9 h9 => ((hF4 b9 (fun j9 h8 h7 => (show False from h7).elim)).trans ((hF2 b9 (fun j9 h8 h7 => (show False from h7).elim)).trans ((hF1 b9 (fun j9 h8 h7 => (show False from h7).elim)).trans rfl))))⟩
  · refine z_lconst (v := 0) B dX2_trueValue_16 rfl ?_
    refine z_goto (tgt := 41) B dX2_trueValue_17 rfl ?_
    exact z_ret_l B dX2_trueValue_41 ⟨⟨_, rfl⟩, rfl, hI1, (fun b9 h9 => ((hF1 b9 (fun j9 h8 h7 => (show False from h7).elim)).trans rfl))⟩

set_option maxHeartbeats 4000000 in
set_option maxRecDepth 100000 in
theorem s_X2_bitsOfInverse (G : EnvG) (l : Launch) (Φ : Hm) (sz x ca : Nat) (a : Int32) (hx : G.2.2.2 ≤ x) (hI : In G x ca Φ)  : Ct G l yX2_bitsOfInverse wsX2_bitsOfInverse ({ frames := 0, cells := 0, slots := 0, locals := 0 }) 0 0 [.int a] Φ sz (fun v Φ1 sz1 => (∃ r9 : Int32, v = some (.int r9)) ∧ sz1 = sz ∧ In G x (ca) Φ1 ∧ Fr x (fun j9 => False) Φ Φ1) := by
  refine Ct.of (cc := cX2_bitsOfInverse) (maxL := 4) (ret := (some .int)) (by decide) rfl (Nat.le_of_ble_eq_true rfl) ?_
  intro p9 e9 s9 m9 w9 t9 k9 B
  show Z p9 l e9 _ s9 m9 _ w9 t9 k9 _ G 4 0 [(0, .int a)] [] Φ sz 0 0
  refine z_iload_n B dX2_bitsOfInverse_0 rfl 0 rfl ?_
  refine z_iconst (v := 1) B dX2_bitsOfInverse_1 rfl ?_
  refine z_icmp_ge (tgt := 7) B dX2_bitsOfInverse_2 rfl (fun c_1 => ?_) (fun c_1 => ?_)
  · obtain ⟨n_1, e_2, e_1, rfl⟩ := nI_ofge (c := 1) (by omega) (Int32.not_lt.mpr c_1)
    refine z_iconst (v := 0) B dX2_bitsOfInverse_7 rfl ?_
    refine z_istore_n (lv' := [(1, .int 0), (0, .int (nI n_1))]) B dX2_bitsOfInverse_8 rfl (Nat.le_of_ble_eq_true rfl) rfl ?_
    refine z_lv [0, 1] rfl ?_
    refine z_loop (α := Nat) (fun (a9 : Nat) Φi => In G x (ca) Φi ∧ Fr x (fun j9 => False) Φ Φi ∧ (a9 ≤ 30) ∧ True) (fun a9 => [(1, .int (nI a9)), (0, .int (nI n_1))]) (fun a9 => 30 - a9) ?_ (0) ⟨hI, fun _ _ => rfl, (show 0 ≤ 30 by omega), trivial⟩
    rintro i_1 Φl1 ⟨hI1, hF1, b_1, -⟩ ih1
    replace hI1 : In G x (ca) Φl1 := hI1
    replace b_1 : i_1 ≤ 30 := b_1
    show Z p9 l e9 _ s9 m9 _ w9 t9 k9 _ G 4 9 [(1, .int (nI i_1)), (0, .int (nI n_1))] [] Φl1 _ _ _
    refine z_iload_n B dX2_bitsOfInverse_9 rfl 0 rfl ?_
    refine z_bipush (v := 30) B dX2_bitsOfInverse_10 rfl ?_
    refine z_icmp_ge (tgt := 28) B dX2_bitsOfInverse_12 rfl (fun c_2 => ?_) (fun c_2 => ?_)
    · have e_3 : 30 ≤ i_1 := (nI_leI (a := 30) (b := i_1) (by omega) (by omega)).mp c_2
      refine z_lconst (v := 1) B dX2_bitsOfInverse_28 rfl ?_
      refine z_bipush (v := 23) B dX2_bitsOfInverse_29 rfl ?_
      refine z_iload_n B dX2_bitsOfInverse_31 rfl 0 rfl ?_
      refine z_iadd B dX2_bitsOfInverse_32 ?_
      refine z_top (st1 := [.int (nI (23 + i_1)), .long 1]) (congrArg (fun w9 : Int32 => ([.int w9, .long 1] : List Value)) (nI_add 23 i_1)) ?_
      refine z_lshl (v := 1 <<< ((nI (23 + i_1) : Int32).toInt64 &&& 63)) B dX2_bitsOfInverse_33 rfl ?_
      refine z_fl (fun v_1 => ?_)
      refine z_iload_n B dX2_bitsOfInverse_34 rfl 1 rfl ?_
      refine z_iconst (v := 2) B dX2_bitsOfInverse_35 rfl ?_
      refine z_idiv B dX2_bitsOfInverse_36 (by decide) ?_
      refine z_fi (fun v_2 => ?_)
      refine z_i2l (v := v_2.toInt64) B dX2_bitsOfInverse_37 rfl ?_
      refine z_fl (fun v_3 => ?_)
      refine z_ladd B dX2_bitsOfInverse_38 ?_
      refine z_fl (fun v_4 => ?_)
      refine z_iload_n B dX2_bitsOfInverse_39 rfl 1 rfl ?_
      refine z_i2l (v := (nI n_1).toInt64) B dX2_bitsOfInverse_40 rfl ?_
      refine z_ldiv B dX2_bitsOfInverse_41 (ge1_nel c_1) ?_
      refine z_lstore_n (lv' := [(2, .long (v_4 / ((nI n_1).toInt64))), (1, .int (nI i_1)), (0, .int (nI n_1))]) B dX2_bitsOfInverse_42 rfl (Nat.le_of_ble_eq_true rfl) rfl ?_
      refine z_bipush (v := 127) B dX2_bitsOfInverse_43 rfl ?_
      refine z_iload_n B dX2_bitsOfInverse_45 rfl 1 rfl ?_
      refine z_isub B dX2_bitsOfInverse_46 ?_
      refine z_fi (fun v_5 => ?_)
      refine z_bipush (v := 23) B dX2_bitsOfInverse_47 rfl ?_
      refine z_ishl B dX2_bitsOfInverse_49 ?_
      refine z_fi (fun v_6 => ?_)
      refine z_lload_n B dX2_bitsOfInverse_50 rfl 0 rfl ?_
      refine z_ldc2 (v := 8388608) B (by decide +kernel) dX2_bitsOfInverse_51 ?_
      refine z_lsub B dX2_bitsOfInverse_54 ?_
      refine z_fl (fun v_7 => ?_)
      refine z_l2i (v := v_7.toInt32) B dX2_bitsOfInverse_55 rfl ?_
      refine z_fi (fun v_8 => ?_)
      refine z_iadd B dX2_bitsOfInverse_56 ?_
      refine z_fi (fun v_9 => ?_)
      exact z_ret_i B dX2_bitsOfInverse_57 ⟨⟨_, rfl⟩, rfl, hI1, (fun b9 h9 => ((hF1 b9 (fun j9 h8 h7 => (show False from h7).elim)).trans rfl))⟩
    · have e_4 : ¬ (30 ≤ i_1) := fun h9 => c_2 ((nI_leI (a := 30) (b := i_1) (by omega) (by omega)).mpr h9)
      refine z_iconst (v := 1) B dX2_bitsOfInverse_15 rfl ?_
      refine z_iload_n B dX2_bitsOfInverse_16 rfl 0 rfl ?_
      refine z_ishl B dX2_bitsOfInverse_17 ?_
      refine z_fi (fun v_10 => ?_)
      refine z_iload_n B dX2_bitsOfInverse_18 rfl 1 rfl ?_
      refine z_icmp_ge (tgt := 28) B dX2_bitsOfInverse_19 rfl (fun c_3 => ?_) (fun c_3 => ?_)
      · obtain ⟨n_2, e_6, e_5, rfl⟩ := nI_ofge (c := n_1) (by omega) (Int32.not_lt.mpr c_3)
        refine z_lconst (v := 1) B dX2_bitsOfInverse_28 rfl ?_
        refine z_bipush (v := 23) B dX2_bitsOfInverse_29 rfl ?_
        refine z_iload_n B dX2_bitsOfInverse_31 rfl 0 rfl ?_
        refine z_iadd B dX2_bitsOfInverse_32 ?_
        refine z_top (st1 := [.int (nI (23 + i_1)), .long 1]) (congrArg (fun w9 : Int32 => ([.int w9, .long 1] : List Value)) (nI_add 23 i_1)) ?_
        refine z_lshl (v := 1 <<< ((nI (23 + i_1) : Int32).toInt64 &&& 63)) B dX2_bitsOfInverse_33 rfl ?_
        refine z_fl (fun v_11 => ?_)
        refine z_iload_n B dX2_bitsOfInverse_34 rfl 1 rfl ?_
        refine z_iconst (v := 2) B dX2_bitsOfInverse_35 rfl ?_
        refine z_idiv B dX2_bitsOfInverse_36 (by decide) ?_
        refine z_fi (fun v_12 => ?_)
        refine z_i2l (v := v_12.toInt64) B dX2_bitsOfInverse_37 rfl ?_
        refine z_fl (fun v_13 => ?_)
        refine z_ladd B dX2_bitsOfInverse_38 ?_
        refine z_fl (fun v_14 => ?_)
        refine z_iload_n B dX2_bitsOfInverse_39 rfl 1 rfl ?_
        refine z_i2l (v := (nI n_1).toInt64) B dX2_bitsOfInverse_40 rfl ?_
        refine z_ldiv B dX2_bitsOfInverse_41 (ge1_nel c_1) ?_
        refine z_lstore_n (lv' := [(2, .long (v_14 / ((nI n_1).toInt64))), (1, .int (nI i_1)), (0, .int (nI n_1))]) B dX2_bitsOfInverse_42 rfl (Nat.le_of_ble_eq_true rfl) rfl ?_
        refine z_bipush (v := 127) B dX2_bitsOfInverse_43 rfl ?_
        refine z_iload_n B dX2_bitsOfInverse_45 rfl 1 rfl ?_
        refine z_isub B dX2_bitsOfInverse_46 ?_
        refine z_fi (fun v_15 => ?_)
        refine z_bipush (v := 23) B dX2_bitsOfInverse_47 rfl ?_
        refine z_ishl B dX2_bitsOfInverse_49 ?_
        refine z_fi (fun v_16 => ?_)
        refine z_lload_n B dX2_bitsOfInverse_50 rfl 0 rfl ?_
        refine z_ldc2 (v := 8388608) B (by decide +kernel) dX2_bitsOfInverse_51 ?_
        refine z_lsub B dX2_bitsOfInverse_54 ?_
        refine z_fl (fun v_17 => ?_)
        refine z_l2i (v := v_17.toInt32) B dX2_bitsOfInverse_55 rfl ?_
        refine z_fi (fun v_18 => ?_)
        refine z_iadd B dX2_bitsOfInverse_56 ?_
        refine z_fi (fun v_19 => ?_)
        exact z_ret_i B dX2_bitsOfInverse_57 ⟨⟨_, rfl⟩, rfl, hI1, (fun b9 h9 => ((hF1 b9 (fun j9 h8 h7 => (show False from h7).elim)).trans rfl))⟩
      · refine z_iinc (k := 0) (v := nI (i_1 + 1)) (lv' := [(1, .int (nI (i_1 + 1))), (0, .int (nI n_1))]) B dX2_bitsOfInverse_22 rfl (nI_add i_1 1) (Nat.le_of_ble_eq_true rfl) rfl ?_
        refine z_goto (tgt := 9) B dX2_bitsOfInverse_25 rfl ?_
        refine z_lv [0, 1] rfl ?_
        exact ih1 (i_1 + 1) Φl1 (show 30 - (i_1 + 1) < 30 - i_1 by omega) ⟨hI1, (fun b9 h9 => ((hF1 b9 (fun j9 h8 h7 => (show False from h7).elim)).trans rfl)), (show (i_1 + 1) ≤ 30 by omega), trivial⟩
  · refine z_iconst (v := 0) B dX2_bitsOfInverse_5 rfl ?_
    exact z_ret_i B dX2_bitsOfInverse_6 ⟨⟨_, rfl⟩, rfl, hI, (fun b9 h9 => rfl)⟩

theorem hu_X2_exportAt_X2 : ∀ w ∈ u_ws RX2 TX2 13, w ∈ wsX2_exportAt := fun _ h => List.mem_cons_of_mem _ (List.mem_append_left _ (List.mem_append_left _ (List.mem_append_left _ (List.mem_append_left _ (List.mem_append_left _ (List.mem_append_left _ (List.mem_append_left _ (List.mem_append_left _ (List.mem_append_right _ (h))))))))))

theorem hv_X2_exportAt_14 : Cond.fieldLink RX2 14 "FlowExporter$Exporter" (TX2 2).2.1 (TX2 2).2.2.1 ∈ wsX2_exportAt := List.mem_cons_of_mem _ (List.mem_append_left _ (List.mem_append_left _ (List.mem_append_left _ (List.mem_append_left _ (List.mem_append_left _ (List.mem_append_left _ (List.mem_append_left _ (List.mem_append_left _ (List.mem_append_left _ (List.mem_append_left _ (List.mem_of_getElem? (i := 0) rfl)))))))))))

theorem fq_213 {x : Nat} : ∀ j9 : Nat, x + 80 = x + j9 → (j9 = 81 ∨ j9 = 81 + 1) → False := by
  intro j9 h1 h2
  omega

theorem hv_X2_exportAt_53 : Cond.fieldLink RX2 53 "FlowExporter$Exporter" (TX2 0).2.1 (TX2 0).2.2.1 ∈ wsX2_exportAt := List.mem_cons_of_mem _ (List.mem_append_left _ (List.mem_append_left _ (List.mem_append_left _ (List.mem_append_left _ (List.mem_append_left _ (List.mem_append_left _ (List.mem_append_left _ (List.mem_append_left _ (List.mem_append_left _ (List.mem_append_left _ (List.mem_of_getElem? (i := 1) rfl)))))))))))

theorem hu_X2_exportAt_X3 : ∀ w ∈ u_ws RX3 TX3 5, w ∈ wsX2_exportAt := fun _ h => List.mem_cons_of_mem _ (List.mem_append_left _ (List.mem_append_left _ (List.mem_append_left _ (List.mem_append_left _ (List.mem_append_left _ (List.mem_append_left _ (List.mem_append_left _ (List.mem_append_right _ (h)))))))))

theorem hv_X2_exportAt_129 : Cond.fieldLink RX2 129 "FlowExporter$Flow" (TX3 0).2.1 (TX3 0).2.2.1 ∈ wsX2_exportAt := List.mem_cons_of_mem _ (List.mem_append_left _ (List.mem_append_left _ (List.mem_append_left _ (List.mem_append_left _ (List.mem_append_left _ (List.mem_append_left _ (List.mem_append_left _ (List.mem_append_left _ (List.mem_append_left _ (List.mem_append_left _ (List.mem_of_getElem? (i := 2) rfl)))))))))))

theorem hv_X2_exportAt_37 : Cond.fieldLink RX2 37 "FlowExporter$Exporter" (TX2 8).2.1 (TX2 8).2.2.1 ∈ wsX2_exportAt := List.mem_cons_of_mem _ (List.mem_append_left _ (List.mem_append_left _ (List.mem_append_left _ (List.mem_append_left _ (List.mem_append_left _ (List.mem_append_left _ (List.mem_append_left _ (List.mem_append_left _ (List.mem_append_left _ (List.mem_append_left _ (List.mem_of_getElem? (i := 3) rfl)))))))))))

theorem hu_X2_exportAt_X10 : ∀ w ∈ u_ws RX10 TX10 4, w ∈ wsX2_exportAt := fun _ h => List.mem_cons_of_mem _ (List.mem_append_left _ (List.mem_append_left _ (List.mem_append_left _ (List.mem_append_left _ (List.mem_append_left _ (List.mem_append_left _ (List.mem_append_right _ (h))))))))

theorem hv_X2_exportAt_143 : Cond.fieldLink RX2 143 "FlowExporter$Template" (TX10 1).2.1 (TX10 1).2.2.1 ∈ wsX2_exportAt := List.mem_cons_of_mem _ (List.mem_append_left _ (List.mem_append_left _ (List.mem_append_left _ (List.mem_append_left _ (List.mem_append_left _ (List.mem_append_left _ (List.mem_append_left _ (List.mem_append_left _ (List.mem_append_left _ (List.mem_append_left _ (List.mem_of_getElem? (i := 4) rfl)))))))))))

theorem hv_X2_exportAt_57 : Cond.fieldLink RX2 57 "FlowExporter$Exporter" (TX2 1).2.1 (TX2 1).2.2.1 ∈ wsX2_exportAt := List.mem_cons_of_mem _ (List.mem_append_left _ (List.mem_append_left _ (List.mem_append_left _ (List.mem_append_left _ (List.mem_append_left _ (List.mem_append_left _ (List.mem_append_left _ (List.mem_append_left _ (List.mem_append_left _ (List.mem_append_left _ (List.mem_of_getElem? (i := 6) rfl)))))))))))

theorem hv_X2_exportAt_27 : Cond.fieldLink RX2 27 "FlowExporter$Exporter" (TX2 5).2.1 (TX2 5).2.2.1 ∈ wsX2_exportAt := List.mem_cons_of_mem _ (List.mem_append_left _ (List.mem_append_left _ (List.mem_append_left _ (List.mem_append_left _ (List.mem_append_left _ (List.mem_append_left _ (List.mem_append_left _ (List.mem_append_left _ (List.mem_append_left _ (List.mem_append_left _ (List.mem_of_getElem? (i := 7) rfl)))))))))))

theorem fq_222 {x : Nat} : ∀ j9 : Nat, x + 80 = x + j9 → (74 ≤ j9 ∧ j9 < 78) → False := by
  intro j9 h1 h2
  omega

theorem fq_223 : ∀ j9 : Nat, (j9 = 81 ∨ j9 = 81 + 1) → (74 ≤ j9 ∧ j9 < 95) := by
  intro j9 h
  omega

theorem fq_224 : ∀ j9 : Nat, (74 ≤ j9 ∧ j9 < 78) → (74 ≤ j9 ∧ j9 < 95) := by
  intro j9 h
  omega

theorem hv_X2_exportAt_50 : Cond.fieldLink RX2 50 "FlowExporter$Exporter" (TX2 12).2.1 (TX2 12).2.2.1 ∈ wsX2_exportAt := List.mem_cons_of_mem _ (List.mem_append_left _ (List.mem_append_left _ (List.mem_append_left _ (List.mem_append_left _ (List.mem_append_left _ (List.mem_append_left _ (List.mem_append_left _ (List.mem_append_left _ (List.mem_append_left _ (List.mem_append_left _ (List.mem_of_getElem? (i := 5) rfl)))))))))))

set_option maxHeartbeats 4000000 in
set_option maxRecDepth 100000 in
theorem s_X2_exportAt (G : EnvG) (l : Launch) (Φ : Hm) (sz x ca : Nat) (nw : Int32) (rt : Int32) (dw : Int32) (aq : Int32) (xp : Int32) (xb : Int32) (ob : Int64) (sm : Int64) (un : Int64) (a : Int32) (hx : G.2.2.2 ≤ x) (hI : In G x ca Φ) (hc0 : Φ (x + 80) = some (o_ 4 [.ref (x + 3), .ref (x + 74), .ref (x + 81), .ref (x + 95), .int nw, .int rt, .int dw, .int aq, .int xp, .int xb, .long ob, .long sm, .long un])) (had : aq = 0 ∨ aq = 1) : Ct G l yX2_exportAt wsX2_exportAt ({ frames := 3, cells := 0, slots := 0, locals := 71 }) 0 0 [.ref (x + 80), .int a] Φ sz (fun v Φ1 sz1 => ((v = none) ∧ ∃ xp8 : Int32, ∃ un8 : Int64, Φ1 (x + 80) = some (o_ 4 [.ref (x + 3), .ref (x + 74), .ref (x + 81), .ref (x + 95), .int nw, .int rt, .int dw, .int aq, .int xp8, .int xb, .long ob, .long sm, .long un8])) ∧ sz1 = sz ∧ In G x (ca) Φ1 ∧ Fr x (fun j9 => 74 ≤ j9 ∧ j9 < 95) Φ Φ1) := by
  refine Ct.of (cc := cX2_exportAt) (maxL := 4) (ret := none) (by decide) rfl (Nat.le_of_ble_eq_true rfl) ?_
  intro p9 e9 s9 m9 w9 t9 k9 B
  show Z p9 l e9 _ s9 m9 _ w9 t9 k9 _ G 4 0 [(0, .ref (x + 80)), (1, .int a)] [] Φ sz 0 0
  refine z_aload_n B dX2_exportAt_0 rfl 0 rfl ?_
  refine z_get (ref := "FlowExporter$Exporter") (C := RX2) (T := TX2) (N := 13) (ci := 4) (v := .ref (x + 81)) B hu_X2_exportAt_X2 rfl 2 (Nat.le_of_ble_eq_true rfl) hv_X2_exportAt_14 rfl hc0 rfl dX2_exportAt_1 ?_
  refine z_iload_n B dX2_exportAt_4 rfl 1 rfl ?_
  obtain ⟨n_1, h_1, b_1⟩ := in17 (k := 81) hI rfl
  replace b_1 : n_1 ≤ 12 := b_1
  have h_2 : Φ (x + 81) = some (o_ 6 [.ref (x + 82), .int (nI n_1)]) := h_1
  refine z_callV (As := [.int a]) (rest := []) B (s_X4_removeAt G l Φ sz x (ca) 81 a hx hI rfl) (cwV 1 B.1.2.2.2.2 gX2_exportAt_X4_removeAt rfl rfl rfl (by decide +kernel) ⟨Nat.le_of_ble_eq_true rfl, Nat.le_of_ble_eq_true rfl⟩) h_2 rfl rfl rfl rfl (Nat.le_of_ble_eq_true rfl) dX2_exportAt_5 ⟨Nat.le_of_ble_eq_true rfl, Nat.le_of_ble_eq_true rfl⟩ (fun r_1 Φ1 sz1 st1 hp1 hs1 => ?_)
  obtain ⟨⟨m_1, hm_1, rfl⟩, hq1, hI1, hF1⟩ := hp1
  subst sz1
  replace hs1 : st1 = [.ref (x + (81 + 2 + m_1))] := hs1
  subst st1
  replace hI1 : In G x (ca) Φ1 := hI1
  replace hm_1 : m_1 < 12 := hm_1
  refine z_astore_n (lv' := [(2, .ref (x + (81 + 2 + m_1))), (0, .ref (x + 80)), (1, .int a)]) B dX2_exportAt_8 rfl (Nat.le_of_ble_eq_true rfl) rfl ?_
  refine z_aload_n B dX2_exportAt_9 rfl 1 rfl ?_
  have h_3 : Φ1 (x + 80) = some (o_ 4 [.ref (x + 3), .ref (x + 74), .ref (x + 81), .ref (x + 95), .int nw, .int rt, .int dw, .int aq, .int xp, .int xb, .long ob, .long sm, .long un]) := ((hF1 (x + 80) fq_213).trans hc0)
  refine z_get (ref := "FlowExporter$Exporter") (C := RX2) (T := TX2) (N := 13) (ci := 4) (v := .ref (x + 3)) B hu_X2_exportAt_X2 rfl 0 (Nat.le_of_ble_eq_true rfl) hv_X2_exportAt_53 rfl h_3 rfl dX2_exportAt_10 ?_
  refine z_aload_n B dX2_exportAt_13 rfl 0 rfl ?_
  obtain ⟨v_1, v_2, v_3, v_4, v_5, h_4⟩ := in19 (k := 81 + 2 + m_1) hI1 (kd_f (kd_r rfl) hm_1)
  have h_5 : Φ1 (x + (81 + 2 + m_1)) = some (o_ 5 [.long v_1, .long v_2, .long v_3, .int v_4, .int v_5]) := h_4
  refine z_get (ref := "FlowExporter$Flow") (C := RX3) (T := TX3) (N := 5) (ci := 5) (v := .long v_1) B hu_X2_exportAt_X3 rfl 0 (Nat.le_of_ble_eq_true rfl) hv_X2_exportAt_129 rfl h_5 rfl dX2_exportAt_14 ?_
  refine z_iconst (v := 3) B dX2_exportAt_17 rfl ?_
  refine z_callS (As := [.long v_1, .int 3]) (rest := [.ref (x + 3)]) B (s_X3_partOf G l Φ1 sz x (ca) v_1 3 hx hI1 ) (va_cwS 2 B.1.2.2.2.2 gX2_exportAt_X3_partOf rfl rfl rfl (by decide +kernel) ⟨Nat.le_of_ble_eq_true rfl, Nat.le_of_ble_eq_true rfl⟩) rfl rfl (Nat.le_of_ble_eq_true rfl) dX2_exportAt_18 ⟨Nat.le_of_ble_eq_true rfl, Nat.le_of_ble_eq_true rfl⟩ (fun r_2 Φ2 sz2 st2 hp2 hs2 => ?_)
  obtain ⟨⟨v_6, rfl⟩, hq2, hI2, hF2⟩ := hp2
  subst sz2
  replace hs2 : st2 = [.int v_6, .ref (x + 3)] := hs2
  subst st2
  replace hI2 : In G x (ca) Φ2 := hI2
  obtain ⟨v_7, v_8, h_6⟩ := in3 (k := 3) hI2 rfl
  have h_7 : Φ2 (x + 3) = some (o_ 3 [.ref (x + 4), .ref (x + 5), .ref (x + 6), .ref (x + 7), .int v_7, .int v_8]) := h_6
  refine z_callV (As := [.int v_6]) (rest := []) B (s_X1_templateOf G l Φ2 sz x (ca) 3 v_6 hx hI2 rfl) (cwV 1 B.1.2.2.2.2 gX2_exportAt_X1_templateOf rfl rfl rfl (by decide +kernel) ⟨Nat.le_of_ble_eq_true rfl, Nat.le_of_ble_eq_true rfl⟩) h_7 rfl rfl rfl rfl (Nat.le_of_ble_eq_true rfl) dX2_exportAt_21 ⟨Nat.le_of_ble_eq_true rfl, Nat.le_of_ble_eq_true rfl⟩ (fun r_3 Φ3 sz3 st3 hp3 hs3 => ?_)
  obtain ⟨⟨v_9, rfl⟩, hq3, hI3, hF3⟩ := hp3
  subst sz3
  replace hs3 : st3 = [.int v_9] := hs3
  subst st3
  replace hI3 : In G x (ca) Φ3 := hI3
  refine z_istore_n (lv' := [(3, .int v_9), (2, .ref (x + (81 + 2 + m_1))), (0, .ref (x + 80)), (1, .int a)]) B dX2_exportAt_24 rfl (Nat.le_of_ble_eq_true rfl) rfl ?_
  refine z_aload_n B dX2_exportAt_25 rfl 2 rfl ?_
  refine z_dup B dX2_exportAt_26 rfl ?_
  have h_8 : Φ3 (x + 80) = some (o_ 4 [.ref (x + 3), .ref (x + 74), .ref (x + 81), .ref (x + 95), .int nw, .int rt, .int dw, .int aq, .int xp, .int xb, .long ob, .long sm, .long un]) := ((hF3 (x + 80) (fun j9 h8 h7 => (show False from h7).elim)).trans ((hF2 (x + 80) (fun j9 h8 h7 => (show False from h7).elim)).trans h_3))
  refine z_get (ref := "FlowExporter$Exporter") (C := RX2) (T := TX2) (N := 13) (ci := 4) (v := .int xp) B hu_X2_exportAt_X2 rfl 8 (Nat.le_of_ble_eq_true rfl) hv_X2_exportAt_37 rfl h_8 rfl dX2_exportAt_27 ?_
  refine z_iconst (v := 1) B dX2_exportAt_30 rfl ?_
  refine z_iadd B dX2_exportAt_31 ?_
  refine z_fi (fun v_10 => ?_)
  refine z_put (ref := "FlowExporter$Exporter") (C := RX2) (T := TX2) (N := 13) (ci := 4) (v := .int v_10) B hu_X2_exportAt_X2 tyX2 tyX2_ok nmX2 rfl 8 (Nat.le_of_ble_eq_true rfl) hv_X2_exportAt_37 rfl (Or.inl rfl) h_8 (Nat.le_trans hx (Nat.le_add_right x 80)) rfl rfl (Nat.le_of_ble_eq_true rfl) dX2_exportAt_32 (fun Φ4 hΦ1 => ?_)
  have h_9 : Φ4 (x + 80) = some (o_ 4 [.ref (x + 3), .ref (x + 74), .ref (x + 81), .ref (x + 95), .int nw, .int rt, .int dw, .int aq, .int v_10, .int xb, .long ob, .long sm, .long un]) := fset_at hΦ1
  have hI4 : In G x (ca) Φ4 := In.put (k := 80) hI3 hΦ1 (ok16 (k := 80) rfl ⟨nw, rt, dw, aq, v_10, xb, ob, sm, un, rfl, had⟩)
  refine z_aload_n B dX2_exportAt_35 rfl 2 rfl ?_
  refine z_get (ref := "FlowExporter$Exporter") (C := RX2) (T := TX2) (N := 13) (ci := 4) (v := .ref (x + 3)) B hu_X2_exportAt_X2 rfl 0 (Nat.le_of_ble_eq_true rfl) hv_X2_exportAt_53 rfl h_9 rfl dX2_exportAt_36 ?_
  refine z_iload_n B dX2_exportAt_39 rfl 0 rfl ?_
  have h_10 : Φ4 (x + 3) = some (o_ 3 [.ref (x + 4), .ref (x + 5), .ref (x + 6), .ref (x + 7), .int v_7, .int v_8]) := ((fset_fr hΦ1 (ne_off (x := x) (i := 3) (j := 80) rfl)).trans ((hF3 (x + 3) (fun j9 h8 h7 => (show False from h7).elim)).trans h_7))
  refine z_callV (As := [.int v_9]) (rest := []) B (s_X1_effective G l Φ4 sz x (ca) 3 v_9 hx hI4 rfl) (cwV 1 B.1.2.2.2.2 gX2_exportAt_X1_effective rfl rfl rfl (by decide +kernel) ⟨Nat.le_of_ble_eq_true rfl, Nat.le_of_ble_eq_true rfl⟩) h_10 rfl rfl rfl rfl (Nat.le_of_ble_eq_true rfl) dX2_exportAt_40 ⟨Nat.le_of_ble_eq_true rfl, Nat.le_of_ble_eq_true rfl⟩ (fun r_4 Φ5 sz4 st4 hp4 hs4 => ?_)
  obtain ⟨⟨m_2, hm_2, rfl⟩, hq4, hI5, hF4⟩ := hp4
  subst sz4
  replace hs4 : st4 = [.ref (x + (3 + 7 + 4 * m_2))] := hs4
  subst st4
  replace hI5 : In G x (ca) Φ5 := hI5
  replace hm_2 : m_2 < 4 := hm_2
  obtain ⟨n_2, v_11, v_12, h_11, b_2⟩ := in8 (k := 3 + 7 + 4 * m_2) hI5 (kd_e (kd_s rfl).2.2.2 hm_2)
  have h_12 : Φ5 (x + (3 + 7 + 4 * m_2)) = some (o_ 12 [.ref (x + (3 + 7 + 4 * m_2 + 1)), .int (nI n_2), .int v_11, .int v_12]) := h_11
  refine z_get (ref := "FlowExporter$Template") (C := RX10) (T := TX10) (N := 4) (ci := 12) (v := .int (nI n_2)) B hu_X2_exportAt_X10 rfl 1 (Nat.le_of_ble_eq_true rfl) hv_X2_exportAt_143 rfl h_12 rfl dX2_exportAt_43 ?_
  refine z_if_ne (tgt := 62) B dX2_exportAt_46 rfl (fun c_1 => ?_) (fun c_1 => ?_)
  · have e_1 : ¬ (n_2 = 0) := fun h9 => c_1 ((nI_eq (a := n_2) (b := 0) (by omega) (by omega)).mpr h9)
    refine z_aload_n B dX2_exportAt_62 rfl 2 rfl ?_
    have h_13 : Φ5 (x + 80) = some (o_ 4 [.ref (x + 3), .ref (x + 74), .ref (x + 81), .ref (x + 95), .int nw, .int rt, .int dw, .int aq, .int v_10, .int xb, .long ob, .long sm, .long un]) := ((hF4 (x + 80) (fun j9 h8 h7 => (show False from h7).elim)).trans h_9)
    refine z_get (ref := "FlowExporter$Exporter") (C := RX2) (T := TX2) (N := 13) (ci := 4) (v := .ref (x + 74)) B hu_X2_exportAt_X2 rfl 1 (Nat.le_of_ble_eq_true rfl) hv_X2_exportAt_57 rfl h_13 rfl dX2_exportAt_63 ?_
    refine z_aload_n B dX2_exportAt_66 rfl 1 rfl ?_
    refine z_iload_n B dX2_exportAt_67 rfl 0 rfl ?_
    refine z_aload_n B dX2_exportAt_68 rfl 2 rfl ?_
    refine z_get (ref := "FlowExporter$Exporter") (C := RX2) (T := TX2) (N := 13) (ci := 4) (v := .int rt) B hu_X2_exportAt_X2 rfl 5 (Nat.le_of_ble_eq_true rfl) hv_X2_exportAt_27 rfl h_13 rfl dX2_exportAt_69 ?_
    refine z_callS (As := [.int rt]) (rest := [.int v_9, .ref (x + (81 + 2 + m_1)), .ref (x + 74)]) B (s_X2_bitsOfInverse G l Φ5 sz x (ca) rt hx hI5 ) (va_cwS 1 B.1.2.2.2.2 gX2_exportAt_X2_bitsOfInverse rfl rfl rfl (by decide +kernel) ⟨Nat.le_of_ble_eq_true rfl, Nat.le_of_ble_eq_true rfl⟩) rfl rfl (Nat.le_of_ble_eq_true rfl) dX2_exportAt_72 ⟨Nat.le_of_ble_eq_true rfl, Nat.le_of_ble_eq_true rfl⟩ (fun r_5 Φ6 sz5 st5 hp5 hs5 => ?_)
    obtain ⟨⟨v_13, rfl⟩, hq5, hI6, hF5⟩ := hp5
    subst sz5
    replace hs5 : st5 = [.int v_13, .int v_9, .ref (x + (81 + 2 + m_1)), .ref (x + 74)] := hs5
    subst st5
    replace hI6 : In G x (ca) Φ6 := hI6
    obtain ⟨n_3, v_14, v_15, v_16, h_14, b_3⟩ := in13 (k := 74) hI6 rfl
    have h_15 : Φ6 (x + 74) = some (o_ 10 [.ref (x + 3), .ref (x + 46), .ref (x + 75), .ref (x + 77), .int (nI n_3), .ref (x + 78), .ref (x + 79), .int v_14, .long v_15, .int v_16]) := h_14
    refine z_callV (As := [.ref (x + (81 + 2 + m_1)), .int v_9, .int v_13]) (rest := []) B (s_X8_addRecord G l Φ6 sz x (ca) (81 + 2 + m_1) v_9 v_13 hx hI6 (kd_f (kd_r rfl) hm_1)) (cwV 3 B.1.2.2.2.2 gX2_exportAt_X8_addRecord rfl rfl rfl (by decide +kernel) ⟨Nat.le_of_ble_eq_true rfl, Nat.le_of_ble_eq_true rfl⟩) h_15 rfl rfl rfl rfl (Nat.le_of_ble_eq_true rfl) dX2_exportAt_75 ⟨Nat.le_of_ble_eq_true rfl, Nat.le_of_ble_eq_true rfl⟩ (fun r_6 Φ7 sz6 st6 hp6 hs6 => ?_)
    obtain ⟨rfl, hq6, hI7, hF6⟩ := hp6
    subst sz6
    replace hs6 : st6 = [] := hs6
    subst st6
    replace hI7 : In G x (ca) Φ7 := hI7
    have h_16 : Φ7 (x + 80) = some (o_ 4 [.ref (x + 3), .ref (x + 74), .ref (x + 81), .ref (x + 95), .int nw, .int rt, .int dw, .int aq, .int v_10, .int xb, .long ob, .long sm, .long un]) := ((hF6 (x + 80) fq_222).trans ((hF5 (x + 80) (fun j9 h8 h7 => (show False from h7).elim)).trans h_13))
    exact z_ret_v B dX2_exportAt_78 ⟨⟨rfl, v_10, un, h_16⟩, rfl, hI7, (fun b9 h9 => ((hF6 b9 (fun j9 h8 h7 => h9 j9 h8 (fq_224 j9 h7))).trans ((hF5 b9 (fun j9 h8 h7 => (show False from h7).elim)).trans ((hF4 b9 (fun j9 h8 h7 => (show False from h7).elim)).trans ((fset_fr hΦ1 (fun h8 => h9 (80) h8 (show 74 ≤ 80 ∧ 80 < 95 by decide))).trans ((hF3 b9 (fun j9 h8 h7 => (show False from h7).elim)).trans ((hF2 b9 (fun j9 h8 h7 => (show False from h7).elim)).trans ((hF1 b9 (fun j9 h8 h7 => h9 j9 h8 (fq_223 j9 h7))).trans rfl))))))))⟩
  · have e_2 : n_2 = 0 := (nI_eq (a := n_2) (b := 0) (by omega) (by omega)).mp c_1
    refine z_aload_n B dX2_exportAt_49 rfl 2 rfl ?_
    refine z_dup B dX2_exportAt_50 rfl ?_
    have h_17 : Φ5 (x + 80) = some (o_ 4 [.ref (x + 3), .ref (x + 74), .ref (x + 81), .ref (x + 95), .int nw, .int rt, .int dw, .int aq, .int v_10, .int xb, .long ob, .long sm, .long un]) := ((hF4 (x + 80) (fun j9 h8 h7 => (show False from h7).elim)).trans h_9)
    refine z_get (ref := "FlowExporter$Exporter") (C := RX2) (T := TX2) (N := 13) (ci := 4) (v := .long un) B hu_X2_exportAt_X2 rfl 12 (Nat.le_of_ble_eq_true rfl) hv_X2_exportAt_50 rfl h_17 rfl dX2_exportAt_51 ?_
    refine z_lconst (v := 1) B dX2_exportAt_54 rfl ?_
    refine z_ladd B dX2_exportAt_55 ?_
    refine z_fl (fun v_17 => ?_)
    refine z_put (ref := "FlowExporter$Exporter") (C := RX2) (T := TX2) (N := 13) (ci := 4) (v := .long v_17) B hu_X2_exportAt_X2 tyX2 tyX2_ok nmX2 rfl 12 (Nat.le_of_ble_eq_true rfl) hv_X2_exportAt_50 rfl (Or.inl rfl) h_17 (Nat.le_trans hx (Nat.le_add_right x 80)) rfl rfl (Nat.le_of_ble_eq_true rfl) dX2_exportAt_56 (fun Φ8 hΦ2 => ?_)
    have h_18 : Φ8 (x + 80) = some (o_ 4 [.ref (x + 3), .ref (x + 74), .ref (x + 81), .ref (x + 95), .int nw, .int rt, .int dw, .int aq, .int v_10, .int xb, .long ob, .long sm, .long v_17]) := fset_at hΦ2
    have hI8 : In G x (ca) Φ8 := In.put (k := 80) hI5 hΦ2 (ok16 (k := 80) rfl ⟨nw, rt, dw, aq, v_10, xb, ob, sm, v_17, rfl, had⟩)
    refine z_goto (tgt := 78) B dX2_exportAt_59 rfl ?_
    exact z_ret_v B dX2_exportAt_78 ⟨⟨rfl, v_10, v_17, h_18⟩, rfl, hI8, (fun b9 h9 => ((fset_fr hΦ2 (fun h8 => h9 (80) h8 (show 74 ≤ 80 ∧ 80 < 95 by decide))).trans ((hF4 b9 (fun j9 h8 h7 => (show False from h7).elim)).trans ((fset_fr hΦ1 (fun h8 => h9 (80) h8 (show 74 ≤ 80 ∧ 80 < 95 by decide))).trans ((hF3 b9 (fun j9 h8 h7 => (show False from h7).elim)).trans ((hF2 b9 (fun j9 h8 h7 => (show False from h7).elim)).trans ((hF1 b9 (fun j9 h8 h7 => h9 j9 h8 (fq_223 j9 h7))).trans rfl)))))))⟩

theorem hu_X2_addToFlow_X2 : ∀ w ∈ u_ws RX2 TX2 13, w ∈ wsX2_addToFlow := fun _ h => List.mem_cons_of_mem _ (List.mem_append_left _ (List.mem_append_left _ (List.mem_append_left _ (List.mem_append_left _ (List.mem_append_left _ (List.mem_append_left _ (List.mem_append_left _ (List.mem_append_left _ (List.mem_append_right _ (h))))))))))

theorem hv_X2_addToFlow_14 : Cond.fieldLink RX2 14 "FlowExporter$Exporter" (TX2 2).2.1 (TX2 2).2.2.1 ∈ wsX2_addToFlow := List.mem_cons_of_mem _ (List.mem_append_left _ (List.mem_append_left _ (List.mem_append_left _ (List.mem_append_left _ (List.mem_append_left _ (List.mem_append_left _ (List.mem_append_left _ (List.mem_append_left _ (List.mem_append_left _ (List.mem_append_left _ (List.mem_of_getElem? (i := 0) rfl)))))))))))

theorem hu_X2_addToFlow_X3 : ∀ w ∈ u_ws RX3 TX3 5, w ∈ wsX2_addToFlow := fun _ h => List.mem_cons_of_mem _ (List.mem_append_left _ (List.mem_append_left _ (List.mem_append_left _ (List.mem_append_left _ (List.mem_append_left _ (List.mem_append_left _ (List.mem_append_left _ (List.mem_append_right _ (h)))))))))

theorem hv_X2_addToFlow_102 : Cond.fieldLink RX2 102 "FlowExporter$Flow" (TX3 1).2.1 (TX3 1).2.2.1 ∈ wsX2_addToFlow := List.mem_cons_of_mem _ (List.mem_append_left _ (List.mem_append_left _ (List.mem_append_left _ (List.mem_append_left _ (List.mem_append_left _ (List.mem_append_left _ (List.mem_append_left _ (List.mem_append_left _ (List.mem_append_left _ (List.mem_append_left _ (List.mem_of_getElem? (i := 2) rfl)))))))))))

theorem hv_X2_addToFlow_107 : Cond.fieldLink RX2 107 "FlowExporter$Flow" (TX3 2).2.1 (TX3 2).2.2.1 ∈ wsX2_addToFlow := List.mem_cons_of_mem _ (List.mem_append_left _ (List.mem_append_left _ (List.mem_append_left _ (List.mem_append_left _ (List.mem_append_left _ (List.mem_append_left _ (List.mem_append_left _ (List.mem_append_left _ (List.mem_append_left _ (List.mem_append_left _ (List.mem_of_getElem? (i := 3) rfl)))))))))))

theorem hv_X2_addToFlow_23 : Cond.fieldLink RX2 23 "FlowExporter$Exporter" (TX2 4).2.1 (TX2 4).2.2.1 ∈ wsX2_addToFlow := List.mem_cons_of_mem _ (List.mem_append_left _ (List.mem_append_left _ (List.mem_append_left _ (List.mem_append_left _ (List.mem_append_left _ (List.mem_append_left _ (List.mem_append_left _ (List.mem_append_left _ (List.mem_append_left _ (List.mem_append_left _ (List.mem_of_getElem? (i := 1) rfl)))))))))))

theorem hv_X2_addToFlow_123 : Cond.fieldLink RX2 123 "FlowExporter$Flow" (TX3 4).2.1 (TX3 4).2.2.1 ∈ wsX2_addToFlow := List.mem_cons_of_mem _ (List.mem_append_left _ (List.mem_append_left _ (List.mem_append_left _ (List.mem_append_left _ (List.mem_append_left _ (List.mem_append_left _ (List.mem_append_left _ (List.mem_append_left _ (List.mem_append_left _ (List.mem_append_left _ (List.mem_of_getElem? (i := 4) rfl)))))))))))

theorem fq_233 {x : Nat} : ∀ j9 : Nat, x + 80 = x + j9 → (81 ≤ j9 ∧ j9 < 81 + 2 + 12) → False := by
  intro j9 h1 h2
  omega

theorem fq_234 : ∀ j9 : Nat, (81 ≤ j9 ∧ j9 < 81 + 2 + 12) → (74 ≤ j9 ∧ j9 < 95) := by
  intro j9 h
  omega

set_option maxRecDepth 20000 in
theorem ggX12_knownTemplates_X12_isKnown : GoodIn wsX12_knownTemplates wsX12_isKnown := goodIn_ca ((goodIn_ca (goodIn_r _ [6, 7, 8, 9, 10] rfl (by decide +kernel)) (goodIn_sub (fun _ h => List.mem_cons_of_mem _ (List.mem_append_left _ (List.mem_append_right _ h))) gw_wsX120))) (goodIn_sub (fun _ h => List.mem_cons_of_mem _ (List.mem_append_right _ h)) (all_fg _))
set_option maxRecDepth 20000 in
theorem gX12_knownTemplates_X12_isKnown : GoodIn wsX12_knownTemplates (wsV RX12 334 RX12 yX12_isKnown wsX12_isKnown) := goodIn_app (goodIn_m (mem_cA (List.mem_cons_of_mem _ (List.mem_append_left _ (List.mem_append_left _ (List.mem_of_getElem? (i := 1) rfl)))) (mem_cA (List.mem_cons_of_mem _ (List.mem_append_left _ (List.mem_append_left _ (List.mem_of_getElem? (i := 2) rfl)))) (mem_cA (List.mem_cons_of_mem _ (List.mem_append_left _ (List.mem_append_left _ (List.mem_of_getElem? (i := 3) rfl)))) (mem_cA (List.mem_cons_of_mem _ (List.mem_append_left _ (List.mem_append_left _ (List.mem_of_getElem? (i := 4) rfl)))) mem_cZ)))) (by decide +kernel)) ggX12_knownTemplates_X12_isKnown
theorem dX12_knownTemplates_0 : decode cX12_knownTemplates 0 = .ok (.aload_n 0, 1) := by decide +kernel
theorem dX12_knownTemplates_1 : decode cX12_knownTemplates 1 = .ok (.iconst 0, 1) := by decide +kernel
theorem dX12_knownTemplates_2 : decode cX12_knownTemplates 2 = .ok (.putfield 1, 3) := by decide +kernel
theorem dX12_knownTemplates_5 : decode cX12_knownTemplates 5 = .ok (.iconst 0, 1) := by decide +kernel
theorem dX12_knownTemplates_6 : decode cX12_knownTemplates 6 = .ok (.istore_n 1, 1) := by decide +kernel
theorem dX12_knownTemplates_7 : decode cX12_knownTemplates 7 = .ok (.iconst 0, 1) := by decide +kernel
theorem dX12_knownTemplates_8 : decode cX12_knownTemplates 8 = .ok (.istore_n 2, 1) := by decide +kernel
theorem dX12_knownTemplates_9 : decode cX12_knownTemplates 9 = .ok (.iload_n 2, 1) := by decide +kernel
theorem dX12_knownTemplates_10 : decode cX12_knownTemplates 10 = .ok (.iconst 4, 1) := by decide +kernel
theorem dX12_knownTemplates_11 : decode cX12_knownTemplates 11 = .ok (.if_icmp .ge 27, 3) := by decide +kernel
theorem dX12_knownTemplates_14 : decode cX12_knownTemplates 14 = .ok (.iload_n 1, 1) := by decide +kernel
theorem dX12_knownTemplates_15 : decode cX12_knownTemplates 15 = .ok (.aload_n 0, 1) := by decide +kernel
theorem dX12_knownTemplates_16 : decode cX12_knownTemplates 16 = .ok (.iload_n 2, 1) := by decide +kernel
theorem dX12_knownTemplates_17 : decode cX12_knownTemplates 17 = .ok (.invokevirtual 334, 3) := by decide +kernel
theorem dX12_knownTemplates_20 : decode cX12_knownTemplates 20 = .ok (.ifCond .eq 9, 3) := by decide +kernel
theorem dX12_knownTemplates_23 : decode cX12_knownTemplates 23 = .ok (.iconst 1, 1) := by decide +kernel
theorem dX12_knownTemplates_24 : decode cX12_knownTemplates 24 = .ok (.iload_n 2, 1) := by decide +kernel
theorem dX12_knownTemplates_25 : decode cX12_knownTemplates 25 = .ok (.ishl, 1) := by decide +kernel
theorem dX12_knownTemplates_26 : decode cX12_knownTemplates 26 = .ok (.goto 4, 3) := by decide +kernel
theorem dX12_knownTemplates_29 : decode cX12_knownTemplates 29 = .ok (.iconst 0, 1) := by decide +kernel
theorem dX12_knownTemplates_30 : decode cX12_knownTemplates 30 = .ok (.ior, 1) := by decide +kernel
theorem dX12_knownTemplates_31 : decode cX12_knownTemplates 31 = .ok (.istore_n 1, 1) := by decide +kernel
theorem dX12_knownTemplates_32 : decode cX12_knownTemplates 32 = .ok (.iinc 2 1, 3) := by decide +kernel
theorem dX12_knownTemplates_35 : decode cX12_knownTemplates 35 = .ok (.goto (-26), 3) := by decide +kernel
theorem dX12_knownTemplates_38 : decode cX12_knownTemplates 38 = .ok (.iload_n 1, 1) := by decide +kernel
theorem dX12_knownTemplates_39 : decode cX12_knownTemplates 39 = .ok (.ireturn, 1) := by decide +kernel
set_option maxRecDepth 20000 in
theorem ggX12_templateAge_X12_inRange : GoodIn wsX12_templateAge wsX12_inRange := (goodIn_r _ [9] rfl (by decide +kernel))
set_option maxRecDepth 20000 in
theorem gX12_templateAge_X12_inRange : GoodIn wsX12_templateAge (va_wsS RX12 169 yX12_inRange wsX12_inRange) := goodIn_app (goodIn_m (mem_cA (List.mem_cons_of_mem _ (List.mem_append_left _ (List.mem_append_left _ (List.mem_of_getElem? (i := 5) rfl)))) (mem_cA (List.mem_cons_of_mem _ (List.mem_append_left _ (List.mem_append_left _ (List.mem_of_getElem? (i := 6) rfl)))) (mem_cA (List.mem_cons_of_mem _ (List.mem_append_left _ (List.mem_append_left _ (List.mem_of_getElem? (i := 7) rfl)))) mem_cZ))) (by decide +kernel)) ggX12_templateAge_X12_inRange
set_option maxRecDepth 20000 in
theorem ggX12_templateAge_X12_throwsIf : GoodIn wsX12_templateAge wsX12_throwsIf := (goodIn_ca (goodIn_r _ [13, 1] rfl (by decide +kernel)) (goodIn_sub (fun _ h => List.mem_cons_of_mem _ (List.mem_append_left _ (List.mem_append_right _ h))) gw_wsX120))
set_option maxRecDepth 20000 in
theorem gX12_templateAge_X12_throwsIf : GoodIn wsX12_templateAge (wsV RX12 185 RX12 yX12_throwsIf wsX12_throwsIf) := goodIn_app (goodIn_m (mem_cA (List.mem_cons_of_mem _ (List.mem_append_left _ (List.mem_append_left _ (List.mem_of_getElem? (i := 9) rfl)))) (mem_cA (List.mem_cons_of_mem _ (List.mem_append_left _ (List.mem_append_left _ (List.mem_of_getElem? (i := 10) rfl)))) (mem_cA (List.mem_cons_of_mem _ (List.mem_append_left _ (List.mem_append_left _ (List.mem_of_getElem? (i := 11) rfl)))) (mem_cA (List.mem_cons_of_mem _ (List.mem_append_left _ (List.mem_append_left _ (List.mem_of_getElem? (i := 7) rfl)))) mem_cZ)))) (by decide +kernel)) ggX12_templateAge_X12_throwsIf
theorem dX12_templateAge_0 : decode cX12_templateAge 0 = .ok (.aload_n 0, 1) := by decide +kernel
theorem dX12_templateAge_1 : decode cX12_templateAge 1 = .ok (.iconst 0, 1) := by decide +kernel
theorem dX12_templateAge_2 : decode cX12_templateAge 2 = .ok (.putfield 1, 3) := by decide +kernel
theorem dX12_templateAge_5 : decode cX12_templateAge 5 = .ok (.aload_n 0, 1) := by decide +kernel
theorem dX12_templateAge_6 : decode cX12_templateAge 6 = .ok (.iload_n 1, 1) := by decide +kernel
theorem dX12_templateAge_7 : decode cX12_templateAge 7 = .ok (.i2l, 1) := by decide +kernel
theorem dX12_templateAge_8 : decode cX12_templateAge 8 = .ok (.lconst 0, 1) := by decide +kernel
theorem dX12_templateAge_9 : decode cX12_templateAge 9 = .ok (.ldc2_w 337, 3) := by decide +kernel
theorem dX12_templateAge_12 : decode cX12_templateAge 12 = .ok (.invokestatic 169, 3) := by decide +kernel
theorem dX12_templateAge_15 : decode cX12_templateAge 15 = .ok (.ifCond .ne 7, 3) := by decide +kernel
theorem dX12_templateAge_18 : decode cX12_templateAge 18 = .ok (.iconst 1, 1) := by decide +kernel
theorem dX12_templateAge_19 : decode cX12_templateAge 19 = .ok (.goto 4, 3) := by decide +kernel
theorem dX12_templateAge_22 : decode cX12_templateAge 22 = .ok (.iconst 0, 1) := by decide +kernel
theorem dX12_templateAge_23 : decode cX12_templateAge 23 = .ok (.iconst 1, 1) := by decide +kernel
theorem dX12_templateAge_24 : decode cX12_templateAge 24 = .ok (.invokevirtual 185, 3) := by decide +kernel
theorem dX12_templateAge_27 : decode cX12_templateAge 27 = .ok (.ifCond .eq 5, 3) := by decide +kernel
theorem dX12_templateAge_30 : decode cX12_templateAge 30 = .ok (.iconst 0, 1) := by decide +kernel
theorem dX12_templateAge_31 : decode cX12_templateAge 31 = .ok (.ireturn, 1) := by decide +kernel
theorem dX12_templateAge_32 : decode cX12_templateAge 32 = .ok (.aload_n 0, 1) := by decide +kernel
theorem dX12_templateAge_33 : decode cX12_templateAge 33 = .ok (.getfield 48, 3) := by decide +kernel
theorem dX12_templateAge_36 : decode cX12_templateAge 36 = .ok (.iload_n 1, 1) := by decide +kernel
theorem dX12_templateAge_37 : decode cX12_templateAge 37 = .ok (.iaload, 1) := by decide +kernel
theorem dX12_templateAge_38 : decode cX12_templateAge 38 = .ok (.ifCond .le 17, 3) := by decide +kernel
theorem dX12_templateAge_41 : decode cX12_templateAge 41 = .ok (.aload_n 0, 1) := by decide +kernel
theorem dX12_templateAge_42 : decode cX12_templateAge 42 = .ok (.getfield 101, 3) := by decide +kernel
theorem dX12_templateAge_45 : decode cX12_templateAge 45 = .ok (.aload_n 0, 1) := by decide +kernel
theorem dX12_templateAge_46 : decode cX12_templateAge 46 = .ok (.getfield 54, 3) := by decide +kernel
theorem dX12_templateAge_49 : decode cX12_templateAge 49 = .ok (.iload_n 1, 1) := by decide +kernel
theorem dX12_templateAge_50 : decode cX12_templateAge 50 = .ok (.iaload, 1) := by decide +kernel
theorem dX12_templateAge_51 : decode cX12_templateAge 51 = .ok (.isub, 1) := by decide +kernel
theorem dX12_templateAge_52 : decode cX12_templateAge 52 = .ok (.goto 4, 3) := by decide +kernel
theorem dX12_templateAge_55 : decode cX12_templateAge 55 = .ok (.iconst (-1), 1) := by decide +kernel
theorem dX12_templateAge_56 : decode cX12_templateAge 56 = .ok (.ireturn, 1) := by decide +kernel
set_option maxRecDepth 20000 in
theorem ggX12_counter_X12_inRange : GoodIn wsX12_counter wsX12_inRange := (goodIn_r _ [7] rfl (by decide +kernel))
set_option maxRecDepth 20000 in
theorem gX12_counter_X12_inRange : GoodIn wsX12_counter (va_wsS RX12 169 yX12_inRange wsX12_inRange) := goodIn_app (goodIn_m (mem_cA (List.mem_cons_of_mem _ (List.mem_append_left _ (List.mem_append_left _ (List.mem_of_getElem? (i := 3) rfl)))) (mem_cA (List.mem_cons_of_mem _ (List.mem_append_left _ (List.mem_append_left _ (List.mem_of_getElem? (i := 4) rfl)))) (mem_cA (List.mem_cons_of_mem _ (List.mem_append_left _ (List.mem_append_left _ (List.mem_of_getElem? (i := 5) rfl)))) mem_cZ))) (by decide +kernel)) ggX12_counter_X12_inRange
set_option maxRecDepth 20000 in
theorem ggX12_counter_X12_throwsIf : GoodIn wsX12_counter wsX12_throwsIf := (goodIn_ca (goodIn_r _ [11, 1] rfl (by decide +kernel)) (goodIn_sub (fun _ h => List.mem_cons_of_mem _ (List.mem_append_left _ (List.mem_append_right _ h))) gw_wsX120))
set_option maxRecDepth 20000 in
theorem gX12_counter_X12_throwsIf : GoodIn wsX12_counter (wsV RX12 185 RX12 yX12_throwsIf wsX12_throwsIf) := goodIn_app (goodIn_m (mem_cA (List.mem_cons_of_mem _ (List.mem_append_left _ (List.mem_append_left _ (List.mem_of_getElem? (i := 7) rfl)))) (mem_cA (List.mem_cons_of_mem _ (List.mem_append_left _ (List.mem_append_left _ (List.mem_of_getElem? (i := 8) rfl)))) (mem_cA (List.mem_cons_of_mem _ (List.mem_append_left _ (List.mem_append_left _ (List.mem_of_getElem? (i := 9) rfl)))) (mem_cA (List.mem_cons_of_mem _ (List.mem_append_left _ (List.mem_append_left _ (List.mem_of_getElem? (i := 5) rfl)))) mem_cZ)))) (by decide +kernel)) ggX12_counter_X12_throwsIf
theorem dX12_counter_0 : decode cX12_counter 0 = .ok (.aload_n 0, 1) := by decide +kernel
theorem dX12_counter_1 : decode cX12_counter 1 = .ok (.iconst 0, 1) := by decide +kernel
theorem dX12_counter_2 : decode cX12_counter 2 = .ok (.putfield 1, 3) := by decide +kernel
theorem dX12_counter_5 : decode cX12_counter 5 = .ok (.aload_n 0, 1) := by decide +kernel
theorem dX12_counter_6 : decode cX12_counter 6 = .ok (.iload_n 1, 1) := by decide +kernel
theorem dX12_counter_7 : decode cX12_counter 7 = .ok (.i2l, 1) := by decide +kernel
theorem dX12_counter_8 : decode cX12_counter 8 = .ok (.lconst 0, 1) := by decide +kernel
theorem dX12_counter_9 : decode cX12_counter 9 = .ok (.ldc2_w 204, 3) := by decide +kernel
theorem dX12_counter_12 : decode cX12_counter 12 = .ok (.invokestatic 169, 3) := by decide +kernel
theorem dX12_counter_15 : decode cX12_counter 15 = .ok (.ifCond .ne 7, 3) := by decide +kernel
theorem dX12_counter_18 : decode cX12_counter 18 = .ok (.iconst 1, 1) := by decide +kernel
theorem dX12_counter_19 : decode cX12_counter 19 = .ok (.goto 4, 3) := by decide +kernel
theorem dX12_counter_22 : decode cX12_counter 22 = .ok (.iconst 0, 1) := by decide +kernel
theorem dX12_counter_23 : decode cX12_counter 23 = .ok (.iconst 1, 1) := by decide +kernel
theorem dX12_counter_24 : decode cX12_counter 24 = .ok (.invokevirtual 185, 3) := by decide +kernel
theorem dX12_counter_27 : decode cX12_counter 27 = .ok (.ifCond .eq 7, 3) := by decide +kernel
theorem dX12_counter_30 : decode cX12_counter 30 = .ok (.lconst 0, 1) := by decide +kernel
theorem dX12_counter_31 : decode cX12_counter 31 = .ok (.goto 9, 3) := by decide +kernel
theorem dX12_counter_34 : decode cX12_counter 34 = .ok (.aload_n 0, 1) := by decide +kernel
theorem dX12_counter_35 : decode cX12_counter 35 = .ok (.getfield 45, 3) := by decide +kernel
theorem dX12_counter_38 : decode cX12_counter 38 = .ok (.iload_n 1, 1) := by decide +kernel
theorem dX12_counter_39 : decode cX12_counter 39 = .ok (.laload, 1) := by decide +kernel
theorem dX12_counter_40 : decode cX12_counter 40 = .ok (.lreturn, 1) := by decide +kernel
set_option maxRecDepth 20000 in
theorem ggX12_lossRate_X12_throwsIf : GoodIn wsX12_lossRate wsX12_throwsIf := (goodIn_ca (goodIn_r _ [7, 1] rfl (by decide +kernel)) (goodIn_sub (fun _ h => List.mem_cons_of_mem _ (List.mem_append_left _ (List.mem_append_right _ h))) gw_wsX120))
set_option maxRecDepth 20000 in
theorem gX12_lossRate_X12_throwsIf : GoodIn wsX12_lossRate (wsV RX12 185 RX12 yX12_throwsIf wsX12_throwsIf) := goodIn_app (goodIn_m (mem_cA (List.mem_cons_of_mem _ (List.mem_append_left _ (List.mem_append_left _ (List.mem_of_getElem? (i := 2) rfl)))) (mem_cA (List.mem_cons_of_mem _ (List.mem_append_left _ (List.mem_append_left _ (List.mem_of_getElem? (i := 3) rfl)))) (mem_cA (List.mem_cons_of_mem _ (List.mem_append_left _ (List.mem_append_left _ (List.mem_of_getElem? (i := 4) rfl)))) (mem_cA (List.mem_cons_of_mem _ (List.mem_append_left _ (List.mem_append_left _ (List.mem_of_getElem? (i := 5) rfl)))) mem_cZ)))) (by decide +kernel)) ggX12_lossRate_X12_throwsIf
theorem dX12_lossRate_0 : decode cX12_lossRate 0 = .ok (.aload_n 0, 1) := by decide +kernel
theorem dX12_lossRate_1 : decode cX12_lossRate 1 = .ok (.iconst 0, 1) := by decide +kernel
theorem dX12_lossRate_2 : decode cX12_lossRate 2 = .ok (.putfield 1, 3) := by decide +kernel
theorem dX12_lossRate_5 : decode cX12_lossRate 5 = .ok (.aload_n 0, 1) := by decide +kernel
theorem dX12_lossRate_6 : decode cX12_lossRate 6 = .ok (.getfield 45, 3) := by decide +kernel
theorem dX12_lossRate_9 : decode cX12_lossRate 9 = .ok (.iconst 0, 1) := by decide +kernel
theorem dX12_lossRate_10 : decode cX12_lossRate 10 = .ok (.laload, 1) := by decide +kernel
theorem dX12_lossRate_11 : decode cX12_lossRate 11 = .ok (.aload_n 0, 1) := by decide +kernel
theorem dX12_lossRate_12 : decode cX12_lossRate 12 = .ok (.getfield 45, 3) := by decide +kernel
theorem dX12_lossRate_15 : decode cX12_lossRate 15 = .ok (.bipush 7, 2) := by decide +kernel
theorem dX12_lossRate_17 : decode cX12_lossRate 17 = .ok (.laload, 1) := by decide +kernel
theorem dX12_lossRate_18 : decode cX12_lossRate 18 = .ok (.ladd, 1) := by decide +kernel
theorem dX12_lossRate_19 : decode cX12_lossRate 19 = .ok (.lstore_n 1, 1) := by decide +kernel
theorem dX12_lossRate_20 : decode cX12_lossRate 20 = .ok (.aload_n 0, 1) := by decide +kernel
theorem dX12_lossRate_21 : decode cX12_lossRate 21 = .ok (.lload_n 1, 1) := by decide +kernel
theorem dX12_lossRate_22 : decode cX12_lossRate 22 = .ok (.lconst 0, 1) := by decide +kernel
theorem dX12_lossRate_23 : decode cX12_lossRate 23 = .ok (.lcmp, 1) := by decide +kernel
theorem dX12_lossRate_24 : decode cX12_lossRate 24 = .ok (.ifCond .ne 7, 3) := by decide +kernel
theorem dX12_lossRate_27 : decode cX12_lossRate 27 = .ok (.iconst 1, 1) := by decide +kernel
theorem dX12_lossRate_28 : decode cX12_lossRate 28 = .ok (.goto 4, 3) := by decide +kernel
theorem dX12_lossRate_31 : decode cX12_lossRate 31 = .ok (.iconst 0, 1) := by decide +kernel
theorem dX12_lossRate_32 : decode cX12_lossRate 32 = .ok (.iconst 1, 1) := by decide +kernel
theorem dX12_lossRate_33 : decode cX12_lossRate 33 = .ok (.invokevirtual 185, 3) := by decide +kernel
theorem dX12_lossRate_36 : decode cX12_lossRate 36 = .ok (.ifCond .eq 7, 3) := by decide +kernel
theorem dX12_lossRate_39 : decode cX12_lossRate 39 = .ok (.dconst 0, 1) := by decide +kernel
theorem dX12_lossRate_40 : decode cX12_lossRate 40 = .ok (.goto 13, 3) := by decide +kernel
theorem dX12_lossRate_43 : decode cX12_lossRate 43 = .ok (.aload_n 0, 1) := by decide +kernel
theorem dX12_lossRate_44 : decode cX12_lossRate 44 = .ok (.getfield 45, 3) := by decide +kernel
theorem dX12_lossRate_47 : decode cX12_lossRate 47 = .ok (.iconst 0, 1) := by decide +kernel
theorem dX12_lossRate_48 : decode cX12_lossRate 48 = .ok (.laload, 1) := by decide +kernel
theorem dX12_lossRate_49 : decode cX12_lossRate 49 = .ok (.l2d, 1) := by decide +kernel
theorem dX12_lossRate_50 : decode cX12_lossRate 50 = .ok (.lload_n 1, 1) := by decide +kernel
theorem dX12_lossRate_51 : decode cX12_lossRate 51 = .ok (.l2d, 1) := by decide +kernel
theorem dX12_lossRate_52 : decode cX12_lossRate 52 = .ok (.ddiv, 1) := by decide +kernel
theorem dX12_lossRate_53 : decode cX12_lossRate 53 = .ok (.dreturn, 1) := by decide +kernel
theorem dX12_get_0 : decode cX12_get 0 = .ok (.lconst 0, 1) := by decide +kernel
theorem dX12_get_1 : decode cX12_get 1 = .ok (.lstore_n 3, 1) := by decide +kernel
theorem dX12_get_2 : decode cX12_get 2 = .ok (.iload_n 1, 1) := by decide +kernel
theorem dX12_get_3 : decode cX12_get 3 = .ok (.istore 5, 2) := by decide +kernel
theorem dX12_get_5 : decode cX12_get 5 = .ok (.iload 5, 2) := by decide +kernel
theorem dX12_get_7 : decode cX12_get 7 = .ok (.iload_n 1, 1) := by decide +kernel
theorem dX12_get_8 : decode cX12_get 8 = .ok (.iload_n 2, 1) := by decide +kernel
theorem dX12_get_9 : decode cX12_get 9 = .ok (.iadd, 1) := by decide +kernel
theorem dX12_get_10 : decode cX12_get 10 = .ok (.if_icmp .ge 23, 3) := by decide +kernel
theorem dX12_get_13 : decode cX12_get 13 = .ok (.lload_n 3, 1) := by decide +kernel
theorem dX12_get_14 : decode cX12_get 14 = .ok (.bipush 8, 2) := by decide +kernel
theorem dX12_get_16 : decode cX12_get 16 = .ok (.lshl, 1) := by decide +kernel
theorem dX12_get_17 : decode cX12_get 17 = .ok (.aload_n 0, 1) := by decide +kernel
theorem dX12_get_18 : decode cX12_get 18 = .ok (.getfield 36, 3) := by decide +kernel
theorem dX12_get_21 : decode cX12_get 21 = .ok (.iload 5, 2) := by decide +kernel
theorem dX12_get_23 : decode cX12_get 23 = .ok (.iaload, 1) := by decide +kernel
theorem dX12_get_24 : decode cX12_get 24 = .ok (.i2l, 1) := by decide +kernel
theorem dX12_get_25 : decode cX12_get 25 = .ok (.lor, 1) := by decide +kernel
theorem dX12_get_26 : decode cX12_get 26 = .ok (.lstore_n 3, 1) := by decide +kernel
theorem dX12_get_27 : decode cX12_get 27 = .ok (.iinc 5 1, 3) := by decide +kernel
theorem dX12_get_30 : decode cX12_get 30 = .ok (.goto (-25), 3) := by decide +kernel
theorem dX12_get_33 : decode cX12_get 33 = .ok (.lload_n 3, 1) := by decide +kernel
theorem dX12_get_34 : decode cX12_get 34 = .ok (.lreturn, 1) := by decide +kernel
set_option maxHeartbeats 4000000 in
set_option maxRecDepth 100000 in
theorem r_knownTemplates (G : EnvG) (l : Launch) (Φ : Hm) (sz x : Nat) (rd : (Nat → Int32) → Prop) (nw : (Nat → Int32) → Prop) (cr : (Nat → Int64) → Prop) (tp : (Nat → Int32) → Prop) (tt : (Nat → Int64) → Prop) (fl : Nat) (pe : Nat) (le : Nat) (nx : Nat) (il : Nat) (qu : Nat) (kn : Int32) (ec : Int32) (nu : Int32) (va : Int64) (st : Nat) (ep : Int32) (ti : Int32) (ad : Int32) (ob : Int64) (ra : Int32) (rt : Nat) (ex : Int32) (sa : Int64) (us : Int64) (tk : Nat) (th : Int32)  (hx : G.2.2.2 ≤ x) (hI : Im G x (rd, nw, cr, tp, tt, fl, pe, le, nx, il, qu, kn, ec, nu, va, st, ep, ti, ad, ob, ra, rt, ex, sa, us, tk, th) Φ) (hnw : ∀ f9 : Nat → Int32, nw f9 → NN f9) : Ct G l yX12_knownTemplates wsX12_knownTemplates ({ frames := 1, cells := 0, slots := 0, locals := 21 }) 0 0 [.ref x] Φ sz (fun v Φ1 sz1 => (∃ r9 : Int32, v = some (.int r9)) ∧ sz1 = sz ∧ (∃ (th1 : Int32), Im G x (rd, nw, cr, tp, tt, fl, pe, le, nx, il, qu, kn, ec, nu, va, st, ep, ti, ad, ob, ra, rt, ex, sa, us, tk, th1) Φ1) ∧ Fr x (fun j9 => j9 = 0) Φ Φ1) := by
  refine Ct.of (cc := cX12_knownTemplates) (maxL := 3) (ret := (some .int)) (by decide) rfl (Nat.le_of_ble_eq_true rfl) ?_
  intro p9 e9 s9 m9 w9 t9 k9 B
  show Z p9 l e9 _ s9 m9 _ w9 t9 k9 _ G 3 0 [(0, .ref x)] [] Φ sz 0 0
  refine z_aload_n B dX12_knownTemplates_0 rfl 0 rfl ?_
  refine z_iconst (v := 0) B dX12_knownTemplates_1 rfl ?_
  obtain ⟨v_1, v_2, v_3, v_4, n_1, v_5, n_2, h_1, b_13, b_1, b_2, b_3, b_4, b_5, b_6, b_7, b_8, b_9, b_10, b_11, b_12⟩ := im0 hI
  replace b_1 : 1 ≤ rt := b_1
  replace b_2 : rt ≤ 1024 := b_2
  replace b_3 : fl ≤ 12 := b_3
  replace b_4 : pe ≤ 24 := b_4
  replace b_5 : le ≤ 700 := b_5
  replace b_6 : qu ≤ 12 := b_6
  replace b_7 : n_1 ≤ 8 := b_7
  replace b_8 : n_2 ≤ 24 := b_8
  replace b_9 : tk ≤ 24 := b_9
  replace b_10 : il ≤ 700 := b_10
  replace b_11 : nx ≤ 701 := b_11
  replace b_12 : st ≤ 701 := b_12
  have h_2 : Φ x = some (o_ 14 [.int th, .ref (x + 1), .ref (x + 2), .int ti, .int ra, .int (nI rt), .int ex, .int ad, .ref (x + 3), .ref (x + 4), .int v_1, .long v_2, .ref (x + 5), .int (nI fl), .int v_3, .long ob, .long sa, .long v_4, .long us, .ref (x + 6), .ref (x + 7), .int (nI pe), .ref (x + 8), .int (nI le), .ref (x + 9), .ref (x + 10), .int (nI qu), .ref (x + 11), .ref (x + 12), .ref (x + 13), .ref (x + 14), .ref (x + 15), .ref (x + 16), .int (nI n_1), .long v_5, .ref (x + 17), .ref (x + 18), .ref (x + 19), .ref (x + 20), .ref (x + 21), .ref (x + 22), .int (nI n_2), .ref (x + 23), .ref (x + 24), .int (nI tk), .ref (x + 25), .int (nI il), .int (nI nx), .int ec, .int ep, .int kn, .int (nI st), .int nu, .long va]) := h_1
  refine z_put (ref := "FlowExporterModel") (C := RX12) (T := TX12) (N := 54) (ci := 14) (v := .int 0) B hu_X12_knownTemplates_X12 tyX12 tyX12_ok nmX12 rfl 0 (Nat.le_of_ble_eq_true rfl) hv_X12_knownTemplates_1 rfl (Or.inl rfl) h_2 hx rfl rfl (Nat.le_of_ble_eq_true rfl) dX12_knownTemplates_2 (fun Φ1 hΦ1 => ?_)
  have h_3 : Φ1 x = some (o_ 14 [.int 0, .ref (x + 1), .ref (x + 2), .int ti, .int ra, .int (nI rt), .int ex, .int ad, .ref (x + 3), .ref (x + 4), .int v_1, .long v_2, .ref (x + 5), .int (nI fl), .int v_3, .long ob, .long sa, .long v_4, .long us, .ref (x + 6), .ref (x + 7), .int (nI pe), .ref (x + 8), .int (nI le), .ref (x + 9), .ref (x + 10), .int (nI qu), .ref (x + 11), .ref (x + 12), .ref (x + 13), .ref (x + 14), .ref (x + 15), .ref (x + 16), .int (nI n_1), .long v_5, .ref (x + 17), .ref (x + 18), .ref (x + 19), .ref (x + 20), .ref (x + 21), .ref (x + 22), .int (nI n_2), .ref (x + 23), .ref (x + 24), .int (nI tk), .ref (x + 25), .int (nI il), .int (nI nx), .int ec, .int ep, .int kn, .int (nI st), .int nu, .long va]) := fset_at hΦ1
  have hI1 : Im G x (rd, nw, cr, tp, tt, fl, pe, le, nx, il, qu, kn, ec, nu, va, st, ep, ti, ad, ob, ra, rt, ex, sa, us, tk, 0) Φ1 := Im.put0 hI hΦ1 ⟨v_1, v_2, v_3, v_4, n_1, v_5, n_2, rfl, b_13, b_1, b_2, b_3, b_4, b_5, b_6, b_7, b_8, b_9, b_10, b_11, b_12⟩
  refine z_iconst (v := 0) B dX12_knownTemplates_5 rfl ?_
  refine z_istore_n (lv' := [(1, .int 0), (0, .ref x)]) B dX12_knownTemplates_6 rfl (Nat.le_of_ble_eq_true rfl) rfl ?_
  refine z_iconst (v := 0) B dX12_knownTemplates_7 rfl ?_
  refine z_istore_n (lv' := [(2, .int 0), (1, .int 0), (0, .ref x)]) B dX12_knownTemplates_8 rfl (Nat.le_of_ble_eq_true rfl) rfl ?_
  refine z_lv [0, 1, 2] rfl ?_
  refine z_loop (α := Nat × Int32) (fun (a9 : Nat × Int32) Φi => Im G x (rd, nw, cr, tp, tt, fl, pe, le, nx, il, qu, kn, ec, nu, va, st, ep, ti, ad, ob, ra, rt, ex, sa, us, tk, 0) Φi ∧ Fr x (fun j9 => j9 = 0) Φ1 Φi ∧ (a9.1 ≤ 4) ∧ True) (fun a9 => [(2, .int (nI (a9.1))), (1, .int a9.2), (0, .ref x)]) (fun a9 => 4 - a9.1) ?_ (0, 0) ⟨hI1, fun _ _ => rfl, (show 0 ≤ 4 by omega), trivial⟩
  rintro ⟨i_1, i_2⟩ Φl1 ⟨hI2, hF1, b_14, -⟩ ih1
  replace hI2 : Im G x (rd, nw, cr, tp, tt, fl, pe, le, nx, il, qu, kn, ec, nu, va, st, ep, ti, ad, ob, ra, rt, ex, sa, us, tk, 0) Φl1 := hI2
  replace b_14 : i_1 ≤ 4 := b_14
  show Z p9 l e9 _ s9 m9 _ w9 t9 k9 _ G 3 9 [(2, .int (nI i_1)), (1, .int i_2), (0, .ref x)] [] Φl1 _ _ _
  refine z_iload_n B dX12_knownTemplates_9 rfl 0 rfl ?_
  refine z_iconst (v := 4) B dX12_knownTemplates_10 rfl ?_
  refine z_icmp_ge (tgt := 38) B dX12_knownTemplates_11 rfl (fun c_1 => ?_) (fun c_1 => ?_)
  · have e_1 : 4 ≤ i_1 := (nI_leI (a := 4) (b := i_1) (by omega) (by omega)).mp c_1
    refine z_iload_n B dX12_knownTemplates_38 rfl 1 rfl ?_
    exact z_ret_i B dX12_knownTemplates_39 ⟨⟨_, rfl⟩, rfl, ⟨0, hI2⟩, (fun b9 h9 => ((hF1 b9 h9).trans ((fset_fr hΦ1 (fun h8 => h9 (0) h8 (show 0 = 0 by decide))).trans rfl)))⟩
  · have e_2 : ¬ (4 ≤ i_1) := fun h9 => c_1 ((nI_leI (a := 4) (b := i_1) (by omega) (by omega)).mpr h9)
    refine z_iload_n B dX12_knownTemplates_14 rfl 1 rfl ?_
    refine z_aload_n B dX12_knownTemplates_15 rfl 2 rfl ?_
    refine z_iload_n B dX12_knownTemplates_16 rfl 0 rfl ?_
    obtain ⟨v_6, v_7, v_8, v_9, n_3, v_10, n_4, h_4, b_27, b_15, b_16, b_17, b_18, b_19, b_20, b_21, b_22, b_23, b_24, b_25, b_26⟩ := im0 hI2
    replace b_15 : 1 ≤ rt := b_15
    replace b_16 : rt ≤ 1024 := b_16
    replace b_17 : fl ≤ 12 := b_17
    replace b_18 : pe ≤ 24 := b_18
    replace b_19 : le ≤ 700 := b_19
    replace b_20 : qu ≤ 12 := b_20
    replace b_21 : n_3 ≤ 8 := b_21
    replace b_22 : n_4 ≤ 24 := b_22
    replace b_23 : tk ≤ 24 := b_23
    replace b_24 : il ≤ 700 := b_24
    replace b_25 : nx ≤ 701 := b_25
    replace b_26 : st ≤ 701 := b_26
    have h_5 : Φl1 x = some (o_ 14 [.int 0, .ref (x + 1), .ref (x + 2), .int ti, .int ra, .int (nI rt), .int ex, .int ad, .ref (x + 3), .ref (x + 4), .int v_6, .long v_7, .ref (x + 5), .int (nI fl), .int v_8, .long ob, .long sa, .long v_9, .long us, .ref (x + 6), .ref (x + 7), .int (nI pe), .ref (x + 8), .int (nI le), .ref (x + 9), .ref (x + 10), .int (nI qu), .ref (x + 11), .ref (x + 12), .ref (x + 13), .ref (x + 14), .ref (x + 15), .ref (x + 16), .int (nI n_3), .long v_10, .ref (x + 17), .ref (x + 18), .ref (x + 19), .ref (x + 20), .ref (x + 21), .ref (x + 22), .int (nI n_4), .ref (x + 23), .ref (x + 24), .int (nI tk), .ref (x + 25), .int (nI il), .int (nI nx), .int ec, .int ep, .int kn, .int (nI st), .int nu, .long va]) := h_4
    refine z_callV (As := [.int (nI i_1)]) (rest := [.int i_2]) B (r_isKnown G l Φl1 sz x rd nw cr tp tt fl pe le nx il qu kn ec nu va st ep ti ad ob ra rt ex sa us tk 0 i_1 hx hI2 (show i_1 < 4 by omega) hnw) (cwV 1 B.1.2.2.2.2 gX12_knownTemplates_X12_isKnown rfl rfl rfl (by decide +kernel) ⟨Nat.le_of_ble_eq_true rfl, Nat.le_of_ble_eq_true rfl⟩) h_5 rfl rfl rfl rfl (Nat.le_of_ble_eq_true rfl) dX12_knownTemplates_17 ⟨Nat.le_of_ble_eq_true rfl, Nat.le_of_ble_eq_true rfl⟩ (fun r_1 Φ2 sz1 st1 hp1 hs1 => ?_)
    obtain ⟨⟨v_11, rfl, b_28⟩, hq1, hI3, hF2⟩ := hp1
    subst sz1
    replace hs1 : st1 = [.int v_11, .int i_2] := hs1
    subst st1
    replace hI3 : Im G x (rd, nw, cr, tp, tt, fl, pe, le, nx, il, qu, kn, ec, nu, va, st, ep, ti, ad, ob, ra, rt, ex, sa, us, tk, 0) Φ2 := hI3
    refine z_if_eq (tgt := 29) B dX12_knownTemplates_20 rfl (fun c_2 => ?_) (fun c_2 => ?_)
    · refine z_iconst (v := 0) B dX12_knownTemplates_29 rfl ?_
      refine z_ior B dX12_knownTemplates_30 ?_
      refine z_fi (fun v_12 => ?_)
      refine z_istore_n (lv' := [(1, .int v_12), (2, .int (nI i_1)), (0, .ref x)]) B dX12_knownTemplates_31 rfl (Nat.le_of_ble_eq_true rfl) rfl ?_
      refine z_iinc (k := 1) (v := nI (i_1 + 1)) (lv' := [(2, .int (nI (i_1 + 1))), (1, .int v_12), (0, .ref x)]) B dX12_knownTemplates_32 rfl (nI_add i_1 1) (Nat.le_of_ble_eq_true rfl) rfl ?_
      refine z_goto (tgt := 9) B dX12_knownTemplates_35 rfl ?_
      refine z_lv [0, 1, 2] rfl ?_
      exact ih1 (i_1 + 1, v_12) Φ2 (show 4 - (i_1 + 1) < 4 - i_1 by omega) ⟨hI3, (fun b9 h9 => ((hF2 b9 (fun j9 h8 h7 => (show False from h7).elim)).trans ((hF1 b9 h9).trans rfl))), (show (i_1 + 1) ≤ 4 by omega), trivial⟩
    · refine z_iconst (v := 1) B dX12_knownTemplates_23 rfl ?_
      refine z_iload_n B dX12_knownTemplates_24 rfl 0 rfl ?_
      refine z_ishl B dX12_knownTemplates_25 ?_
      refine z_fi (fun v_13 => ?_)
      refine z_goto (tgt := 30) B dX12_knownTemplates_26 rfl ?_
      refine z_ior B dX12_knownTemplates_30 ?_
      refine z_fi (fun v_14 => ?_)
      refine z_istore_n (lv' := [(1, .int v_14), (2, .int (nI i_1)), (0, .ref x)]) B dX12_knownTemplates_31 rfl (Nat.le_of_ble_eq_true rfl) rfl ?_
      refine z_iinc (k := 1) (v := nI (i_1 + 1)) (lv' := [(2, .int (nI (i_1 + 1))), (1, .int v_14), (0, .ref x)]) B dX12_knownTemplates_32 rfl (nI_add i_1 1) (Nat.le_of_ble_eq_true rfl) rfl ?_
      refine z_goto (tgt := 9) B dX12_knownTemplates_35 rfl ?_
      refine z_lv [0, 1, 2] rfl ?_
      exact ih1 (i_1 + 1, v_14) Φ2 (show 4 - (i_1 + 1) < 4 - i_1 by omega) ⟨hI3, (fun b9 h9 => ((hF2 b9 (fun j9 h8 h7 => (show False from h7).elim)).trans ((hF1 b9 h9).trans rfl))), (show (i_1 + 1) ≤ 4 by omega), trivial⟩

theorem hu_X12_templateAge_X12 : ∀ w ∈ u_ws RX12 TX12 54, w ∈ wsX12_templateAge := fun _ h => List.mem_cons_of_mem _ (List.mem_append_left _ (List.mem_append_right _ (h)))

theorem hv_X12_templateAge_1 : Cond.fieldLink RX12 1 "FlowExporterModel" (TX12 0).2.1 (TX12 0).2.2.1 ∈ wsX12_templateAge := List.mem_cons_of_mem _ (List.mem_append_left _ (List.mem_append_left _ (List.mem_of_getElem? (i := 0) rfl)))

theorem hv_X12_templateAge_48 : Cond.fieldLink RX12 48 "FlowExporterModel" (TX12 28).2.1 (TX12 28).2.2.1 ∈ wsX12_templateAge := List.mem_cons_of_mem _ (List.mem_append_left _ (List.mem_append_left _ (List.mem_of_getElem? (i := 2) rfl)))

theorem hv_X12_templateAge_101 : Cond.fieldLink RX12 101 "FlowExporterModel" (TX12 3).2.1 (TX12 3).2.2.1 ∈ wsX12_templateAge := List.mem_cons_of_mem _ (List.mem_append_left _ (List.mem_append_left _ (List.mem_of_getElem? (i := 3) rfl)))

theorem hv_X12_templateAge_54 : Cond.fieldLink RX12 54 "FlowExporterModel" (TX12 30).2.1 (TX12 30).2.2.1 ∈ wsX12_templateAge := List.mem_cons_of_mem _ (List.mem_append_left _ (List.mem_append_left _ (List.mem_of_getElem? (i := 4) rfl)))

set_option maxHeartbeats 4000000 in
set_option maxRecDepth 100000 in
theorem r_templateAge (G : EnvG) (l : Launch) (Φ : Hm) (sz x : Nat) (rd : (Nat → Int32) → Prop) (nw : (Nat → Int32) → Prop) (cr : (Nat → Int64) → Prop) (tp : (Nat → Int32) → Prop) (tt : (Nat → Int64) → Prop) (fl : Nat) (pe : Nat) (le : Nat) (nx : Nat) (il : Nat) (qu : Nat) (kn : Int32) (ec : Int32) (nu : Int32) (va : Int64) (st : Nat) (ep : Int32) (ti : Int32) (ad : Int32) (ob : Int64) (ra : Int32) (rt : Nat) (ex : Int32) (sa : Int64) (us : Int64) (tk : Nat) (th : Int32) (a : Int32) (hx : G.2.2.2 ≤ x) (hI : Im G x (rd, nw, cr, tp, tt, fl, pe, le, nx, il, qu, kn, ec, nu, va, st, ep, ti, ad, ob, ra, rt, ex, sa, us, tk, th) Φ) (hnw : ∀ f9 : Nat → Int32, nw f9 → NN f9) : Ct G l yX12_templateAge wsX12_templateAge ({ frames := 1, cells := 0, slots := 0, locals := 25 }) 0 0 [.ref x, .int a] Φ sz (fun v Φ1 sz1 => (∃ r9 : Int32, v = some (.int r9)) ∧ sz1 = sz ∧ (∃ (th1 : Int32), Im G x (rd, nw, cr, tp, tt, fl, pe, le, nx, il, qu, kn, ec, nu, va, st, ep, ti, ad, ob, ra, rt, ex, sa, us, tk, th1) Φ1) ∧ Fr x (fun j9 => j9 = 0) Φ Φ1) := by
  refine Ct.of (cc := cX12_templateAge) (maxL := 2) (ret := (some .int)) (by decide) rfl (Nat.le_of_ble_eq_true rfl) ?_
  intro p9 e9 s9 m9 w9 t9 k9 B
  show Z p9 l e9 _ s9 m9 _ w9 t9 k9 _ G 2 0 [(0, .ref x), (1, .int a)] [] Φ sz 0 0
  refine z_aload_n B dX12_templateAge_0 rfl 0 rfl ?_
  refine z_iconst (v := 0) B dX12_templateAge_1 rfl ?_
  obtain ⟨v_1, v_2, v_3, v_4, n_1, v_5, n_2, h_1, b_13, b_1, b_2, b_3, b_4, b_5, b_6, b_7, b_8, b_9, b_10, b_11, b_12⟩ := im0 hI
  replace b_1 : 1 ≤ rt := b_1
  replace b_2 : rt ≤ 1024 := b_2
  replace b_3 : fl ≤ 12 := b_3
  replace b_4 : pe ≤ 24 := b_4
  replace b_5 : le ≤ 700 := b_5
  replace b_6 : qu ≤ 12 := b_6
  replace b_7 : n_1 ≤ 8 := b_7
  replace b_8 : n_2 ≤ 24 := b_8
  replace b_9 : tk ≤ 24 := b_9
  replace b_10 : il ≤ 700 := b_10
  replace b_11 : nx ≤ 701 := b_11
  replace b_12 : st ≤ 701 := b_12
  have h_2 : Φ x = some (o_ 14 [.int th, .ref (x + 1), .ref (x + 2), .int ti, .int ra, .int (nI rt), .int ex, .int ad, .ref (x + 3), .ref (x + 4), .int v_1, .long v_2, .ref (x + 5), .int (nI fl), .int v_3, .long ob, .long sa, .long v_4, .long us, .ref (x + 6), .ref (x + 7), .int (nI pe), .ref (x + 8), .int (nI le), .ref (x + 9), .ref (x + 10), .int (nI qu), .ref (x + 11), .ref (x + 12), .ref (x + 13), .ref (x + 14), .ref (x + 15), .ref (x + 16), .int (nI n_1), .long v_5, .ref (x + 17), .ref (x + 18), .ref (x + 19), .ref (x + 20), .ref (x + 21), .ref (x + 22), .int (nI n_2), .ref (x + 23), .ref (x + 24), .int (nI tk), .ref (x + 25), .int (nI il), .int (nI nx), .int ec, .int ep, .int kn, .int (nI st), .int nu, .long va]) := h_1
  refine z_put (ref := "FlowExporterModel") (C := RX12) (T := TX12) (N := 54) (ci := 14) (v := .int 0) B hu_X12_templateAge_X12 tyX12 tyX12_ok nmX12 rfl 0 (Nat.le_of_ble_eq_true rfl) hv_X12_templateAge_1 rfl (Or.inl rfl) h_2 hx rfl rfl (Nat.le_of_ble_eq_true rfl) dX12_templateAge_2 (fun Φ1 hΦ1 => ?_)
  have h_3 : Φ1 x = some (o_ 14 [.int 0, .ref (x + 1), .ref (x + 2), .int ti, .int ra, .int (nI rt), .int ex, .int ad, .ref (x + 3), .ref (x + 4), .int v_1, .long v_2, .ref (x + 5), .int (nI fl), .int v_3, .long ob, .long sa, .long v_4, .long us, .ref (x + 6), .ref (x + 7), .int (nI pe), .ref (x + 8), .int (nI le), .ref (x + 9), .ref (x + 10), .int (nI qu), .ref (x + 11), .ref (x + 12), .ref (x + 13), .ref (x + 14), .ref (x + 15), .ref (x + 16), .int (nI n_1), .long v_5, .ref (x + 17), .ref (x + 18), .ref (x + 19), .ref (x + 20), .ref (x + 21), .ref (x + 22), .int (nI n_2), .ref (x + 23), .ref (x + 24), .int (nI tk), .ref (x + 25), .int (nI il), .int (nI nx), .int ec, .int ep, .int kn, .int (nI st), .int nu, .long va]) := fset_at hΦ1
  have hI1 : Im G x (rd, nw, cr, tp, tt, fl, pe, le, nx, il, qu, kn, ec, nu, va, st, ep, ti, ad, ob, ra, rt, ex, sa, us, tk, 0) Φ1 := Im.put0 hI hΦ1 ⟨v_1, v_2, v_3, v_4, n_1, v_5, n_2, rfl, b_13, b_1, b_2, b_3, b_4, b_5, b_6, b_7, b_8, b_9, b_10, b_11, b_12⟩
  refine z_aload_n B dX12_templateAge_5 rfl 0 rfl ?_
  refine z_iload_n B dX12_templateAge_6 rfl 1 rfl ?_
  refine z_i2l (v := a.toInt64) B dX12_templateAge_7 rfl ?_
  refine z_lconst (v := 0) B dX12_templateAge_8 rfl ?_
  refine z_ldc2 (v := 3) B (by decide +kernel) dX12_templateAge_9 ?_
  by_cases hR1 : inP a.toInt64 0 3
  · obtain ⟨n_3, e_1, e_2, e_3, rfl⟩ := in_get (L := 0) (H := 3) (by decide) (by decide) hR1
    refine z_callS (As := [.long ((nI n_3).toInt64), .long 0, .long 3]) (rest := [.ref x]) B (c_inR1 G l Φ1 sz ((nI n_3).toInt64) 0 3 hR1 (fun v8 Φ8 sz8 => v8 = some (.int 1) ∧ sz8 = sz ∧ Im G x (rd, nw, cr, tp, tt, fl, pe, le, nx, il, qu, kn, ec, nu, va, st, ep, ti, ad, ob, ra, rt, ex, sa, us, tk, 0) Φ8 ∧ Fr x (fun j9 => False) Φ1 Φ8) ⟨rfl, rfl, hI1, fun _ _ => rfl⟩) (va_cwS 3 B.1.2.2.2.2 gX12_templateAge_X12_inRange rfl rfl rfl (by decide +kernel) ⟨Nat.le_of_ble_eq_true rfl, Nat.le_of_ble_eq_true rfl⟩) rfl rfl (Nat.le_of_ble_eq_true rfl) dX12_templateAge_12 ⟨Nat.le_of_ble_eq_true rfl, Nat.le_of_ble_eq_true rfl⟩ (fun r_1 Φ2 sz1 st1 hp1 hs1 => ?_)
    obtain ⟨rfl, hq1, hI2, hF1⟩ := hp1
    subst sz1
    replace hs1 : st1 = [.int 1, .ref x] := hs1
    subst st1
    refine z_if_ne (tgt := 22) B dX12_templateAge_15 rfl (fun c_1 => ?_) (fun h9 => absurd h9 (by decide))
    refine z_iconst (v := 0) B dX12_templateAge_22 rfl ?_
    refine z_iconst (v := 1) B dX12_templateAge_23 rfl ?_
    have h_4 : Φ2 x = some (o_ 14 [.int 0, .ref (x + 1), .ref (x + 2), .int ti, .int ra, .int (nI rt), .int ex, .int ad, .ref (x + 3), .ref (x + 4), .int v_1, .long v_2, .ref (x + 5), .int (nI fl), .int v_3, .long ob, .long sa, .long v_4, .long us, .ref (x + 6), .ref (x + 7), .int (nI pe), .ref (x + 8), .int (nI le), .ref (x + 9), .ref (x + 10), .int (nI qu), .ref (x + 11), .ref (x + 12), .ref (x + 13), .ref (x + 14), .ref (x + 15), .ref (x + 16), .int (nI n_1), .long v_5, .ref (x + 17), .ref (x + 18), .ref (x + 19), .ref (x + 20), .ref (x + 21), .ref (x + 22), .int (nI n_2), .ref (x + 23), .ref (x + 24), .int (nI tk), .ref (x + 25), .int (nI il), .int (nI nx), .int ec, .int ep, .int kn, .int (nI st), .int nu, .long va]) := ((hF1 x (fun j9 h8 h7 => (show False from h7).elim)).trans h_3)
    refine z_callV (As := [.int 0, .int 1]) (rest := []) B (r_throwsIf G l Φ2 sz x rd nw cr tp tt fl pe le nx il qu kn ec nu va st ep ti ad ob ra rt ex sa us tk 0 0 1 hx hI2 (by decide) hnw) (cwV 2 B.1.2.2.2.2 gX12_templateAge_X12_throwsIf rfl rfl rfl (by decide +kernel) ⟨Nat.le_of_ble_eq_true rfl, Nat.le_of_ble_eq_true rfl⟩) h_4 rfl rfl rfl rfl (Nat.le_of_ble_eq_true rfl) dX12_templateAge_24 ⟨Nat.le_of_ble_eq_true rfl, Nat.le_of_ble_eq_true rfl⟩ (fun r_2 Φ3 sz2 st2 hp2 hs2 => ?_)
    obtain ⟨rfl, hq2, ⟨v_6, hI3⟩, hF2⟩ := hp2
    subst sz2
    replace hs2 : st2 = [.int 0] := hs2
    subst st2
    replace hI3 : Im G x (rd, nw, cr, tp, tt, fl, pe, le, nx, il, qu, kn, ec, nu, va, st, ep, ti, ad, ob, ra, rt, ex, sa, us, tk, v_6) Φ3 := hI3
    refine z_if_eq (tgt := 32) B dX12_templateAge_27 rfl (fun c_2 => ?_) (fun h9 => absurd (by decide) h9)
    refine z_aload_n B dX12_templateAge_32 rfl 0 rfl ?_
    obtain ⟨v_7, v_8, v_9, v_10, n_4, v_11, n_5, h_5, b_26, b_14, b_15, b_16, b_17, b_18, b_19, b_20, b_21, b_22, b_23, b_24, b_25⟩ := im0 hI3
    replace b_14 : 1 ≤ rt := b_14
    replace b_15 : rt ≤ 1024 := b_15
    replace b_16 : fl ≤ 12 := b_16
    replace b_17 : pe ≤ 24 := b_17
    replace b_18 : le ≤ 700 := b_18
    replace b_19 : qu ≤ 12 := b_19
    replace b_20 : n_4 ≤ 8 := b_20
    replace b_21 : n_5 ≤ 24 := b_21
    replace b_22 : tk ≤ 24 := b_22
    replace b_23 : il ≤ 700 := b_23
    replace b_24 : nx ≤ 701 := b_24
    replace b_25 : st ≤ 701 := b_25
    have h_6 : Φ3 x = some (o_ 14 [.int v_6, .ref (x + 1), .ref (x + 2), .int ti, .int ra, .int (nI rt), .int ex, .int ad, .ref (x + 3), .ref (x + 4), .int v_7, .long v_8, .ref (x + 5), .int (nI fl), .int v_9, .long ob, .long sa, .long v_10, .long us, .ref (x + 6), .ref (x + 7), .int (nI pe), .ref (x + 8), .int (nI le), .ref (x + 9), .ref (x + 10), .int (nI qu), .ref (x + 11), .ref (x + 12), .ref (x + 13), .ref (x + 14), .ref (x + 15), .ref (x + 16), .int (nI n_4), .long v_11, .ref (x + 17), .ref (x + 18), .ref (x + 19), .ref (x + 20), .ref (x + 21), .ref (x + 22), .int (nI n_5), .ref (x + 23), .ref (x + 24), .int (nI tk), .ref (x + 25), .int (nI il), .int (nI nx), .int ec, .int ep, .int kn, .int (nI st), .int nu, .long va]) := h_5
    refine z_get (ref := "FlowExporterModel") (C := RX12) (T := TX12) (N := 54) (ci := 14) (v := .ref (x + 12)) B hu_X12_templateAge_X12 rfl 28 (Nat.le_of_ble_eq_true rfl) hv_X12_templateAge_48 rfl h_6 rfl dX12_templateAge_33 ?_
    refine z_iload_n B dX12_templateAge_36 rfl 1 rfl ?_
    obtain ⟨f_1, h_7, r_3⟩ := imk (k := 12) hI3
    replace r_3 : Rw 9 f_1 := r_3
    have h_8 : Φ3 (x + 12) = some (ai_ G 4 f_1) := h_7
    refine z_iald B h_8 (vp_in_nI (by omega) (by omega)) dX12_templateAge_37 ?_
    obtain ⟨n_6, b_27, e_4⟩ := r_3 ((nI n_3).toNatClampNeg)
    refine z_top (st1 := [.int (nI n_6)]) (congrArg (fun w9 : Int32 => ([.int w9] : List Value)) (e_4)) ?_
    refine z_if_le (tgt := 55) B dX12_templateAge_38 rfl (fun c_3 => ?_) (fun c_3 => ?_)
    · have e_5 : n_6 ≤ 0 := (nI_leI (a := n_6) (b := 0) (by omega) (by omega)).mp c_3
      refine z_iconst (v := (-1)) B dX12_templateAge_55 rfl ?_
      exact z_ret_i B dX12_templateAge_56 ⟨⟨_, rfl⟩, rfl, ⟨v_6, hI3⟩, (fun b9 h9 => ((hF2 b9 h9).trans ((hF1 b9 (fun j9 h8 h7 => (show False from h7).elim)).trans ((fset_fr hΦ1 (fun h8 => h9 (0) h8 (show 0 = 0 by decide))).trans rfl))))⟩
    · have e_6 : ¬ (n_6 ≤ 0) := fun h9 => c_3 ((nI_leI (a := n_6) (b := 0) (by omega) (by omega)).mpr h9)
      refine z_aload_n B dX12_templateAge_41 rfl 0 rfl ?_
      refine z_get (ref := "FlowExporterModel") (C := RX12) (T := TX12) (N := 54) (ci := 14) (v := .int ti) B hu_X12_templateAge_X12 rfl 3 (Nat.le_of_ble_eq_true rfl) hv_X12_templateAge_101 rfl h_6 rfl dX12_templateAge_42 ?_
      refine z_aload_n B dX12_templateAge_45 rfl 0 rfl ?_
      refine z_get (ref := "FlowExporterModel") (C := RX12) (T := TX12) (N := 54) (ci := 14) (v := .ref (x + 14)) B hu_X12_templateAge_X12 rfl 30 (Nat.le_of_ble_eq_true rfl) hv_X12_templateAge_54 rfl h_6 rfl dX12_templateAge_46 ?_
      refine z_iload_n B dX12_templateAge_49 rfl 1 rfl ?_
      obtain ⟨f_2, h_9⟩ := imk (k := 14) hI3
      have h_10 : Φ3 (x + 14) = some (ai_ G 4 f_2) := h_9
      refine z_iald B h_10 (vp_in_nI (by omega) (by omega)) dX12_templateAge_50 ?_
      refine z_fi (fun v_12 => ?_)
      refine z_isub B dX12_templateAge_51 ?_
      refine z_fi (fun v_13 => ?_)
      refine z_goto (tgt := 56) B dX12_templateAge_52 rfl ?_
      exact z_ret_i B dX12_templateAge_56 ⟨⟨_, rfl⟩, rfl, ⟨v_6, hI3⟩, (fun b9 h9 => ((hF2 b9 h9).trans ((hF1 b9 (fun j9 h8 h7 => (show False from h7).elim)).trans ((fset_fr hΦ1 (fun h8 => h9 (0) h8 (show 0 = 0 by decide))).trans rfl))))⟩
  · have q_1 : ¬ (0 ≤ a.toInt ∧ a.toInt ≤ 3) := fun h9 => hR1 ((inP_i (by decide) (by decide)).mpr h9)
    refine z_callS (As := [.long a.toInt64, .long 0, .long 3]) (rest := [.ref x]) B (c_inR0 G l Φ1 sz a.toInt64 0 3 hR1 (fun v8 Φ8 sz8 => v8 = some (.int 0) ∧ sz8 = sz ∧ Im G x (rd, nw, cr, tp, tt, fl, pe, le, nx, il, qu, kn, ec, nu, va, st, ep, ti, ad, ob, ra, rt, ex, sa, us, tk, 0) Φ8 ∧ Fr x (fun j9 => False) Φ1 Φ8) ⟨rfl, rfl, hI1, fun _ _ => rfl⟩) (va_cwS 3 B.1.2.2.2.2 gX12_templateAge_X12_inRange rfl rfl rfl (by decide +kernel) ⟨Nat.le_of_ble_eq_true rfl, Nat.le_of_ble_eq_true rfl⟩) rfl rfl (Nat.le_of_ble_eq_true rfl) dX12_templateAge_12 ⟨Nat.le_of_ble_eq_true rfl, Nat.le_of_ble_eq_true rfl⟩ (fun r_5 Φ4 sz3 st3 hp3 hs3 => ?_)
    obtain ⟨rfl, hq3, hI4, hF3⟩ := hp3
    subst sz3
    replace hs3 : st3 = [.int 0, .ref x] := hs3
    subst st3
    refine z_if_ne (tgt := 22) B dX12_templateAge_15 rfl (fun h9 => absurd (by decide) h9) (fun c_4 => ?_)
    refine z_iconst (v := 1) B dX12_templateAge_18 rfl ?_
    refine z_goto (tgt := 23) B dX12_templateAge_19 rfl ?_
    refine z_iconst (v := 1) B dX12_templateAge_23 rfl ?_
    have h_11 : Φ4 x = some (o_ 14 [.int 0, .ref (x + 1), .ref (x + 2), .int ti, .int ra, .int (nI rt), .int ex, .int ad, .ref (x + 3), .ref (x + 4), .int v_1, .long v_2, .ref (x + 5), .int (nI fl), .int v_3, .long ob, .long sa, .long v_4, .long us, .ref (x + 6), .ref (x + 7), .int (nI pe), .ref (x + 8), .int (nI le), .ref (x + 9), .ref (x + 10), .int (nI qu), .ref (x + 11), .ref (x + 12), .ref (x + 13), .ref (x + 14), .ref (x + 15), .ref (x + 16), .int (nI n_1), .long v_5, .ref (x + 17), .ref (x + 18), .ref (x + 19), .ref (x + 20), .ref (x + 21), .ref (x + 22), .int (nI n_2), .ref (x + 23), .ref (x + 24), .int (nI tk), .ref (x + 25), .int (nI il), .int (nI nx), .int ec, .int ep, .int kn, .int (nI st), .int nu, .long va]) := ((hF3 x (fun j9 h8 h7 => (show False from h7).elim)).trans h_3)
    refine z_callV (As := [.int 1, .int 1]) (rest := []) B (r_throwsIf G l Φ4 sz x rd nw cr tp tt fl pe le nx il qu kn ec nu va st ep ti ad ob ra rt ex sa us tk 0 1 1 hx hI4 (by decide) hnw) (cwV 2 B.1.2.2.2.2 gX12_templateAge_X12_throwsIf rfl rfl rfl (by decide +kernel) ⟨Nat.le_of_ble_eq_true rfl, Nat.le_of_ble_eq_true rfl⟩) h_11 rfl rfl rfl rfl (Nat.le_of_ble_eq_true rfl) dX12_templateAge_24 ⟨Nat.le_of_ble_eq_true rfl, Nat.le_of_ble_eq_true rfl⟩ (fun r_6 Φ5 sz4 st4 hp4 hs4 => ?_)
    obtain ⟨rfl, hq4, ⟨v_14, hI5⟩, hF4⟩ := hp4
    subst sz4
    replace hs4 : st4 = [.int 1] := hs4
    subst st4
    replace hI5 : Im G x (rd, nw, cr, tp, tt, fl, pe, le, nx, il, qu, kn, ec, nu, va, st, ep, ti, ad, ob, ra, rt, ex, sa, us, tk, v_14) Φ5 := hI5
    refine z_if_eq (tgt := 32) B dX12_templateAge_27 rfl (fun h9 => absurd h9 (by decide)) (fun c_5 => ?_)
    refine z_iconst (v := 0) B dX12_templateAge_30 rfl ?_
    exact z_ret_i B dX12_templateAge_31 ⟨⟨_, rfl⟩, rfl, ⟨v_14, hI5⟩, (fun b9 h9 => ((hF4 b9 h9).trans ((hF3 b9 (fun j9 h8 h7 => (show False from h7).elim)).trans ((fset_fr hΦ1 (fun h8 => h9 (0) h8 (show 0 = 0 by decide))).trans rfl))))⟩

theorem hu_X12_counter_X12 : ∀ w ∈ u_ws RX12 TX12 54, w ∈ wsX12_counter := fun _ h => List.mem_cons_of_mem _ (List.mem_append_left _ (List.mem_append_right _ (h)))

theorem hv_X12_counter_1 : Cond.fieldLink RX12 1 "FlowExporterModel" (TX12 0).2.1 (TX12 0).2.2.1 ∈ wsX12_counter := List.mem_cons_of_mem _ (List.mem_append_left _ (List.mem_append_left _ (List.mem_of_getElem? (i := 0) rfl)))

theorem hv_X12_counter_45 : Cond.fieldLink RX12 45 "FlowExporterModel" (TX12 27).2.1 (TX12 27).2.2.1 ∈ wsX12_counter := List.mem_cons_of_mem _ (List.mem_append_left _ (List.mem_append_left _ (List.mem_of_getElem? (i := 2) rfl)))

set_option maxHeartbeats 4000000 in
set_option maxRecDepth 100000 in
theorem r_counter (G : EnvG) (l : Launch) (Φ : Hm) (sz x : Nat) (rd : (Nat → Int32) → Prop) (nw : (Nat → Int32) → Prop) (cr : (Nat → Int64) → Prop) (tp : (Nat → Int32) → Prop) (tt : (Nat → Int64) → Prop) (fl : Nat) (pe : Nat) (le : Nat) (nx : Nat) (il : Nat) (qu : Nat) (kn : Int32) (ec : Int32) (nu : Int32) (va : Int64) (st : Nat) (ep : Int32) (ti : Int32) (ad : Int32) (ob : Int64) (ra : Int32) (rt : Nat) (ex : Int32) (sa : Int64) (us : Int64) (tk : Nat) (th : Int32) (a : Int32) (hx : G.2.2.2 ≤ x) (hI : Im G x (rd, nw, cr, tp, tt, fl, pe, le, nx, il, qu, kn, ec, nu, va, st, ep, ti, ad, ob, ra, rt, ex, sa, us, tk, th) Φ) (hnw : ∀ f9 : Nat → Int32, nw f9 → NN f9) : Ct G l yX12_counter wsX12_counter ({ frames := 1, cells := 0, slots := 0, locals := 25 }) 0 0 [.ref x, .int a] Φ sz (fun v Φ1 sz1 => (∃ r9 : Int64, v = some (.long r9)) ∧ sz1 = sz ∧ (∃ (th1 : Int32), Im G x (rd, nw, cr, tp, tt, fl, pe, le, nx, il, qu, kn, ec, nu, va, st, ep, ti, ad, ob, ra, rt, ex, sa, us, tk, th1) Φ1) ∧ Fr x (fun j9 => j9 = 0) Φ Φ1) := by
  refine Ct.of (cc := cX12_counter) (maxL := 2) (ret := (some .long)) (by decide) rfl (Nat.le_of_ble_eq_true rfl) ?_
  intro p9 e9 s9 m9 w9 t9 k9 B
  show Z p9 l e9 _ s9 m9 _ w9 t9 k9 _ G 2 0 [(0, .ref x), (1, .int a)] [] Φ sz 0 0
  refine z_aload_n B dX12_counter_0 rfl 0 rfl ?_
  refine z_iconst (v := 0) B dX12_counter_1 rfl ?_
  obtain ⟨v_1, v_2, v_3, v_4, n_1, v_5, n_2, h_1, b_13, b_1, b_2, b_3, b_4, b_5, b_6, b_7, b_8, b_9, b_10, b_11, b_12⟩ := im0 hI
  replace b_1 : 1 ≤ rt := b_1
  replace b_2 : rt ≤ 1024 := b_2
  replace b_3 : fl ≤ 12 := b_3
  replace b_4 : pe ≤ 24 := b_4
  replace b_5 : le ≤ 700 := b_5
  replace b_6 : qu ≤ 12 := b_6
  replace b_7 : n_1 ≤ 8 := b_7
  replace b_8 : n_2 ≤ 24 := b_8
  replace b_9 : tk ≤ 24 := b_9
  replace b_10 : il ≤ 700 := b_10
  replace b_11 : nx ≤ 701 := b_11
  replace b_12 : st ≤ 701 := b_12
  have h_2 : Φ x = some (o_ 14 [.int th, .ref (x + 1), .ref (x + 2), .int ti, .int ra, .int (nI rt), .int ex, .int ad, .ref (x + 3), .ref (x + 4), .int v_1, .long v_2, .ref (x + 5), .int (nI fl), .int v_3, .long ob, .long sa, .long v_4, .long us, .ref (x + 6), .ref (x + 7), .int (nI pe), .ref (x + 8), .int (nI le), .ref (x + 9), .ref (x + 10), .int (nI qu), .ref (x + 11), .ref (x + 12), .ref (x + 13), .ref (x + 14), .ref (x + 15), .ref (x + 16), .int (nI n_1), .long v_5, .ref (x + 17), .ref (x + 18), .ref (x + 19), .ref (x + 20), .ref (x + 21), .ref (x + 22), .int (nI n_2), .ref (x + 23), .ref (x + 24), .int (nI tk), .ref (x + 25), .int (nI il), .int (nI nx), .int ec, .int ep, .int kn, .int (nI st), .int nu, .long va]) := h_1
  refine z_put (ref := "FlowExporterModel") (C := RX12) (T := TX12) (N := 54) (ci := 14) (v := .int 0) B hu_X12_counter_X12 tyX12 tyX12_ok nmX12 rfl 0 (Nat.le_of_ble_eq_true rfl) hv_X12_counter_1 rfl (Or.inl rfl) h_2 hx rfl rfl (Nat.le_of_ble_eq_true rfl) dX12_counter_2 (fun Φ1 hΦ1 => ?_)
  have h_3 : Φ1 x = some (o_ 14 [.int 0, .ref (x + 1), .ref (x + 2), .int ti, .int ra, .int (nI rt), .int ex, .int ad, .ref (x + 3), .ref (x + 4), .int v_1, .long v_2, .ref (x + 5), .int (nI fl), .int v_3, .long ob, .long sa, .long v_4, .long us, .ref (x + 6), .ref (x + 7), .int (nI pe), .ref (x + 8), .int (nI le), .ref (x + 9), .ref (x + 10), .int (nI qu), .ref (x + 11), .ref (x + 12), .ref (x + 13), .ref (x + 14), .ref (x + 15), .ref (x + 16), .int (nI n_1), .long v_5, .ref (x + 17), .ref (x + 18), .ref (x + 19), .ref (x + 20), .ref (x + 21), .ref (x + 22), .int (nI n_2), .ref (x + 23), .ref (x + 24), .int (nI tk), .ref (x + 25), .int (nI il), .int (nI nx), .int ec, .int ep, .int kn, .int (nI st), .int nu, .long va]) := fset_at hΦ1
  have hI1 : Im G x (rd, nw, cr, tp, tt, fl, pe, le, nx, il, qu, kn, ec, nu, va, st, ep, ti, ad, ob, ra, rt, ex, sa, us, tk, 0) Φ1 := Im.put0 hI hΦ1 ⟨v_1, v_2, v_3, v_4, n_1, v_5, n_2, rfl, b_13, b_1, b_2, b_3, b_4, b_5, b_6, b_7, b_8, b_9, b_10, b_11, b_12⟩
  refine z_aload_n B dX12_counter_5 rfl 0 rfl ?_
  refine z_iload_n B dX12_counter_6 rfl 1 rfl ?_
  refine z_i2l (v := a.toInt64) B dX12_counter_7 rfl ?_
  refine z_lconst (v := 0) B dX12_counter_8 rfl ?_
  refine z_ldc2 (v := 8) B (by decide +kernel) dX12_counter_9 ?_
  by_cases hR1 : inP a.toInt64 0 8
  · obtain ⟨n_3, e_1, e_2, e_3, rfl⟩ := in_get (L := 0) (H := 8) (by decide) (by decide) hR1
    refine z_callS (As := [.long ((nI n_3).toInt64), .long 0, .long 8]) (rest := [.ref x]) B (c_inR1 G l Φ1 sz ((nI n_3).toInt64) 0 8 hR1 (fun v8 Φ8 sz8 => v8 = some (.int 1) ∧ sz8 = sz ∧ Im G x (rd, nw, cr, tp, tt, fl, pe, le, nx, il, qu, kn, ec, nu, va, st, ep, ti, ad, ob, ra, rt, ex, sa, us, tk, 0) Φ8 ∧ Fr x (fun j9 => False) Φ1 Φ8) ⟨rfl, rfl, hI1, fun _ _ => rfl⟩) (va_cwS 3 B.1.2.2.2.2 gX12_counter_X12_inRange rfl rfl rfl (by decide +kernel) ⟨Nat.le_of_ble_eq_true rfl, Nat.le_of_ble_eq_true rfl⟩) rfl rfl (Nat.le_of_ble_eq_true rfl) dX12_counter_12 ⟨Nat.le_of_ble_eq_true rfl, Nat.le_of_ble_eq_true rfl⟩ (fun r_1 Φ2 sz1 st1 hp1 hs1 => ?_)
    obtain ⟨rfl, hq1, hI2, hF1⟩ := hp1
    subst sz1
    replace hs1 : st1 = [.int 1, .ref x] := hs1
    subst st1
    refine z_if_ne (tgt := 22) B dX12_counter_15 rfl (fun c_1 => ?_) (fun h9 => absurd h9 (by decide))
    refine z_iconst (v := 0) B dX12_counter_22 rfl ?_
    refine z_iconst (v := 1) B dX12_counter_23 rfl ?_
    have h_4 : Φ2 x = some (o_ 14 [.int 0, .ref (x + 1), .ref (x + 2), .int ti, .int ra, .int (nI rt), .int ex, .int ad, .ref (x + 3), .ref (x + 4), .int v_1, .long v_2, .ref (x + 5), .int (nI fl), .int v_3, .long ob, .long sa, .long v_4, .long us, .ref (x + 6), .ref (x + 7), .int (nI pe), .ref (x + 8), .int (nI le), .ref (x + 9), .ref (x + 10), .int (nI qu), .ref (x + 11), .ref (x + 12), .ref (x + 13), .ref (x + 14), .ref (x + 15), .ref (x + 16), .int (nI n_1), .long v_5, .ref (x + 17), .ref (x + 18), .ref (x + 19), .ref (x + 20), .ref (x + 21), .ref (x + 22), .int (nI n_2), .ref (x + 23), .ref (x + 24), .int (nI tk), .ref (x + 25), .int (nI il), .int (nI nx), .int ec, .int ep, .int kn, .int (nI st), .int nu, .long va]) := ((hF1 x (fun j9 h8 h7 => (show False from h7).elim)).trans h_3)
    refine z_callV (As := [.int 0, .int 1]) (rest := []) B (r_throwsIf G l Φ2 sz x rd nw cr tp tt fl pe le nx il qu kn ec nu va st ep ti ad ob ra rt ex sa us tk 0 0 1 hx hI2 (by decide) hnw) (cwV 2 B.1.2.2.2.2 gX12_counter_X12_throwsIf rfl rfl rfl (by decide +kernel) ⟨Nat.le_of_ble_eq_true rfl, Nat.le_of_ble_eq_true rfl⟩) h_4 rfl rfl rfl rfl (Nat.le_of_ble_eq_true rfl) dX12_counter_24 ⟨Nat.le_of_ble_eq_true rfl, Nat.le_of_ble_eq_true rfl⟩ (fun r_2 Φ3 sz2 st2 hp2 hs2 => ?_)
    obtain ⟨rfl, hq2, ⟨v_6, hI3⟩, hF2⟩ := hp2
    subst sz2
    replace hs2 : st2 = [.int 0] := hs2
    subst st2
    replace hI3 : Im G x (rd, nw, cr, tp, tt, fl, pe, le, nx, il, qu, kn, ec, nu, va, st, ep, ti, ad, ob, ra, rt, ex, sa, us, tk, v_6) Φ3 := hI3
    refine z_if_eq (tgt := 34) B dX12_counter_27 rfl (fun c_2 => ?_) (fun h9 => absurd (by decide) h9)
    refine z_aload_n B dX12_counter_34 rfl 0 rfl ?_
    obtain ⟨v_7, v_8, v_9, v_10, n_4, v_11, n_5, h_5, b_26, b_14, b_15, b_16, b_17, b_18, b_19, b_20, b_21, b_22, b_23, b_24, b_25⟩ := im0 hI3
    replace b_14 : 1 ≤ rt := b_14
    replace b_15 : rt ≤ 1024 := b_15
    replace b_16 : fl ≤ 12 := b_16
    replace b_17 : pe ≤ 24 := b_17
    replace b_18 : le ≤ 700 := b_18
    replace b_19 : qu ≤ 12 := b_19
    replace b_20 : n_4 ≤ 8 := b_20
    replace b_21 : n_5 ≤ 24 := b_21
    replace b_22 : tk ≤ 24 := b_22
    replace b_23 : il ≤ 700 := b_23
    replace b_24 : nx ≤ 701 := b_24
    replace b_25 : st ≤ 701 := b_25
    have h_6 : Φ3 x = some (o_ 14 [.int v_6, .ref (x + 1), .ref (x + 2), .int ti, .int ra, .int (nI rt), .int ex, .int ad, .ref (x + 3), .ref (x + 4), .int v_7, .long v_8, .ref (x + 5), .int (nI fl), .int v_9, .long ob, .long sa, .long v_10, .long us, .ref (x + 6), .ref (x + 7), .int (nI pe), .ref (x + 8), .int (nI le), .ref (x + 9), .ref (x + 10), .int (nI qu), .ref (x + 11), .ref (x + 12), .ref (x + 13), .ref (x + 14), .ref (x + 15), .ref (x + 16), .int (nI n_4), .long v_11, .ref (x + 17), .ref (x + 18), .ref (x + 19), .ref (x + 20), .ref (x + 21), .ref (x + 22), .int (nI n_5), .ref (x + 23), .ref (x + 24), .int (nI tk), .ref (x + 25), .int (nI il), .int (nI nx), .int ec, .int ep, .int kn, .int (nI st), .int nu, .long va]) := h_5
    refine z_get (ref := "FlowExporterModel") (C := RX12) (T := TX12) (N := 54) (ci := 14) (v := .ref (x + 11)) B hu_X12_counter_X12 rfl 27 (Nat.le_of_ble_eq_true rfl) hv_X12_counter_45 rfl h_6 rfl dX12_counter_35 ?_
    refine z_iload_n B dX12_counter_38 rfl 1 rfl ?_
    obtain ⟨f_1, h_7⟩ := imk (k := 11) hI3
    have h_8 : Φ3 (x + 11) = some (al_ G 9 f_1) := h_7
    refine z_lald B h_8 (vp_in_nI (by omega) (by omega)) dX12_counter_39 ?_
    refine z_fl (fun v_12 => ?_)
    exact z_ret_l B dX12_counter_40 ⟨⟨_, rfl⟩, rfl, ⟨v_6, hI3⟩, (fun b9 h9 => ((hF2 b9 h9).trans ((hF1 b9 (fun j9 h8 h7 => (show False from h7).elim)).trans ((fset_fr hΦ1 (fun h8 => h9 (0) h8 (show 0 = 0 by decide))).trans rfl))))⟩
  · have q_1 : ¬ (0 ≤ a.toInt ∧ a.toInt ≤ 8) := fun h9 => hR1 ((inP_i (by decide) (by decide)).mpr h9)
    refine z_callS (As := [.long a.toInt64, .long 0, .long 8]) (rest := [.ref x]) B (c_inR0 G l Φ1 sz a.toInt64 0 8 hR1 (fun v8 Φ8 sz8 => v8 = some (.int 0) ∧ sz8 = sz ∧ Im G x (rd, nw, cr, tp, tt, fl, pe, le, nx, il, qu, kn, ec, nu, va, st, ep, ti, ad, ob, ra, rt, ex, sa, us, tk, 0) Φ8 ∧ Fr x (fun j9 => False) Φ1 Φ8) ⟨rfl, rfl, hI1, fun _ _ => rfl⟩) (va_cwS 3 B.1.2.2.2.2 gX12_counter_X12_inRange rfl rfl rfl (by decide +kernel) ⟨Nat.le_of_ble_eq_true rfl, Nat.le_of_ble_eq_true rfl⟩) rfl rfl (Nat.le_of_ble_eq_true rfl) dX12_counter_12 ⟨Nat.le_of_ble_eq_true rfl, Nat.le_of_ble_eq_true rfl⟩ (fun r_4 Φ4 sz3 st3 hp3 hs3 => ?_)
    obtain ⟨rfl, hq3, hI4, hF3⟩ := hp3
    subst sz3
    replace hs3 : st3 = [.int 0, .ref x] := hs3
    subst st3
    refine z_if_ne (tgt := 22) B dX12_counter_15 rfl (fun h9 => absurd (by decide) h9) (fun c_3 => ?_)
    refine z_iconst (v := 1) B dX12_counter_18 rfl ?_
    refine z_goto (tgt := 23) B dX12_counter_19 rfl ?_
    refine z_iconst (v := 1) B dX12_counter_23 rfl ?_
    have h_9 : Φ4 x = some (o_ 14 [.int 0, .ref (x + 1), .ref (x + 2), .int ti, .int ra, .int (nI rt), .int ex, .int ad, .ref (x + 3), .ref (x + 4), .int v_1, .long v_2, .ref (x + 5), .int (nI fl), .int v_3, .long ob, .long sa, .long v_4, .long us, .ref (x + 6), .ref (x + 7), .int (nI pe), .ref (x + 8), .int (nI le), .ref (x + 9), .ref (x + 10), .int (nI qu), .ref (x + 11), .ref (x + 12), .ref (x + 13), .ref (x + 14), .ref (x + 15), .ref (x + 16), .int (nI n_1), .long v_5, .ref (x + 17), .ref (x + 18), .ref (x + 19), .ref (x + 20), .ref (x + 21), .ref (x + 22), .int (nI n_2), .ref (x + 23), .ref (x + 24), .int (nI tk), .ref (x + 25), .int (nI il), .int (nI nx), .int ec, .int ep, .int kn, .int (nI st), .int nu, .long va]) := ((hF3 x (fun j9 h8 h7 => (show False from h7).elim)).trans h_3)
    refine z_callV (As := [.int 1, .int 1]) (rest := []) B (r_throwsIf G l Φ4 sz x rd nw cr tp tt fl pe le nx il qu kn ec nu va st ep ti ad ob ra rt ex sa us tk 0 1 1 hx hI4 (by decide) hnw) (cwV 2 B.1.2.2.2.2 gX12_counter_X12_throwsIf rfl rfl rfl (by decide +kernel) ⟨Nat.le_of_ble_eq_true rfl, Nat.le_of_ble_eq_true rfl⟩) h_9 rfl rfl rfl rfl (Nat.le_of_ble_eq_true rfl) dX12_counter_24 ⟨Nat.le_of_ble_eq_true rfl, Nat.le_of_ble_eq_true rfl⟩ (fun r_5 Φ5 sz4 st4 hp4 hs4 => ?_)
    obtain ⟨rfl, hq4, ⟨v_13, hI5⟩, hF4⟩ := hp4
    subst sz4
    replace hs4 : st4 = [.int 1] := hs4
    subst st4
    replace hI5 : Im G x (rd, nw, cr, tp, tt, fl, pe, le, nx, il, qu, kn, ec, nu, va, st, ep, ti, ad, ob, ra, rt, ex, sa, us, tk, v_13) Φ5 := hI5
    refine z_if_eq (tgt := 34) B dX12_counter_27 rfl (fun h9 => absurd h9 (by decide)) (fun c_4 => ?_)
    refine z_lconst (v := 0) B dX12_counter_30 rfl ?_
    refine z_goto (tgt := 40) B dX12_counter_31 rfl ?_
    exact z_ret_l B dX12_counter_40 ⟨⟨_, rfl⟩, rfl, ⟨v_13, hI5⟩, (fun b9 h9 => ((hF4 b9 h9).trans ((hF3 b9 (fun j9 h8 h7 => (show False from h7).elim)).trans ((fset_fr hΦ1 (fun h8 => h9 (0) h8 (show 0 = 0 by decide))).trans rfl))))⟩

theorem hu_X12_lossRate_X12 : ∀ w ∈ u_ws RX12 TX12 54, w ∈ wsX12_lossRate := fun _ h => List.mem_cons_of_mem _ (List.mem_append_left _ (List.mem_append_right _ (h)))

theorem hv_X12_lossRate_1 : Cond.fieldLink RX12 1 "FlowExporterModel" (TX12 0).2.1 (TX12 0).2.2.1 ∈ wsX12_lossRate := List.mem_cons_of_mem _ (List.mem_append_left _ (List.mem_append_left _ (List.mem_of_getElem? (i := 0) rfl)))

theorem hv_X12_lossRate_45 : Cond.fieldLink RX12 45 "FlowExporterModel" (TX12 27).2.1 (TX12 27).2.2.1 ∈ wsX12_lossRate := List.mem_cons_of_mem _ (List.mem_append_left _ (List.mem_append_left _ (List.mem_of_getElem? (i := 1) rfl)))

theorem fq_1086 {x : Nat} : ∀ j9 : Nat, x + 11 = x + j9 → (j9 = 0) → False := by
  intro j9 h1 h2
  omega

set_option maxHeartbeats 4000000 in
set_option maxRecDepth 100000 in
theorem r_lossRate (G : EnvG) (l : Launch) (Φ : Hm) (sz x : Nat) (rd : (Nat → Int32) → Prop) (nw : (Nat → Int32) → Prop) (cr : (Nat → Int64) → Prop) (tp : (Nat → Int32) → Prop) (tt : (Nat → Int64) → Prop) (fl : Nat) (pe : Nat) (le : Nat) (nx : Nat) (il : Nat) (qu : Nat) (kn : Int32) (ec : Int32) (nu : Int32) (va : Int64) (st : Nat) (ep : Int32) (ti : Int32) (ad : Int32) (ob : Int64) (ra : Int32) (rt : Nat) (ex : Int32) (sa : Int64) (us : Int64) (tk : Nat) (th : Int32)  (hx : G.2.2.2 ≤ x) (hI : Im G x (rd, nw, cr, tp, tt, fl, pe, le, nx, il, qu, kn, ec, nu, va, st, ep, ti, ad, ob, ra, rt, ex, sa, us, tk, th) Φ) (hnw : ∀ f9 : Nat → Int32, nw f9 → NN f9) : Ct G l yX12_lossRate wsX12_lossRate ({ frames := 1, cells := 0, slots := 0, locals := 22 }) 0 0 [.ref x] Φ sz (fun v Φ1 sz1 => (∃ r9 : UInt64, v = some (.double r9) ∧ nn64 r9) ∧ sz1 = sz ∧ (∃ (th1 : Int32), Im G x (rd, nw, cr, tp, tt, fl, pe, le, nx, il, qu, kn, ec, nu, va, st, ep, ti, ad, ob, ra, rt, ex, sa, us, tk, th1) Φ1) ∧ Fr x (fun j9 => j9 = 0) Φ Φ1) := by
  refine Ct.of (cc := cX12_lossRate) (maxL := 3) (ret := (some .double)) (by decide) rfl (Nat.le_of_ble_eq_true rfl) ?_
  intro p9 e9 s9 m9 w9 t9 k9 B
  show Z p9 l e9 _ s9 m9 _ w9 t9 k9 _ G 3 0 [(0, .ref x)] [] Φ sz 0 0
  refine z_aload_n B dX12_lossRate_0 rfl 0 rfl ?_
  refine z_iconst (v := 0) B dX12_lossRate_1 rfl ?_
  obtain ⟨v_1, v_2, v_3, v_4, n_1, v_5, n_2, h_1, b_13, b_1, b_2, b_3, b_4, b_5, b_6, b_7, b_8, b_9, b_10, b_11, b_12⟩ := im0 hI
  replace b_1 : 1 ≤ rt := b_1
  replace b_2 : rt ≤ 1024 := b_2
  replace b_3 : fl ≤ 12 := b_3
  replace b_4 : pe ≤ 24 := b_4
  replace b_5 : le ≤ 700 := b_5
  replace b_6 : qu ≤ 12 := b_6
  replace b_7 : n_1 ≤ 8 := b_7
  replace b_8 : n_2 ≤ 24 := b_8
  replace b_9 : tk ≤ 24 := b_9
  replace b_10 : il ≤ 700 := b_10
  replace b_11 : nx ≤ 701 := b_11
  replace b_12 : st ≤ 701 := b_12
  have h_2 : Φ x = some (o_ 14 [.int th, .ref (x + 1), .ref (x + 2), .int ti, .int ra, .int (nI rt), .int ex, .int ad, .ref (x + 3), .ref (x + 4), .int v_1, .long v_2, .ref (x + 5), .int (nI fl), .int v_3, .long ob, .long sa, .long v_4, .long us, .ref (x + 6), .ref (x + 7), .int (nI pe), .ref (x + 8), .int (nI le), .ref (x + 9), .ref (x + 10), .int (nI qu), .ref (x + 11), .ref (x + 12), .ref (x + 13), .ref (x + 14), .ref (x + 15), .ref (x + 16), .int (nI n_1), .long v_5, .ref (x + 17), .ref (x + 18), .ref (x + 19), .ref (x + 20), .ref (x + 21), .ref (x + 22), .int (nI n_2), .ref (x + 23), .ref (x + 24), .int (nI tk), .ref (x + 25), .int (nI il), .int (nI nx), .int ec, .int ep, .int kn, .int (nI st), .int nu, .long va]) := h_1
  refine z_put (ref := "FlowExporterModel") (C := RX12) (T := TX12) (N := 54) (ci := 14) (v := .int 0) B hu_X12_lossRate_X12 tyX12 tyX12_ok nmX12 rfl 0 (Nat.le_of_ble_eq_true rfl) hv_X12_lossRate_1 rfl (Or.inl rfl) h_2 hx rfl rfl (Nat.le_of_ble_eq_true rfl) dX12_lossRate_2 (fun Φ1 hΦ1 => ?_)
  have h_3 : Φ1 x = some (o_ 14 [.int 0, .ref (x + 1), .ref (x + 2), .int ti, .int ra, .int (nI rt), .int ex, .int ad, .ref (x + 3), .ref (x + 4), .int v_1, .long v_2, .ref (x + 5), .int (nI fl), .int v_3, .long ob, .long sa, .long v_4, .long us, .ref (x + 6), .ref (x + 7), .int (nI pe), .ref (x + 8), .int (nI le), .ref (x + 9), .ref (x + 10), .int (nI qu), .ref (x + 11), .ref (x + 12), .ref (x + 13), .ref (x + 14), .ref (x + 15), .ref (x + 16), .int (nI n_1), .long v_5, .ref (x + 17), .ref (x + 18), .ref (x + 19), .ref (x + 20), .ref (x + 21), .ref (x + 22), .int (nI n_2), .ref (x + 23), .ref (x + 24), .int (nI tk), .ref (x + 25), .int (nI il), .int (nI nx), .int ec, .int ep, .int kn, .int (nI st), .int nu, .long va]) := fset_at hΦ1
  have hI1 : Im G x (rd, nw, cr, tp, tt, fl, pe, le, nx, il, qu, kn, ec, nu, va, st, ep, ti, ad, ob, ra, rt, ex, sa, us, tk, 0) Φ1 := Im.put0 hI hΦ1 ⟨v_1, v_2, v_3, v_4, n_1, v_5, n_2, rfl, b_13, b_1, b_2, b_3, b_4, b_5, b_6, b_7, b_8, b_9, b_10, b_11, b_12⟩
  refine z_aload_n B dX12_lossRate_5 rfl 0 rfl ?_
  refine z_get (ref := "FlowExporterModel") (C := RX12) (T := TX12) (N := 54) (ci := 14) (v := .ref (x + 11)) B hu_X12_lossRate_X12 rfl 27 (Nat.le_of_ble_eq_true rfl) hv_X12_lossRate_45 rfl h_3 rfl dX12_lossRate_6 ?_
  refine z_iconst (v := 0) B dX12_lossRate_9 rfl ?_
  obtain ⟨f_1, h_4⟩ := imk (k := 11) hI1
  have h_5 : Φ1 (x + 11) = some (al_ G 9 f_1) := h_4
  refine z_lald B h_5 (vin rfl) dX12_lossRate_10 ?_
  refine z_fl (fun v_6 => ?_)
  refine z_aload_n B dX12_lossRate_11 rfl 0 rfl ?_
  refine z_get (ref := "FlowExporterModel") (C := RX12) (T := TX12) (N := 54) (ci := 14) (v := .ref (x + 11)) B hu_X12_lossRate_X12 rfl 27 (Nat.le_of_ble_eq_true rfl) hv_X12_lossRate_45 rfl h_3 rfl dX12_lossRate_12 ?_
  refine z_bipush (v := 7) B dX12_lossRate_15 rfl ?_
  refine z_lald B h_5 (vin rfl) dX12_lossRate_17 ?_
  refine z_fl (fun v_7 => ?_)
  refine z_ladd B dX12_lossRate_18 ?_
  refine z_fl (fun v_8 => ?_)
  refine z_lstore_n (lv' := [(1, .long v_8), (0, .ref x)]) B dX12_lossRate_19 rfl (Nat.le_of_ble_eq_true rfl) rfl ?_
  refine z_aload_n B dX12_lossRate_20 rfl 1 rfl ?_
  refine z_lload_n B dX12_lossRate_21 rfl 0 rfl ?_
  refine z_lconst (v := 0) B dX12_lossRate_22 rfl ?_
  refine z_lcmp B dX12_lossRate_23 ?_
  refine z_if_ne (tgt := 31) B dX12_lossRate_24 rfl (fun c_1 => ?_) (fun c_1 => ?_)
  · refine z_iconst (v := 0) B dX12_lossRate_31 rfl ?_
    refine z_iconst (v := 1) B dX12_lossRate_32 rfl ?_
    refine z_callV (As := [.int 0, .int 1]) (rest := []) B (r_throwsIf G l Φ1 sz x rd nw cr tp tt fl pe le nx il qu kn ec nu va st ep ti ad ob ra rt ex sa us tk 0 0 1 hx hI1 (by decide) hnw) (cwV 2 B.1.2.2.2.2 gX12_lossRate_X12_throwsIf rfl rfl rfl (by decide +kernel) ⟨Nat.le_of_ble_eq_true rfl, Nat.le_of_ble_eq_true rfl⟩) h_3 rfl rfl rfl rfl (Nat.le_of_ble_eq_true rfl) dX12_lossRate_33 ⟨Nat.le_of_ble_eq_true rfl, Nat.le_of_ble_eq_true rfl⟩ (fun r_2 Φ2 sz1 st1 hp1 hs1 => ?_)
    obtain ⟨rfl, hq1, ⟨v_9, hI2⟩, hF1⟩ := hp1
    subst sz1
    replace hs1 : st1 = [.int 0] := hs1
    subst st1
    replace hI2 : Im G x (rd, nw, cr, tp, tt, fl, pe, le, nx, il, qu, kn, ec, nu, va, st, ep, ti, ad, ob, ra, rt, ex, sa, us, tk, v_9) Φ2 := hI2
    refine z_if_eq (tgt := 43) B dX12_lossRate_36 rfl (fun c_2 => ?_) (fun h9 => absurd (by decide) h9)
    refine z_aload_n B dX12_lossRate_43 rfl 1 rfl ?_
    obtain ⟨v_10, v_11, v_12, v_13, n_3, v_14, n_4, h_6, b_26, b_14, b_15, b_16, b_17, b_18, b_19, b_20, b_21, b_22, b_23, b_24, b_25⟩ := im0 hI2
    replace b_14 : 1 ≤ rt := b_14
    replace b_15 : rt ≤ 1024 := b_15
    replace b_16 : fl ≤ 12 := b_16
    replace b_17 : pe ≤ 24 := b_17
    replace b_18 : le ≤ 700 := b_18
    replace b_19 : qu ≤ 12 := b_19
    replace b_20 : n_3 ≤ 8 := b_20
    replace b_21 : n_4 ≤ 24 := b_21
    replace b_22 : tk ≤ 24 := b_22
    replace b_23 : il ≤ 700 := b_23
    replace b_24 : nx ≤ 701 := b_24
    replace b_25 : st ≤ 701 := b_25
    have h_7 : Φ2 x = some (o_ 14 [.int v_9, .ref (x + 1), .ref (x + 2), .int ti, .int ra, .int (nI rt), .int ex, .int ad, .ref (x + 3), .ref (x + 4), .int v_10, .long v_11, .ref (x + 5), .int (nI fl), .int v_12, .long ob, .long sa, .long v_13, .long us, .ref (x + 6), .ref (x + 7), .int (nI pe), .ref (x + 8), .int (nI le), .ref (x + 9), .ref (x + 10), .int (nI qu), .ref (x + 11), .ref (x + 12), .ref (x + 13), .ref (x + 14), .ref (x + 15), .ref (x + 16), .int (nI n_3), .long v_14, .ref (x + 17), .ref (x + 18), .ref (x + 19), .ref (x + 20), .ref (x + 21), .ref (x + 22), .int (nI n_4), .ref (x + 23), .ref (x + 24), .int (nI tk), .ref (x + 25), .int (nI il), .int (nI nx), .int ec, .int ep, .int kn, .int (nI st), .int nu, .long va]) := h_6
    refine z_get (ref := "FlowExporterModel") (C := RX12) (T := TX12) (N := 54) (ci := 14) (v := .ref (x + 11)) B hu_X12_lossRate_X12 rfl 27 (Nat.le_of_ble_eq_true rfl) hv_X12_lossRate_45 rfl h_7 rfl dX12_lossRate_44 ?_
    refine z_iconst (v := 0) B dX12_lossRate_47 rfl ?_
    have h_8 : Φ2 (x + 11) = some (al_ G 9 f_1) := ((hF1 (x + 11) fq_1086).trans h_5)
    refine z_lald B h_8 (vin rfl) dX12_lossRate_48 ?_
    refine z_fl (fun v_15 => ?_)
    refine z_l2d B dX12_lossRate_49 ?_
    refine z_fdq (P := fun u9 : UInt64 => sm64 12 u9) (l2d_sm v_15) (fun v_16 q_2 => ?_)
    replace q_2 : sm64 12 v_16 := q_2
    refine z_lload_n B dX12_lossRate_50 rfl 0 rfl ?_
    refine z_l2d B dX12_lossRate_51 ?_
    have q_4 : nn64 (FP.ddiv v_16 (FP.l2d v_8)) := (div_nnw (sm_nn q_2) (l2d_w (fun h8 => c_1 ((lg_cmp_eq _ _).mpr h8))))
    refine z_ddiv B dX12_lossRate_52 (vf_of q_4) ?_
    refine z_fdq (P := fun u9 : UInt64 => nn64 u9) q_4 (fun v_17 q_6 => ?_)
    replace q_6 : nn64 v_17 := q_6
    exact z_ret_d B dX12_lossRate_53 ⟨⟨_, rfl, q_6⟩, rfl, ⟨v_9, hI2⟩, (fun b9 h9 => ((hF1 b9 h9).trans ((fset_fr hΦ1 (fun h8 => h9 (0) h8 (show 0 = 0 by decide))).trans rfl)))⟩
  · refine z_iconst (v := 1) B dX12_lossRate_27 rfl ?_
    refine z_goto (tgt := 32) B dX12_lossRate_28 rfl ?_
    refine z_iconst (v := 1) B dX12_lossRate_32 rfl ?_
    refine z_callV (As := [.int 1, .int 1]) (rest := []) B (r_throwsIf G l Φ1 sz x rd nw cr tp tt fl pe le nx il qu kn ec nu va st ep ti ad ob ra rt ex sa us tk 0 1 1 hx hI1 (by decide) hnw) (cwV 2 B.1.2.2.2.2 gX12_lossRate_X12_throwsIf rfl rfl rfl (by decide +kernel) ⟨Nat.le_of_ble_eq_true rfl, Nat.le_of_ble_eq_true rfl⟩) h_3 rfl rfl rfl rfl (Nat.le_of_ble_eq_true rfl) dX12_lossRate_33 ⟨Nat.le_of_ble_eq_true rfl, Nat.le_of_ble_eq_true rfl⟩ (fun r_3 Φ3 sz2 st2 hp2 hs2 => ?_)
    obtain ⟨rfl, hq2, ⟨v_18, hI3⟩, hF2⟩ := hp2
    subst sz2
    replace hs2 : st2 = [.int 1] := hs2
    subst st2
    replace hI3 : Im G x (rd, nw, cr, tp, tt, fl, pe, le, nx, il, qu, kn, ec, nu, va, st, ep, ti, ad, ob, ra, rt, ex, sa, us, tk, v_18) Φ3 := hI3
    refine z_if_eq (tgt := 43) B dX12_lossRate_36 rfl (fun h9 => absurd h9 (by decide)) (fun c_3 => ?_)
    refine z_dconst0 B dX12_lossRate_39 ?_
    refine z_goto (tgt := 53) B dX12_lossRate_40 rfl ?_
    exact z_ret_d B dX12_lossRate_53 ⟨⟨_, rfl, (sm_nn sm_zero)⟩, rfl, ⟨v_18, hI3⟩, (fun b9 h9 => ((hF2 b9 h9).trans ((fset_fr hΦ1 (fun h8 => h9 (0) h8 (show 0 = 0 by decide))).trans rfl)))⟩

theorem hu_X12_get_X12 : ∀ w ∈ u_ws RX12 TX12 54, w ∈ wsX12_get := fun _ h => List.mem_cons_of_mem _ (List.mem_append_left _ (List.mem_append_right _ (h)))

theorem hv_X12_get_36 : Cond.fieldLink RX12 36 "FlowExporterModel" (TX12 22).2.1 (TX12 22).2.2.1 ∈ wsX12_get := List.mem_cons_of_mem _ (List.mem_append_left _ (List.mem_append_left _ (List.mem_of_getElem? (i := 0) rfl)))

set_option maxHeartbeats 4000000 in
set_option maxRecDepth 100000 in
theorem r_get (G : EnvG) (l : Launch) (Φ : Hm) (sz x : Nat) (rd : (Nat → Int32) → Prop) (nw : (Nat → Int32) → Prop) (cr : (Nat → Int64) → Prop) (tp : (Nat → Int32) → Prop) (tt : (Nat → Int64) → Prop) (fl : Nat) (pe : Nat) (le : Nat) (nx : Nat) (il : Nat) (qu : Nat) (kn : Int32) (ec : Int32) (nu : Int32) (va : Int64) (st : Nat) (ep : Int32) (ti : Int32) (ad : Int32) (ob : Int64) (ra : Int32) (rt : Nat) (ex : Int32) (sa : Int64) (us : Int64) (tk : Nat) (th : Int32) (q : Nat) (n : Nat) (hx : G.2.2.2 ≤ x) (hI : Im G x (rd, nw, cr, tp, tt, fl, pe, le, nx, il, qu, kn, ec, nu, va, st, ep, ti, ad, ob, ra, rt, ex, sa, us, tk, th) Φ) (hn : n ≤ 8) (hq : q + n ≤ 700) (hnw : ∀ f9 : Nat → Int32, nw f9 → NN f9) : Ct G l yX12_get wsX12_get ({ frames := 0, cells := 0, slots := 0, locals := 0 }) 0 0 [.ref x, .int (nI q), .int (nI n)] Φ sz (fun v Φ1 sz1 => (∃ r9 : Int64, v = some (.long r9) ∧ np n r9) ∧ sz1 = sz ∧ (Im G x (rd, nw, cr, tp, tt, fl, pe, le, nx, il, qu, kn, ec, nu, va, st, ep, ti, ad, ob, ra, rt, ex, sa, us, tk, th) Φ1) ∧ Fr x (fun j9 => False) Φ Φ1) := by
  refine Ct.of (cc := cX12_get) (maxL := 6) (ret := (some .long)) (by decide) rfl (Nat.le_of_ble_eq_true rfl) ?_
  intro p9 e9 s9 m9 w9 t9 k9 B
  show Z p9 l e9 _ s9 m9 _ w9 t9 k9 _ G 6 0 [(0, .ref x), (1, .int (nI q)), (2, .int (nI n))] [] Φ sz 0 0
  refine z_lconst (v := 0) B dX12_get_0 rfl ?_
  refine z_lstore_n (lv' := [(3, .long 0), (0, .ref x), (1, .int (nI q)), (2, .int (nI n))]) B dX12_get_1 rfl (Nat.le_of_ble_eq_true rfl) rfl ?_
  refine z_iload_n B dX12_get_2 rfl 2 rfl ?_
  refine z_istore (lv' := [(5, .int (nI q)), (3, .long 0), (0, .ref x), (1, .int (nI q)), (2, .int (nI n))]) B dX12_get_3 (Nat.le_of_ble_eq_true rfl) rfl ?_
  refine z_lv [0, 1, 2, 3, 4] rfl ?_
  refine z_loop (α := Nat × Int64) (fun (a9 : Nat × Int64) Φi => Im G x (rd, nw, cr, tp, tt, fl, pe, le, nx, il, qu, kn, ec, nu, va, st, ep, ti, ad, ob, ra, rt, ex, sa, us, tk, th) Φi ∧ Fr x (fun j9 => False) Φ Φi ∧ (a9.1 ≤ q + n) ∧ (q ≤ a9.1) ∧ (np (a9.1 - q) a9.2) ∧ True) (fun a9 => [(5, .int (nI (a9.1))), (3, .long a9.2), (0, .ref x), (1, .int (nI q)), (2, .int (nI n))]) (fun a9 => q + n - a9.1) ?_ (q, 0) ⟨hI, fun _ _ => rfl, (show q ≤ q + n by omega), (show q ≤ q by omega), ((show q - q = 0 by omega).symm ▸ np_0), trivial⟩
  rintro ⟨i_1, i_2⟩ Φl1 ⟨hI1, hF1, b_1, b_2, b_3, -⟩ ih1
  replace hI1 : Im G x (rd, nw, cr, tp, tt, fl, pe, le, nx, il, qu, kn, ec, nu, va, st, ep, ti, ad, ob, ra, rt, ex, sa, us, tk, th) Φl1 := hI1
  replace b_1 : i_1 ≤ q + n := b_1
  replace b_2 : q ≤ i_1 := b_2
  replace b_3 : np (i_1 - q) i_2 := b_3
  show Z p9 l e9 _ s9 m9 _ w9 t9 k9 _ G 6 5 [(5, .int (nI i_1)), (3, .long i_2), (0, .ref x), (1, .int (nI q)), (2, .int (nI n))] [] Φl1 _ _ _
  refine z_iload B dX12_get_5 0 rfl ?_
  refine z_iload_n B dX12_get_7 rfl 3 rfl ?_
  refine z_iload_n B dX12_get_8 rfl 4 rfl ?_
  refine z_iadd B dX12_get_9 ?_
  refine z_top (st1 := [.int (nI (q + n)), .int (nI i_1)]) (congrArg (fun w9 : Int32 => ([.int w9, .int (nI i_1)] : List Value)) (nI_add q n)) ?_
  refine z_icmp_ge (tgt := 33) B dX12_get_10 rfl (fun c_1 => ?_) (fun c_1 => ?_)
  · have e_1 : q + n ≤ i_1 := (nI_leI (a := q + n) (b := i_1) (by omega) (by omega)).mp c_1
    have hnp9 : np n i_2 := (show i_1 - q = n by omega) ▸ b_3
    refine z_lload_n B dX12_get_33 rfl 1 rfl ?_
    exact z_ret_l B dX12_get_34 ⟨⟨_, rfl, hnp9⟩, rfl, hI1, (fun b9 h9 => ((hF1 b9 (fun j9 h8 h7 => (show False from h7).elim)).trans rfl))⟩
  · have e_2 : ¬ (q + n ≤ i_1) := fun h9 => c_1 ((nI_leI (a := q + n) (b := i_1) (by omega) (by omega)).mpr h9)
    refine z_lload_n B dX12_get_13 rfl 1 rfl ?_
    refine z_bipush (v := 8) B dX12_get_14 rfl ?_
    refine z_lshl (v := i_2 <<< ((8 : Int32).toInt64 &&& 63)) B dX12_get_16 rfl ?_
    refine z_aload_n B dX12_get_17 rfl 2 rfl ?_
    obtain ⟨v_1, v_2, v_3, v_4, n_1, v_5, n_2, h_1, b_16, b_4, b_5, b_6, b_7, b_8, b_9, b_10, b_11, b_12, b_13, b_14, b_15⟩ := im0 hI1
    replace b_4 : 1 ≤ rt := b_4
    replace b_5 : rt ≤ 1024 := b_5
    replace b_6 : fl ≤ 12 := b_6
    replace b_7 : pe ≤ 24 := b_7
    replace b_8 : le ≤ 700 := b_8
    replace b_9 : qu ≤ 12 := b_9
    replace b_10 : n_1 ≤ 8 := b_10
    replace b_11 : n_2 ≤ 24 := b_11
    replace b_12 : tk ≤ 24 := b_12
    replace b_13 : il ≤ 700 := b_13
    replace b_14 : nx ≤ 701 := b_14
    replace b_15 : st ≤ 701 := b_15
    have h_2 : Φl1 x = some (o_ 14 [.int th, .ref (x + 1), .ref (x + 2), .int ti, .int ra, .int (nI rt), .int ex, .int ad, .ref (x + 3), .ref (x + 4), .int v_1, .long v_2, .ref (x + 5), .int (nI fl), .int v_3, .long ob, .long sa, .long v_4, .long us, .ref (x + 6), .ref (x + 7), .int (nI pe), .ref (x + 8), .int (nI le), .ref (x + 9), .ref (x + 10), .int (nI qu), .ref (x + 11), .ref (x + 12), .ref (x + 13), .ref (x + 14), .ref (x + 15), .ref (x + 16), .int (nI n_1), .long v_5, .ref (x + 17), .ref (x + 18), .ref (x + 19), .ref (x + 20), .ref (x + 21), .ref (x + 22), .int (nI n_2), .ref (x + 23), .ref (x + 24), .int (nI tk), .ref (x + 25), .int (nI il), .int (nI nx), .int ec, .int ep, .int kn, .int (nI st), .int nu, .long va]) := h_1
    refine z_get (ref := "FlowExporterModel") (C := RX12) (T := TX12) (N := 54) (ci := 14) (v := .ref (x + 8)) B hu_X12_get_X12 rfl 22 (Nat.le_of_ble_eq_true rfl) hv_X12_get_36 rfl h_2 rfl dX12_get_18 ?_
    refine z_iload B dX12_get_21 0 rfl ?_
    obtain ⟨f_1, h_3, r_1⟩ := imk (k := 8) hI1
    replace r_1 : Rw 255 f_1 := r_1
    have h_4 : Φl1 (x + 8) = some (ai_ G 700 f_1) := h_3
    refine z_iald B h_4 (vp_in_nI (by omega) (by omega)) dX12_get_23 ?_
    obtain ⟨n_3, b_17, e_3⟩ := r_1 ((nI i_1).toNatClampNeg)
    refine z_top (st1 := [.int (nI n_3), .long (i_2 <<< ((8 : Int32).toInt64 &&& 63))]) (congrArg (fun w9 : Int32 => ([.int w9, .long (i_2 <<< ((8 : Int32).toInt64 &&& 63))] : List Value)) (e_3)) ?_
    refine z_i2l (v := (nI n_3).toInt64) B dX12_get_24 rfl ?_
    refine z_lor B dX12_get_25 ?_
    refine z_lstore_n (lv' := [(3, .long ((i_2 <<< ((8 : Int32).toInt64 &&& 63)) ||| ((nI n_3).toInt64))), (5, .int (nI i_1)), (0, .ref x), (1, .int (nI q)), (2, .int (nI n))]) B dX12_get_26 rfl (Nat.le_of_ble_eq_true rfl) rfl ?_
    refine z_iinc (k := 1) (v := nI (i_1 + 1)) (lv' := [(5, .int (nI (i_1 + 1))), (3, .long ((i_2 <<< ((8 : Int32).toInt64 &&& 63)) ||| ((nI n_3).toInt64))), (0, .ref x), (1, .int (nI q)), (2, .int (nI n))]) B dX12_get_27 rfl (nI_add i_1 1) (Nat.le_of_ble_eq_true rfl) rfl ?_
    refine z_goto (tgt := 5) B dX12_get_30 rfl ?_
    refine z_lv [0, 1, 2, 3, 4] rfl ?_
    exact ih1 (i_1 + 1, (i_2 <<< ((8 : Int32).toInt64 &&& 63)) ||| ((nI n_3).toInt64)) Φl1 (show q + n - (i_1 + 1) < q + n - i_1 by omega) ⟨hI1, (fun b9 h9 => ((hF1 b9 (fun j9 h8 h7 => (show False from h7).elim)).trans rfl)), (show (i_1 + 1) ≤ q + n by omega), (show q ≤ (i_1 + 1) by omega), ((show i_1 + 1 - q = (i_1 - q) + 1 by omega) ▸ np_step b_3), trivial⟩

theorem hu_X12_isDouble_X12 : ∀ w ∈ u_ws RX12 TX12 54, w ∈ wsX12_isDouble := fun _ h => List.mem_cons_of_mem _ (List.mem_append_left _ (List.mem_append_right _ (h)))

theorem hv_X12_isDouble_326 : Cond.fieldLink RX12 326 "FlowExporterModel" (TX12 33).2.1 (TX12 33).2.2.1 ∈ wsX12_isDouble := List.mem_cons_of_mem _ (List.mem_append_left _ (List.mem_append_left _ (List.mem_of_getElem? (i := 0) rfl)))

theorem hv_X12_isDouble_57 : Cond.fieldLink RX12 57 "FlowExporterModel" (TX12 31).2.1 (TX12 31).2.2.1 ∈ wsX12_isDouble := List.mem_cons_of_mem _ (List.mem_append_left _ (List.mem_append_left _ (List.mem_of_getElem? (i := 1) rfl)))

theorem hv_X12_isDouble_60 : Cond.fieldLink RX12 60 "FlowExporterModel" (TX12 32).2.1 (TX12 32).2.2.1 ∈ wsX12_isDouble := List.mem_cons_of_mem _ (List.mem_append_left _ (List.mem_append_left _ (List.mem_of_getElem? (i := 2) rfl)))

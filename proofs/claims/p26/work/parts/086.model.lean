set_option maxRecDepth 20000 in
theorem ggX12_restartCollector_X12_startCollector : GoodIn wsX12_restartCollector wsX12_startCollector := goodIn_ca ((goodIn_ca (goodIn_r _ [7, 2, 8, 9, 10] rfl (by decide +kernel)) (goodIn_sub (fun _ h => List.mem_cons_of_mem _ (List.mem_append_left _ (List.mem_append_right _ h))) gw_wsX120))) (goodIn_sub (fun _ h => List.mem_cons_of_mem _ (List.mem_append_right _ h)) (all_fg _))
set_option maxRecDepth 20000 in
theorem gX12_restartCollector_X12_startCollector : GoodIn wsX12_restartCollector (wsV RX12 154 RX12 yX12_startCollector wsX12_startCollector) := goodIn_app (goodIn_m (mem_cA (List.mem_cons_of_mem _ (List.mem_append_left _ (List.mem_append_left _ (List.mem_of_getElem? (i := 2) rfl)))) (mem_cA (List.mem_cons_of_mem _ (List.mem_append_left _ (List.mem_append_left _ (List.mem_of_getElem? (i := 3) rfl)))) (mem_cA (List.mem_cons_of_mem _ (List.mem_append_left _ (List.mem_append_left _ (List.mem_of_getElem? (i := 4) rfl)))) (mem_cA (List.mem_cons_of_mem _ (List.mem_append_left _ (List.mem_append_left _ (List.mem_of_getElem? (i := 5) rfl)))) mem_cZ)))) (by decide +kernel)) ggX12_restartCollector_X12_startCollector
theorem dX12_restartCollector_0 : decode cX12_restartCollector 0 = .ok (.aload_n 0, 1) := by decide +kernel
theorem dX12_restartCollector_1 : decode cX12_restartCollector 1 = .ok (.iconst 0, 1) := by decide +kernel
theorem dX12_restartCollector_2 : decode cX12_restartCollector 2 = .ok (.putfield 1, 3) := by decide +kernel
theorem dX12_restartCollector_5 : decode cX12_restartCollector 5 = .ok (.iconst 0, 1) := by decide +kernel
theorem dX12_restartCollector_6 : decode cX12_restartCollector 6 = .ok (.istore_n 1, 1) := by decide +kernel
theorem dX12_restartCollector_7 : decode cX12_restartCollector 7 = .ok (.iconst 0, 1) := by decide +kernel
theorem dX12_restartCollector_8 : decode cX12_restartCollector 8 = .ok (.istore_n 2, 1) := by decide +kernel
theorem dX12_restartCollector_9 : decode cX12_restartCollector 9 = .ok (.iload_n 2, 1) := by decide +kernel
theorem dX12_restartCollector_10 : decode cX12_restartCollector 10 = .ok (.iconst 4, 1) := by decide +kernel
theorem dX12_restartCollector_11 : decode cX12_restartCollector 11 = .ok (.if_icmp .ge 26, 3) := by decide +kernel
theorem dX12_restartCollector_14 : decode cX12_restartCollector 14 = .ok (.iload_n 1, 1) := by decide +kernel
theorem dX12_restartCollector_15 : decode cX12_restartCollector 15 = .ok (.aload_n 0, 1) := by decide +kernel
theorem dX12_restartCollector_16 : decode cX12_restartCollector 16 = .ok (.getfield 48, 3) := by decide +kernel
theorem dX12_restartCollector_19 : decode cX12_restartCollector 19 = .ok (.iload_n 2, 1) := by decide +kernel
theorem dX12_restartCollector_20 : decode cX12_restartCollector 20 = .ok (.iaload, 1) := by decide +kernel
theorem dX12_restartCollector_21 : decode cX12_restartCollector 21 = .ok (.ifCond .le 7, 3) := by decide +kernel
theorem dX12_restartCollector_24 : decode cX12_restartCollector 24 = .ok (.iconst 1, 1) := by decide +kernel
theorem dX12_restartCollector_25 : decode cX12_restartCollector 25 = .ok (.goto 4, 3) := by decide +kernel
theorem dX12_restartCollector_28 : decode cX12_restartCollector 28 = .ok (.iconst 0, 1) := by decide +kernel
theorem dX12_restartCollector_29 : decode cX12_restartCollector 29 = .ok (.iadd, 1) := by decide +kernel
theorem dX12_restartCollector_30 : decode cX12_restartCollector 30 = .ok (.istore_n 1, 1) := by decide +kernel
theorem dX12_restartCollector_31 : decode cX12_restartCollector 31 = .ok (.iinc 2 1, 3) := by decide +kernel
theorem dX12_restartCollector_34 : decode cX12_restartCollector 34 = .ok (.goto (-25), 3) := by decide +kernel
theorem dX12_restartCollector_37 : decode cX12_restartCollector 37 = .ok (.aload_n 0, 1) := by decide +kernel
theorem dX12_restartCollector_38 : decode cX12_restartCollector 38 = .ok (.invokevirtual 154, 3) := by decide +kernel
theorem dX12_restartCollector_41 : decode cX12_restartCollector 41 = .ok (.iload_n 1, 1) := by decide +kernel
theorem dX12_restartCollector_42 : decode cX12_restartCollector 42 = .ok (.ireturn, 1) := by decide +kernel
theorem dX12_isKnown_0 : decode cX12_isKnown 0 = .ok (.aload_n 0, 1) := by decide +kernel
theorem dX12_isKnown_1 : decode cX12_isKnown 1 = .ok (.getfield 48, 3) := by decide +kernel
theorem dX12_isKnown_4 : decode cX12_isKnown 4 = .ok (.iload_n 1, 1) := by decide +kernel
theorem dX12_isKnown_5 : decode cX12_isKnown 5 = .ok (.iaload, 1) := by decide +kernel
theorem dX12_isKnown_6 : decode cX12_isKnown 6 = .ok (.ifCond .le 28, 3) := by decide +kernel
theorem dX12_isKnown_9 : decode cX12_isKnown 9 = .ok (.aload_n 0, 1) := by decide +kernel
theorem dX12_isKnown_10 : decode cX12_isKnown 10 = .ok (.getfield 101, 3) := by decide +kernel
theorem dX12_isKnown_13 : decode cX12_isKnown 13 = .ok (.aload_n 0, 1) := by decide +kernel
theorem dX12_isKnown_14 : decode cX12_isKnown 14 = .ok (.getfield 54, 3) := by decide +kernel
theorem dX12_isKnown_17 : decode cX12_isKnown 17 = .ok (.iload_n 1, 1) := by decide +kernel
theorem dX12_isKnown_18 : decode cX12_isKnown 18 = .ok (.iaload, 1) := by decide +kernel
theorem dX12_isKnown_19 : decode cX12_isKnown 19 = .ok (.isub, 1) := by decide +kernel
theorem dX12_isKnown_20 : decode cX12_isKnown 20 = .ok (.aload_n 0, 1) := by decide +kernel
theorem dX12_isKnown_21 : decode cX12_isKnown 21 = .ok (.getfield 17, 3) := by decide +kernel
theorem dX12_isKnown_24 : decode cX12_isKnown 24 = .ok (.bipush 6, 2) := by decide +kernel
theorem dX12_isKnown_26 : decode cX12_isKnown 26 = .ok (.iaload, 1) := by decide +kernel
theorem dX12_isKnown_27 : decode cX12_isKnown 27 = .ok (.if_icmp .gt 7, 3) := by decide +kernel
theorem dX12_isKnown_30 : decode cX12_isKnown 30 = .ok (.iconst 1, 1) := by decide +kernel
theorem dX12_isKnown_31 : decode cX12_isKnown 31 = .ok (.goto 4, 3) := by decide +kernel
theorem dX12_isKnown_34 : decode cX12_isKnown 34 = .ok (.iconst 0, 1) := by decide +kernel
theorem dX12_isKnown_35 : decode cX12_isKnown 35 = .ok (.ireturn, 1) := by decide +kernel
set_option maxRecDepth 20000 in
theorem ggX12_knownTemplates_X12_isKnown : GoodIn wsX12_knownTemplates wsX12_isKnown := goodIn_ca ((goodIn_ca (goodIn_r _ [6, 7, 8, 9, 10] rfl (by decide +kernel)) (goodIn_sub (fun _ h => List.mem_cons_of_mem _ (List.mem_append_left _ (List.mem_append_right _ h))) gw_wsX120))) (goodIn_sub (fun _ h => List.mem_cons_of_mem _ (List.mem_append_right _ h)) (all_fg _))
set_option maxRecDepth 20000 in
theorem gX12_knownTemplates_X12_isKnown : GoodIn wsX12_knownTemplates (wsV RX12 334 RX12 yX12_isKnown wsX12_isKnown) := goodIn_app (goodIn_m (mem_cA (List.mem_cons_of_mem _ (List.mem_append_left _ (List.mem_append_left _ (List.mem_of_getElem? (i := 1) rfl)))) (mem_cA (List.mem_cons_of_mem _ (List.mem_append_left _ (List.mem_append_left _ (List.mem_of_getElem? (i := 2) rfl)))) (mem_cA (List.mem_cons_of_mem _ (List.mem_append_left _ (List.mem_append_left _ (List.mem_of_getElem? (i := 3) rfl)))) (mem_cA (List.mem_cons_of_mem _ (List.mem_append_left _ (List.mem_append_left _ (List.mem_of_getElem? (i := 4) rfl)))) mem_cZ)))) (by decide +kernel)) ggX12_knownTemplates_X12_isKnown
theorem dX12_knownTemplates_0 : decode cX12_knownTemplates 0 = .ok (.aload_n 0, 1) := by decide +kernel
theorem dX12_knownTemplates_1 : decode cX12_knownTemplates 1 = .ok (.iconst 0, 1) := by decide +kernel
theorem dX12_knownTemplates_2 : decode cX12_knownTemplates 2 = .ok (.putfield 1, 3) := by decide +kernel
theorem dX12_knownTemplates_5 : decode cX12_knownTemplates 5 = .ok (.iconst 0, 1) := by decide +kernel
theorem dX12_knownTemplates_6 : decode cX12_knownTemplates 6 = .ok (.istore_n 1, 1) := by decide +kernel
theorem dX12_knownTemplates_7 : decode cX12_knownTemplates 7 = .ok (.iconst 0, 1) := by decide +kernel
theorem dX12_knownTemplates_8 : decode cX12_knownTemplates 8 = .ok (.istore_n 2, 1) := by decide +kernel
theorem dX12_knownTemplates_9 : decode cX12_knownTemplates 9 = .ok (.iload_n 2, 1) := by decide +kernel
theorem dX12_knownTemplates_10 : decode cX12_knownTemplates 10 = .ok (.iconst 4, 1) := by decide +kernel
theorem dX12_knownTemplates_11 : decode cX12_knownTemplates 11 = .ok (.if_icmp .ge 27, 3) := by decide +kernel
theorem dX12_knownTemplates_14 : decode cX12_knownTemplates 14 = .ok (.iload_n 1, 1) := by decide +kernel
theorem dX12_knownTemplates_15 : decode cX12_knownTemplates 15 = .ok (.aload_n 0, 1) := by decide +kernel
theorem dX12_knownTemplates_16 : decode cX12_knownTemplates 16 = .ok (.iload_n 2, 1) := by decide +kernel
theorem dX12_knownTemplates_17 : decode cX12_knownTemplates 17 = .ok (.invokevirtual 334, 3) := by decide +kernel
theorem dX12_knownTemplates_20 : decode cX12_knownTemplates 20 = .ok (.ifCond .eq 9, 3) := by decide +kernel
theorem dX12_knownTemplates_23 : decode cX12_knownTemplates 23 = .ok (.iconst 1, 1) := by decide +kernel
theorem dX12_knownTemplates_24 : decode cX12_knownTemplates 24 = .ok (.iload_n 2, 1) := by decide +kernel
theorem dX12_knownTemplates_25 : decode cX12_knownTemplates 25 = .ok (.ishl, 1) := by decide +kernel
theorem dX12_knownTemplates_26 : decode cX12_knownTemplates 26 = .ok (.goto 4, 3) := by decide +kernel
theorem dX12_knownTemplates_29 : decode cX12_knownTemplates 29 = .ok (.iconst 0, 1) := by decide +kernel
theorem dX12_knownTemplates_30 : decode cX12_knownTemplates 30 = .ok (.ior, 1) := by decide +kernel
theorem dX12_knownTemplates_31 : decode cX12_knownTemplates 31 = .ok (.istore_n 1, 1) := by decide +kernel
theorem dX12_knownTemplates_32 : decode cX12_knownTemplates 32 = .ok (.iinc 2 1, 3) := by decide +kernel
theorem dX12_knownTemplates_35 : decode cX12_knownTemplates 35 = .ok (.goto (-26), 3) := by decide +kernel
theorem dX12_knownTemplates_38 : decode cX12_knownTemplates 38 = .ok (.iload_n 1, 1) := by decide +kernel
theorem dX12_knownTemplates_39 : decode cX12_knownTemplates 39 = .ok (.ireturn, 1) := by decide +kernel
set_option maxRecDepth 20000 in
theorem ggX12_templateAge_X12_inRange : GoodIn wsX12_templateAge wsX12_inRange := (goodIn_r _ [9] rfl (by decide +kernel))
set_option maxRecDepth 20000 in
theorem gX12_templateAge_X12_inRange : GoodIn wsX12_templateAge (va_wsS RX12 169 yX12_inRange wsX12_inRange) := goodIn_app (goodIn_m (mem_cA (List.mem_cons_of_mem _ (List.mem_append_left _ (List.mem_append_left _ (List.mem_of_getElem? (i := 5) rfl)))) (mem_cA (List.mem_cons_of_mem _ (List.mem_append_left _ (List.mem_append_left _ (List.mem_of_getElem? (i := 6) rfl)))) (mem_cA (List.mem_cons_of_mem _ (List.mem_append_left _ (List.mem_append_left _ (List.mem_of_getElem? (i := 7) rfl)))) mem_cZ))) (by decide +kernel)) ggX12_templateAge_X12_inRange
set_option maxRecDepth 20000 in
theorem ggX12_templateAge_X12_throwsIf : GoodIn wsX12_templateAge wsX12_throwsIf := (goodIn_ca (goodIn_r _ [13, 1] rfl (by decide +kernel)) (goodIn_sub (fun _ h => List.mem_cons_of_mem _ (List.mem_append_left _ (List.mem_append_right _ h))) gw_wsX120))
set_option maxRecDepth 20000 in
theorem gX12_templateAge_X12_throwsIf : GoodIn wsX12_templateAge (wsV RX12 185 RX12 yX12_throwsIf wsX12_throwsIf) := goodIn_app (goodIn_m (mem_cA (List.mem_cons_of_mem _ (List.mem_append_left _ (List.mem_append_left _ (List.mem_of_getElem? (i := 9) rfl)))) (mem_cA (List.mem_cons_of_mem _ (List.mem_append_left _ (List.mem_append_left _ (List.mem_of_getElem? (i := 10) rfl)))) (mem_cA (List.mem_cons_of_mem _ (List.mem_append_left _ (List.mem_append_left _ (List.mem_of_getElem? (i := 11) rfl)))) (mem_cA (List.mem_cons_of_mem _ (List.mem_append_left _ (List.mem_append_left _ (List.mem_of_getElem? (i := 7) rfl)))) mem_cZ)))) (by decide +kernel)) ggX12_templateAge_X12_throwsIf
theorem dX12_templateAge_0 : decode cX12_templateAge 0 = .ok (.aload_n 0, 1) := by decide +kernel
theorem dX12_templateAge_1 : decode cX12_templateAge 1 = .ok (.iconst 0, 1) := by decide +kernel
theorem dX12_templateAge_2 : decode cX12_templateAge 2 = .ok (.putfield 1, 3) := by decide +kernel
theorem dX12_templateAge_5 : decode cX12_templateAge 5 = .ok (.aload_n 0, 1) := by decide +kernel
theorem dX12_templateAge_6 : decode cX12_templateAge 6 = .ok (.iload_n 1, 1) := by decide +kernel
theorem dX12_templateAge_7 : decode cX12_templateAge 7 = .ok (.i2l, 1) := by decide +kernel
theorem dX12_templateAge_8 : decode cX12_templateAge 8 = .ok (.lconst 0, 1) := by decide +kernel
theorem dX12_templateAge_9 : decode cX12_templateAge 9 = .ok (.ldc2_w 337, 3) := by decide +kernel
theorem dX12_templateAge_12 : decode cX12_templateAge 12 = .ok (.invokestatic 169, 3) := by decide +kernel
theorem dX12_templateAge_15 : decode cX12_templateAge 15 = .ok (.ifCond .ne 7, 3) := by decide +kernel
theorem dX12_templateAge_18 : decode cX12_templateAge 18 = .ok (.iconst 1, 1) := by decide +kernel
theorem dX12_templateAge_19 : decode cX12_templateAge 19 = .ok (.goto 4, 3) := by decide +kernel
theorem dX12_templateAge_22 : decode cX12_templateAge 22 = .ok (.iconst 0, 1) := by decide +kernel
theorem dX12_templateAge_23 : decode cX12_templateAge 23 = .ok (.iconst 1, 1) := by decide +kernel
theorem dX12_templateAge_24 : decode cX12_templateAge 24 = .ok (.invokevirtual 185, 3) := by decide +kernel
theorem dX12_templateAge_27 : decode cX12_templateAge 27 = .ok (.ifCond .eq 5, 3) := by decide +kernel
theorem dX12_templateAge_30 : decode cX12_templateAge 30 = .ok (.iconst 0, 1) := by decide +kernel
theorem dX12_templateAge_31 : decode cX12_templateAge 31 = .ok (.ireturn, 1) := by decide +kernel
theorem dX12_templateAge_32 : decode cX12_templateAge 32 = .ok (.aload_n 0, 1) := by decide +kernel
theorem dX12_templateAge_33 : decode cX12_templateAge 33 = .ok (.getfield 48, 3) := by decide +kernel
theorem dX12_templateAge_36 : decode cX12_templateAge 36 = .ok (.iload_n 1, 1) := by decide +kernel
theorem dX12_templateAge_37 : decode cX12_templateAge 37 = .ok (.iaload, 1) := by decide +kernel
theorem dX12_templateAge_38 : decode cX12_templateAge 38 = .ok (.ifCond .le 17, 3) := by decide +kernel
theorem dX12_templateAge_41 : decode cX12_templateAge 41 = .ok (.aload_n 0, 1) := by decide +kernel
theorem dX12_templateAge_42 : decode cX12_templateAge 42 = .ok (.getfield 101, 3) := by decide +kernel
theorem dX12_templateAge_45 : decode cX12_templateAge 45 = .ok (.aload_n 0, 1) := by decide +kernel
theorem dX12_templateAge_46 : decode cX12_templateAge 46 = .ok (.getfield 54, 3) := by decide +kernel
theorem dX12_templateAge_49 : decode cX12_templateAge 49 = .ok (.iload_n 1, 1) := by decide +kernel
theorem dX12_templateAge_50 : decode cX12_templateAge 50 = .ok (.iaload, 1) := by decide +kernel
theorem dX12_templateAge_51 : decode cX12_templateAge 51 = .ok (.isub, 1) := by decide +kernel
theorem dX12_templateAge_52 : decode cX12_templateAge 52 = .ok (.goto 4, 3) := by decide +kernel
theorem dX12_templateAge_55 : decode cX12_templateAge 55 = .ok (.iconst (-1), 1) := by decide +kernel
theorem dX12_templateAge_56 : decode cX12_templateAge 56 = .ok (.ireturn, 1) := by decide +kernel
set_option maxRecDepth 20000 in
theorem ggX12_counter_X12_inRange : GoodIn wsX12_counter wsX12_inRange := (goodIn_r _ [7] rfl (by decide +kernel))
set_option maxRecDepth 20000 in
theorem gX12_counter_X12_inRange : GoodIn wsX12_counter (va_wsS RX12 169 yX12_inRange wsX12_inRange) := goodIn_app (goodIn_m (mem_cA (List.mem_cons_of_mem _ (List.mem_append_left _ (List.mem_append_left _ (List.mem_of_getElem? (i := 3) rfl)))) (mem_cA (List.mem_cons_of_mem _ (List.mem_append_left _ (List.mem_append_left _ (List.mem_of_getElem? (i := 4) rfl)))) (mem_cA (List.mem_cons_of_mem _ (List.mem_append_left _ (List.mem_append_left _ (List.mem_of_getElem? (i := 5) rfl)))) mem_cZ))) (by decide +kernel)) ggX12_counter_X12_inRange
set_option maxRecDepth 20000 in
theorem ggX12_counter_X12_throwsIf : GoodIn wsX12_counter wsX12_throwsIf := (goodIn_ca (goodIn_r _ [11, 1] rfl (by decide +kernel)) (goodIn_sub (fun _ h => List.mem_cons_of_mem _ (List.mem_append_left _ (List.mem_append_right _ h))) gw_wsX120))
set_option maxRecDepth 20000 in
theorem gX12_counter_X12_throwsIf : GoodIn wsX12_counter (wsV RX12 185 RX12 yX12_throwsIf wsX12_throwsIf) := goodIn_app (goodIn_m (mem_cA (List.mem_cons_of_mem _ (List.mem_append_left _ (List.mem_append_left _ (List.mem_of_getElem? (i := 7) rfl)))) (mem_cA (List.mem_cons_of_mem _ (List.mem_append_left _ (List.mem_append_left _ (List.mem_of_getElem? (i := 8) rfl)))) (mem_cA (List.mem_cons_of_mem _ (List.mem_append_left _ (List.mem_append_left _ (List.mem_of_getElem? (i := 9) rfl)))) (mem_cA (List.mem_cons_of_mem _ (List.mem_append_left _ (List.mem_append_left _ (List.mem_of_getElem? (i := 5) rfl)))) mem_cZ)))) (by decide +kernel)) ggX12_counter_X12_throwsIf
theorem dX12_counter_0 : decode cX12_counter 0 = .ok (.aload_n 0, 1) := by decide +kernel
theorem dX12_counter_1 : decode cX12_counter 1 = .ok (.iconst 0, 1) := by decide +kernel
theorem dX12_counter_2 : decode cX12_counter 2 = .ok (.putfield 1, 3) := by decide +kernel
theorem dX12_counter_5 : decode cX12_counter 5 = .ok (.aload_n 0, 1) := by decide +kernel
theorem dX12_counter_6 : decode cX12_counter 6 = .ok (.iload_n 1, 1) := by decide +kernel
theorem dX12_counter_7 : decode cX12_counter 7 = .ok (.i2l, 1) := by decide +kernel
theorem dX12_counter_8 : decode cX12_counter 8 = .ok (.lconst 0, 1) := by decide +kernel
theorem dX12_counter_9 : decode cX12_counter 9 = .ok (.ldc2_w 204, 3) := by decide +kernel
theorem dX12_counter_12 : decode cX12_counter 12 = .ok (.invokestatic 169, 3) := by decide +kernel
theorem dX12_counter_15 : decode cX12_counter 15 = .ok (.ifCond .ne 7, 3) := by decide +kernel
theorem dX12_counter_18 : decode cX12_counter 18 = .ok (.iconst 1, 1) := by decide +kernel
theorem dX12_counter_19 : decode cX12_counter 19 = .ok (.goto 4, 3) := by decide +kernel
theorem dX12_counter_22 : decode cX12_counter 22 = .ok (.iconst 0, 1) := by decide +kernel
theorem dX12_counter_23 : decode cX12_counter 23 = .ok (.iconst 1, 1) := by decide +kernel
theorem dX12_counter_24 : decode cX12_counter 24 = .ok (.invokevirtual 185, 3) := by decide +kernel
theorem dX12_counter_27 : decode cX12_counter 27 = .ok (.ifCond .eq 7, 3) := by decide +kernel
theorem dX12_counter_30 : decode cX12_counter 30 = .ok (.lconst 0, 1) := by decide +kernel
theorem dX12_counter_31 : decode cX12_counter 31 = .ok (.goto 9, 3) := by decide +kernel
theorem dX12_counter_34 : decode cX12_counter 34 = .ok (.aload_n 0, 1) := by decide +kernel
theorem dX12_counter_35 : decode cX12_counter 35 = .ok (.getfield 45, 3) := by decide +kernel
theorem dX12_counter_38 : decode cX12_counter 38 = .ok (.iload_n 1, 1) := by decide +kernel
theorem dX12_counter_39 : decode cX12_counter 39 = .ok (.laload, 1) := by decide +kernel
theorem dX12_counter_40 : decode cX12_counter 40 = .ok (.lreturn, 1) := by decide +kernel
set_option maxHeartbeats 4000000 in
set_option maxRecDepth 100000 in
theorem r_restartCollector (G : EnvG) (l : Launch) (Φ : Hm) (sz x : Nat) (rd : (Nat → Int32) → Prop) (nw : (Nat → Int32) → Prop) (cr : (Nat → Int64) → Prop) (tp : (Nat → Int32) → Prop) (tt : (Nat → Int64) → Prop) (sI : (Nat → Int32) → Prop) (sT : (Nat → Int32) → Prop) (pt : (Nat → Int32) → Prop) (ql : (Nat → Int32) → Prop) (fl : Nat) (pe : Nat) (le : Nat) (nx : Nat) (il : Nat) (qu : Nat) (kn : Int32) (ec : Int32) (nu : Int32) (va : Int64) (st : Nat) (ep : Int32) (ti : Int32) (ad : Int32) (ob : Int64) (ra : Int32) (rt : Nat) (ex : Int32) (sa : Int64) (us : Int64) (tk : Nat) (th : Int32) (me : Int32) (dr : Int32) (se : Int64) (sn : Int64)  (hx : G.2.2.2 ≤ x) (hI : Im G x (rd, nw, cr, tp, tt, sI, sT, pt, ql, fl, pe, le, nx, il, qu, kn, ec, nu, va, st, ep, ti, ad, ob, ra, rt, ex, sa, us, tk, th, me, dr, se, sn) Φ) (hnw : ∀ f9 : Nat → Int32, nw f9 → NN f9) : Ct G l yX12_restartCollector wsX12_restartCollector ({ frames := 1, cells := 0, slots := 0, locals := 21 }) 0 0 [.ref x] Φ sz (fun v Φ1 sz1 => (∃ r9 : Int32, v = some (.int r9)) ∧ sz1 = sz ∧ (∃ (th1 : Int32), Im G x (rd, nw, cr, tp, tt, sI, sT, pt, ql, fl, pe, le, nx, il, qu, kn, ec, nu, va, st, ep, ti, ad, ob, ra, rt, ex, sa, us, tk, th1, me, dr, se, sn) Φ1) ∧ Fr x (fun j9 => j9 = 0 ∨ j9 = 12) Φ Φ1) := by
  refine Ct.of (cc := cX12_restartCollector) (maxL := 3) (ret := (some .int)) (by decide) rfl (Nat.le_of_ble_eq_true rfl) ?_
  intro p9 e9 s9 m9 w9 t9 k9 B
  show Z p9 l e9 _ s9 m9 _ w9 t9 k9 _ G 3 0 [(0, .ref x)] [] Φ sz 0 0
  refine z_aload_n B dX12_restartCollector_0 rfl 0 rfl ?_
  refine z_iconst (v := 0) B dX12_restartCollector_1 rfl ?_
  obtain ⟨n_1, v_1, n_2, h_1, b_13, b_1, b_2, b_3, b_4, b_5, b_6, b_7, b_8, b_9, b_10, b_11, b_12⟩ := im0 hI
  replace b_1 : 1 ≤ rt := b_1
  replace b_2 : rt ≤ 1024 := b_2
  replace b_3 : fl ≤ 12 := b_3
  replace b_4 : pe ≤ 24 := b_4
  replace b_5 : le ≤ 700 := b_5
  replace b_6 : qu ≤ 12 := b_6
  replace b_7 : n_1 ≤ 8 := b_7
  replace b_8 : n_2 ≤ 24 := b_8
  replace b_9 : tk ≤ 24 := b_9
  replace b_10 : il ≤ 700 := b_10
  replace b_11 : nx ≤ 701 := b_11
  replace b_12 : st ≤ 701 := b_12
  have h_2 : Φ x = some (o_ 14 [.int th, .ref (x + 1), .ref (x + 2), .int ti, .int ra, .int (nI rt), .int ex, .int ad, .ref (x + 3), .ref (x + 4), .int me, .long se, .ref (x + 5), .int (nI fl), .int dr, .long ob, .long sa, .long sn, .long us, .ref (x + 6), .ref (x + 7), .int (nI pe), .ref (x + 8), .int (nI le), .ref (x + 9), .ref (x + 10), .int (nI qu), .ref (x + 11), .ref (x + 12), .ref (x + 13), .ref (x + 14), .ref (x + 15), .ref (x + 16), .int (nI n_1), .long v_1, .ref (x + 17), .ref (x + 18), .ref (x + 19), .ref (x + 20), .ref (x + 21), .ref (x + 22), .int (nI n_2), .ref (x + 23), .ref (x + 24), .int (nI tk), .ref (x + 25), .int (nI il), .int (nI nx), .int ec, .int ep, .int kn, .int (nI st), .int nu, .long va]) := h_1
  refine z_put (ref := "FlowExporterModel") (C := RX12) (T := TX12) (N := 54) (ci := 14) (v := .int 0) B hu_X12_restartCollector_X12 tyX12 tyX12_ok nmX12 rfl 0 (Nat.le_of_ble_eq_true rfl) hv_X12_restartCollector_1 rfl (Or.inl rfl) h_2 hx rfl rfl (Nat.le_of_ble_eq_true rfl) dX12_restartCollector_2 (fun Φ1 hΦ1 => ?_)
  have h_3 : Φ1 x = some (o_ 14 [.int 0, .ref (x + 1), .ref (x + 2), .int ti, .int ra, .int (nI rt), .int ex, .int ad, .ref (x + 3), .ref (x + 4), .int me, .long se, .ref (x + 5), .int (nI fl), .int dr, .long ob, .long sa, .long sn, .long us, .ref (x + 6), .ref (x + 7), .int (nI pe), .ref (x + 8), .int (nI le), .ref (x + 9), .ref (x + 10), .int (nI qu), .ref (x + 11), .ref (x + 12), .ref (x + 13), .ref (x + 14), .ref (x + 15), .ref (x + 16), .int (nI n_1), .long v_1, .ref (x + 17), .ref (x + 18), .ref (x + 19), .ref (x + 20), .ref (x + 21), .ref (x + 22), .int (nI n_2), .ref (x + 23), .ref (x + 24), .int (nI tk), .ref (x + 25), .int (nI il), .int (nI nx), .int ec, .int ep, .int kn, .int (nI st), .int nu, .long va]) := fset_at hΦ1
  have hI1 : Im G x (rd, nw, cr, tp, tt, sI, sT, pt, ql, fl, pe, le, nx, il, qu, kn, ec, nu, va, st, ep, ti, ad, ob, ra, rt, ex, sa, us, tk, 0, me, dr, se, sn) Φ1 := Im.put0 hI hΦ1 ⟨n_1, v_1, n_2, rfl, b_13, b_1, b_2, b_3, b_4, b_5, b_6, b_7, b_8, b_9, b_10, b_11, b_12⟩
  refine z_iconst (v := 0) B dX12_restartCollector_5 rfl ?_
  refine z_istore_n (lv' := [(1, .int 0), (0, .ref x)]) B dX12_restartCollector_6 rfl (Nat.le_of_ble_eq_true rfl) rfl ?_
  refine z_iconst (v := 0) B dX12_restartCollector_7 rfl ?_
  refine z_istore_n (lv' := [(2, .int 0), (1, .int 0), (0, .ref x)]) B dX12_restartCollector_8 rfl (Nat.le_of_ble_eq_true rfl) rfl ?_
  refine z_lv [0, 1, 2] rfl ?_
  refine z_loop (α := Nat × Int32) (fun (a9 : Nat × Int32) Φi => Im G x (rd, nw, cr, tp, tt, sI, sT, pt, ql, fl, pe, le, nx, il, qu, kn, ec, nu, va, st, ep, ti, ad, ob, ra, rt, ex, sa, us, tk, 0, me, dr, se, sn) Φi ∧ Fr x (fun j9 => j9 = 0 ∨ j9 = 12) Φ1 Φi ∧ (a9.1 ≤ 4) ∧ True) (fun a9 => [(2, .int (nI (a9.1))), (1, .int a9.2), (0, .ref x)]) (fun a9 => 4 - a9.1) ?_ (0, 0) ⟨hI1, fun _ _ => rfl, (show 0 ≤ 4 by omega), trivial⟩
  rintro ⟨i_1, i_2⟩ Φl1 ⟨hI2, hF1, b_14, -⟩ ih1
  replace hI2 : Im G x (rd, nw, cr, tp, tt, sI, sT, pt, ql, fl, pe, le, nx, il, qu, kn, ec, nu, va, st, ep, ti, ad, ob, ra, rt, ex, sa, us, tk, 0, me, dr, se, sn) Φl1 := hI2
  replace b_14 : i_1 ≤ 4 := b_14
  show Z p9 l e9 _ s9 m9 _ w9 t9 k9 _ G 3 9 [(2, .int (nI i_1)), (1, .int i_2), (0, .ref x)] [] Φl1 _ _ _
  refine z_iload_n B dX12_restartCollector_9 rfl 0 rfl ?_
  refine z_iconst (v := 4) B dX12_restartCollector_10 rfl ?_
  refine z_icmp_ge (tgt := 37) B dX12_restartCollector_11 rfl (fun c_1 => ?_) (fun c_1 => ?_)
  · have e_1 : 4 ≤ i_1 := (nI_leI (a := 4) (b := i_1) (by omega) (by omega)).mp c_1
    refine z_aload_n B dX12_restartCollector_37 rfl 2 rfl ?_
    obtain ⟨n_3, v_2, n_4, h_4, b_27, b_15, b_16, b_17, b_18, b_19, b_20, b_21, b_22, b_23, b_24, b_25, b_26⟩ := im0 hI2
    replace b_15 : 1 ≤ rt := b_15
    replace b_16 : rt ≤ 1024 := b_16
    replace b_17 : fl ≤ 12 := b_17
    replace b_18 : pe ≤ 24 := b_18
    replace b_19 : le ≤ 700 := b_19
    replace b_20 : qu ≤ 12 := b_20
    replace b_21 : n_3 ≤ 8 := b_21
    replace b_22 : n_4 ≤ 24 := b_22
    replace b_23 : tk ≤ 24 := b_23
    replace b_24 : il ≤ 700 := b_24
    replace b_25 : nx ≤ 701 := b_25
    replace b_26 : st ≤ 701 := b_26
    have h_5 : Φl1 x = some (o_ 14 [.int 0, .ref (x + 1), .ref (x + 2), .int ti, .int ra, .int (nI rt), .int ex, .int ad, .ref (x + 3), .ref (x + 4), .int me, .long se, .ref (x + 5), .int (nI fl), .int dr, .long ob, .long sa, .long sn, .long us, .ref (x + 6), .ref (x + 7), .int (nI pe), .ref (x + 8), .int (nI le), .ref (x + 9), .ref (x + 10), .int (nI qu), .ref (x + 11), .ref (x + 12), .ref (x + 13), .ref (x + 14), .ref (x + 15), .ref (x + 16), .int (nI n_3), .long v_2, .ref (x + 17), .ref (x + 18), .ref (x + 19), .ref (x + 20), .ref (x + 21), .ref (x + 22), .int (nI n_4), .ref (x + 23), .ref (x + 24), .int (nI tk), .ref (x + 25), .int (nI il), .int (nI nx), .int ec, .int ep, .int kn, .int (nI st), .int nu, .long va]) := h_4
    refine z_callV (As := []) (rest := []) B (r_startCollector G l Φl1 sz x rd nw cr tp tt sI sT pt ql fl pe le nx il qu kn ec nu va st ep ti ad ob ra rt ex sa us tk 0 me dr se sn  hx hI2 hnw) (cwV 0 B.1.2.2.2.2 gX12_restartCollector_X12_startCollector rfl rfl rfl (by decide +kernel) ⟨Nat.le_of_ble_eq_true rfl, Nat.le_of_ble_eq_true rfl⟩) h_5 rfl rfl rfl rfl (Nat.le_of_ble_eq_true rfl) dX12_restartCollector_38 ⟨Nat.le_of_ble_eq_true rfl, Nat.le_of_ble_eq_true rfl⟩ (fun r_1 Φ2 sz1 st1 hp1 hs1 => ?_)
    obtain ⟨rfl, hq1, hI3, hF2⟩ := hp1
    subst sz1
    replace hs1 : st1 = [] := hs1
    subst st1
    replace hI3 : Im G x (rd, nw, cr, tp, tt, sI, sT, pt, ql, fl, pe, le, nx, il, qu, kn, ec, nu, va, st, ep, ti, ad, ob, ra, rt, ex, sa, us, tk, 0, me, dr, se, sn) Φ2 := hI3
    refine z_iload_n B dX12_restartCollector_41 rfl 1 rfl ?_
    exact z_ret_i B dX12_restartCollector_42 ⟨⟨_, rfl⟩, rfl, ⟨0, hI3⟩, (fun b9 h9 => ((hF2 b9 h9).trans ((hF1 b9 h9).trans ((fset_fr hΦ1 (fun h8 => h9 (0) h8 (show 0 = 0 ∨ 0 = 12 by decide))).trans rfl))))⟩
  · have e_2 : ¬ (4 ≤ i_1) := fun h9 => c_1 ((nI_leI (a := 4) (b := i_1) (by omega) (by omega)).mpr h9)
    refine z_iload_n B dX12_restartCollector_14 rfl 1 rfl ?_
    refine z_aload_n B dX12_restartCollector_15 rfl 2 rfl ?_
    obtain ⟨n_5, v_3, n_6, h_6, b_40, b_28, b_29, b_30, b_31, b_32, b_33, b_34, b_35, b_36, b_37, b_38, b_39⟩ := im0 hI2
    replace b_28 : 1 ≤ rt := b_28
    replace b_29 : rt ≤ 1024 := b_29
    replace b_30 : fl ≤ 12 := b_30
    replace b_31 : pe ≤ 24 := b_31
    replace b_32 : le ≤ 700 := b_32
    replace b_33 : qu ≤ 12 := b_33
    replace b_34 : n_5 ≤ 8 := b_34
    replace b_35 : n_6 ≤ 24 := b_35
    replace b_36 : tk ≤ 24 := b_36
    replace b_37 : il ≤ 700 := b_37
    replace b_38 : nx ≤ 701 := b_38
    replace b_39 : st ≤ 701 := b_39
    have h_7 : Φl1 x = some (o_ 14 [.int 0, .ref (x + 1), .ref (x + 2), .int ti, .int ra, .int (nI rt), .int ex, .int ad, .ref (x + 3), .ref (x + 4), .int me, .long se, .ref (x + 5), .int (nI fl), .int dr, .long ob, .long sa, .long sn, .long us, .ref (x + 6), .ref (x + 7), .int (nI pe), .ref (x + 8), .int (nI le), .ref (x + 9), .ref (x + 10), .int (nI qu), .ref (x + 11), .ref (x + 12), .ref (x + 13), .ref (x + 14), .ref (x + 15), .ref (x + 16), .int (nI n_5), .long v_3, .ref (x + 17), .ref (x + 18), .ref (x + 19), .ref (x + 20), .ref (x + 21), .ref (x + 22), .int (nI n_6), .ref (x + 23), .ref (x + 24), .int (nI tk), .ref (x + 25), .int (nI il), .int (nI nx), .int ec, .int ep, .int kn, .int (nI st), .int nu, .long va]) := h_6
    refine z_get (ref := "FlowExporterModel") (C := RX12) (T := TX12) (N := 54) (ci := 14) (v := .ref (x + 12)) B hu_X12_restartCollector_X12 rfl 28 (Nat.le_of_ble_eq_true rfl) hv_X12_restartCollector_48 rfl h_7 rfl dX12_restartCollector_16 ?_
    refine z_iload_n B dX12_restartCollector_19 rfl 0 rfl ?_
    obtain ⟨f_1, h_8, r_2⟩ := imk (k := 12) hI2
    replace r_2 : Rw 9 f_1 := r_2
    have h_9 : Φl1 (x + 12) = some (ai_ G 4 f_1) := h_8
    refine z_iald B h_9 (vp_in_nI (by omega) (by omega)) dX12_restartCollector_20 ?_
    obtain ⟨n_7, b_41, e_3⟩ := r_2 ((nI i_1).toNatClampNeg)
    refine z_top (st1 := [.int (nI n_7), .int i_2]) (congrArg (fun w9 : Int32 => ([.int w9, .int i_2] : List Value)) (e_3)) ?_
    refine z_if_le (tgt := 28) B dX12_restartCollector_21 rfl (fun c_2 => ?_) (fun c_2 => ?_)
    · have e_4 : n_7 ≤ 0 := (nI_leI (a := n_7) (b := 0) (by omega) (by omega)).mp c_2
      refine z_iconst (v := 0) B dX12_restartCollector_28 rfl ?_
      refine z_iadd B dX12_restartCollector_29 ?_
      refine z_fi (fun v_4 => ?_)
      refine z_istore_n (lv' := [(1, .int v_4), (2, .int (nI i_1)), (0, .ref x)]) B dX12_restartCollector_30 rfl (Nat.le_of_ble_eq_true rfl) rfl ?_
      refine z_iinc (k := 1) (v := nI (i_1 + 1)) (lv' := [(2, .int (nI (i_1 + 1))), (1, .int v_4), (0, .ref x)]) B dX12_restartCollector_31 rfl (nI_add i_1 1) (Nat.le_of_ble_eq_true rfl) rfl ?_
      refine z_goto (tgt := 9) B dX12_restartCollector_34 rfl ?_
      refine z_lv [0, 1, 2] rfl ?_
      exact ih1 (i_1 + 1, v_4) Φl1 (show 4 - (i_1 + 1) < 4 - i_1 by omega) ⟨hI2, (fun b9 h9 => ((hF1 b9 h9).trans rfl)), (show (i_1 + 1) ≤ 4 by omega), trivial⟩
    · have e_5 : ¬ (n_7 ≤ 0) := fun h9 => c_2 ((nI_leI (a := n_7) (b := 0) (by omega) (by omega)).mpr h9)
      refine z_iconst (v := 1) B dX12_restartCollector_24 rfl ?_
      refine z_goto (tgt := 29) B dX12_restartCollector_25 rfl ?_
      refine z_iadd B dX12_restartCollector_29 ?_
      refine z_fi (fun v_5 => ?_)
      refine z_istore_n (lv' := [(1, .int v_5), (2, .int (nI i_1)), (0, .ref x)]) B dX12_restartCollector_30 rfl (Nat.le_of_ble_eq_true rfl) rfl ?_
      refine z_iinc (k := 1) (v := nI (i_1 + 1)) (lv' := [(2, .int (nI (i_1 + 1))), (1, .int v_5), (0, .ref x)]) B dX12_restartCollector_31 rfl (nI_add i_1 1) (Nat.le_of_ble_eq_true rfl) rfl ?_
      refine z_goto (tgt := 9) B dX12_restartCollector_34 rfl ?_
      refine z_lv [0, 1, 2] rfl ?_
      exact ih1 (i_1 + 1, v_5) Φl1 (show 4 - (i_1 + 1) < 4 - i_1 by omega) ⟨hI2, (fun b9 h9 => ((hF1 b9 h9).trans rfl)), (show (i_1 + 1) ≤ 4 by omega), trivial⟩

theorem hu_X12_isKnown_X12 : ∀ w ∈ u_ws RX12 TX12 54, w ∈ wsX12_isKnown := fun _ h => List.mem_cons_of_mem _ (List.mem_append_left _ (List.mem_append_right _ (h)))

theorem hv_X12_isKnown_48 : Cond.fieldLink RX12 48 "FlowExporterModel" (TX12 28).2.1 (TX12 28).2.2.1 ∈ wsX12_isKnown := List.mem_cons_of_mem _ (List.mem_append_left _ (List.mem_append_left _ (List.mem_of_getElem? (i := 0) rfl)))

theorem hv_X12_isKnown_101 : Cond.fieldLink RX12 101 "FlowExporterModel" (TX12 3).2.1 (TX12 3).2.2.1 ∈ wsX12_isKnown := List.mem_cons_of_mem _ (List.mem_append_left _ (List.mem_append_left _ (List.mem_of_getElem? (i := 1) rfl)))

theorem hv_X12_isKnown_54 : Cond.fieldLink RX12 54 "FlowExporterModel" (TX12 30).2.1 (TX12 30).2.2.1 ∈ wsX12_isKnown := List.mem_cons_of_mem _ (List.mem_append_left _ (List.mem_append_left _ (List.mem_of_getElem? (i := 2) rfl)))

theorem hv_X12_isKnown_17 : Cond.fieldLink RX12 17 "FlowExporterModel" (TX12 2).2.1 (TX12 2).2.2.1 ∈ wsX12_isKnown := List.mem_cons_of_mem _ (List.mem_append_left _ (List.mem_append_left _ (List.mem_of_getElem? (i := 3) rfl)))

set_option maxHeartbeats 4000000 in
set_option maxRecDepth 100000 in
theorem r_isKnown (G : EnvG) (l : Launch) (Φ : Hm) (sz x : Nat) (rd : (Nat → Int32) → Prop) (nw : (Nat → Int32) → Prop) (cr : (Nat → Int64) → Prop) (tp : (Nat → Int32) → Prop) (tt : (Nat → Int64) → Prop) (sI : (Nat → Int32) → Prop) (sT : (Nat → Int32) → Prop) (pt : (Nat → Int32) → Prop) (ql : (Nat → Int32) → Prop) (fl : Nat) (pe : Nat) (le : Nat) (nx : Nat) (il : Nat) (qu : Nat) (kn : Int32) (ec : Int32) (nu : Int32) (va : Int64) (st : Nat) (ep : Int32) (ti : Int32) (ad : Int32) (ob : Int64) (ra : Int32) (rt : Nat) (ex : Int32) (sa : Int64) (us : Int64) (tk : Nat) (th : Int32) (me : Int32) (dr : Int32) (se : Int64) (sn : Int64) (t : Nat) (hx : G.2.2.2 ≤ x) (hI : Im G x (rd, nw, cr, tp, tt, sI, sT, pt, ql, fl, pe, le, nx, il, qu, kn, ec, nu, va, st, ep, ti, ad, ob, ra, rt, ex, sa, us, tk, th, me, dr, se, sn) Φ) (ht : t < 4) (hnw : ∀ f9 : Nat → Int32, nw f9 → NN f9) : Ct G l yX12_isKnown wsX12_isKnown ({ frames := 0, cells := 0, slots := 0, locals := 0 }) 0 0 [.ref x, .int (nI t)] Φ sz (fun v Φ1 sz1 => (∃ r9 : Int32, v = some (.int r9) ∧ (r9 = 0 ∨ r9 = 1)) ∧ sz1 = sz ∧ (Im G x (rd, nw, cr, tp, tt, sI, sT, pt, ql, fl, pe, le, nx, il, qu, kn, ec, nu, va, st, ep, ti, ad, ob, ra, rt, ex, sa, us, tk, th, me, dr, se, sn) Φ1) ∧ Fr x (fun j9 => False) Φ Φ1) := by
  refine Ct.of (cc := cX12_isKnown) (maxL := 2) (ret := (some .boolean)) (by decide) rfl (Nat.le_of_ble_eq_true rfl) ?_
  intro p9 e9 s9 m9 w9 t9 k9 B
  show Z p9 l e9 _ s9 m9 _ w9 t9 k9 _ G 2 0 [(0, .ref x), (1, .int (nI t))] [] Φ sz 0 0
  refine z_aload_n B dX12_isKnown_0 rfl 0 rfl ?_
  obtain ⟨n_1, v_1, n_2, h_1, b_13, b_1, b_2, b_3, b_4, b_5, b_6, b_7, b_8, b_9, b_10, b_11, b_12⟩ := im0 hI
  replace b_1 : 1 ≤ rt := b_1
  replace b_2 : rt ≤ 1024 := b_2
  replace b_3 : fl ≤ 12 := b_3
  replace b_4 : pe ≤ 24 := b_4
  replace b_5 : le ≤ 700 := b_5
  replace b_6 : qu ≤ 12 := b_6
  replace b_7 : n_1 ≤ 8 := b_7
  replace b_8 : n_2 ≤ 24 := b_8
  replace b_9 : tk ≤ 24 := b_9
  replace b_10 : il ≤ 700 := b_10
  replace b_11 : nx ≤ 701 := b_11
  replace b_12 : st ≤ 701 := b_12
  have h_2 : Φ x = some (o_ 14 [.int th, .ref (x + 1), .ref (x + 2), .int ti, .int ra, .int (nI rt), .int ex, .int ad, .ref (x + 3), .ref (x + 4), .int me, .long se, .ref (x + 5), .int (nI fl), .int dr, .long ob, .long sa, .long sn, .long us, .ref (x + 6), .ref (x + 7), .int (nI pe), .ref (x + 8), .int (nI le), .ref (x + 9), .ref (x + 10), .int (nI qu), .ref (x + 11), .ref (x + 12), .ref (x + 13), .ref (x + 14), .ref (x + 15), .ref (x + 16), .int (nI n_1), .long v_1, .ref (x + 17), .ref (x + 18), .ref (x + 19), .ref (x + 20), .ref (x + 21), .ref (x + 22), .int (nI n_2), .ref (x + 23), .ref (x + 24), .int (nI tk), .ref (x + 25), .int (nI il), .int (nI nx), .int ec, .int ep, .int kn, .int (nI st), .int nu, .long va]) := h_1
  refine z_get (ref := "FlowExporterModel") (C := RX12) (T := TX12) (N := 54) (ci := 14) (v := .ref (x + 12)) B hu_X12_isKnown_X12 rfl 28 (Nat.le_of_ble_eq_true rfl) hv_X12_isKnown_48 rfl h_2 rfl dX12_isKnown_1 ?_
  refine z_iload_n B dX12_isKnown_4 rfl 1 rfl ?_
  obtain ⟨f_1, h_3, r_1⟩ := imk (k := 12) hI
  replace r_1 : Rw 9 f_1 := r_1
  have h_4 : Φ (x + 12) = some (ai_ G 4 f_1) := h_3
  refine z_iald B h_4 (vp_in_nI (by omega) (by omega)) dX12_isKnown_5 ?_
  obtain ⟨n_3, b_14, e_1⟩ := r_1 ((nI t).toNatClampNeg)
  refine z_top (st1 := [.int (nI n_3)]) (congrArg (fun w9 : Int32 => ([.int w9] : List Value)) (e_1)) ?_
  refine z_if_le (tgt := 34) B dX12_isKnown_6 rfl (fun c_1 => ?_) (fun c_1 => ?_)
  · have e_2 : n_3 ≤ 0 := (nI_leI (a := n_3) (b := 0) (by omega) (by omega)).mp c_1
    refine z_iconst (v := 0) B dX12_isKnown_34 rfl ?_
    exact z_ret_z B dX12_isKnown_35 (by decide) ⟨⟨_, rfl, by decide⟩, rfl, hI, (fun b9 h9 => rfl)⟩
  · have e_3 : ¬ (n_3 ≤ 0) := fun h9 => c_1 ((nI_leI (a := n_3) (b := 0) (by omega) (by omega)).mpr h9)
    refine z_aload_n B dX12_isKnown_9 rfl 0 rfl ?_
    refine z_get (ref := "FlowExporterModel") (C := RX12) (T := TX12) (N := 54) (ci := 14) (v := .int ti) B hu_X12_isKnown_X12 rfl 3 (Nat.le_of_ble_eq_true rfl) hv_X12_isKnown_101 rfl h_2 rfl dX12_isKnown_10 ?_
    refine z_aload_n B dX12_isKnown_13 rfl 0 rfl ?_
    refine z_get (ref := "FlowExporterModel") (C := RX12) (T := TX12) (N := 54) (ci := 14) (v := .ref (x + 14)) B hu_X12_isKnown_X12 rfl 30 (Nat.le_of_ble_eq_true rfl) hv_X12_isKnown_54 rfl h_2 rfl dX12_isKnown_14 ?_
    refine z_iload_n B dX12_isKnown_17 rfl 1 rfl ?_
    obtain ⟨f_2, h_5⟩ := imk (k := 14) hI
    have h_6 : Φ (x + 14) = some (ai_ G 4 f_2) := h_5
    refine z_iald B h_6 (vp_in_nI (by omega) (by omega)) dX12_isKnown_18 ?_
    refine z_fi (fun v_2 => ?_)
    refine z_isub B dX12_isKnown_19 ?_
    refine z_fi (fun v_3 => ?_)
    refine z_aload_n B dX12_isKnown_20 rfl 0 rfl ?_
    refine z_get (ref := "FlowExporterModel") (C := RX12) (T := TX12) (N := 54) (ci := 14) (v := .ref (x + 2)) B hu_X12_isKnown_X12 rfl 2 (Nat.le_of_ble_eq_true rfl) hv_X12_isKnown_17 rfl h_2 rfl dX12_isKnown_21 ?_
    refine z_bipush (v := 6) B dX12_isKnown_24 rfl ?_
    obtain ⟨f_3, h_7, r_3⟩ := imk (k := 2) hI
    replace r_3 : nw f_3 := r_3
    have r_4 : NN f_3 := hnw f_3 r_3
    have h_8 : Φ (x + 2) = some (ai_ G 307 f_3) := h_7
    refine z_iald B h_8 (vin rfl) dX12_isKnown_26 ?_
    refine z_fi (fun v_4 => ?_)
    refine z_icmp_gt (tgt := 34) B dX12_isKnown_27 rfl (fun c_2 => ?_) (fun c_2 => ?_)
    · refine z_iconst (v := 0) B dX12_isKnown_34 rfl ?_
      exact z_ret_z B dX12_isKnown_35 (by decide) ⟨⟨_, rfl, by decide⟩, rfl, hI, (fun b9 h9 => rfl)⟩
    · refine z_iconst (v := 1) B dX12_isKnown_30 rfl ?_
      refine z_goto (tgt := 35) B dX12_isKnown_31 rfl ?_
      exact z_ret_z B dX12_isKnown_35 (by decide) ⟨⟨_, rfl, by decide⟩, rfl, hI, (fun b9 h9 => rfl)⟩

theorem hu_X12_knownTemplates_X12 : ∀ w ∈ u_ws RX12 TX12 54, w ∈ wsX12_knownTemplates := fun _ h => List.mem_cons_of_mem _ (List.mem_append_left _ (List.mem_append_right _ (h)))

theorem hv_X12_knownTemplates_1 : Cond.fieldLink RX12 1 "FlowExporterModel" (TX12 0).2.1 (TX12 0).2.2.1 ∈ wsX12_knownTemplates := List.mem_cons_of_mem _ (List.mem_append_left _ (List.mem_append_left _ (List.mem_of_getElem? (i := 0) rfl)))

set_option maxHeartbeats 4000000 in
set_option maxRecDepth 100000 in
theorem r_knownTemplates (G : EnvG) (l : Launch) (Φ : Hm) (sz x : Nat) (rd : (Nat → Int32) → Prop) (nw : (Nat → Int32) → Prop) (cr : (Nat → Int64) → Prop) (tp : (Nat → Int32) → Prop) (tt : (Nat → Int64) → Prop) (sI : (Nat → Int32) → Prop) (sT : (Nat → Int32) → Prop) (pt : (Nat → Int32) → Prop) (ql : (Nat → Int32) → Prop) (fl : Nat) (pe : Nat) (le : Nat) (nx : Nat) (il : Nat) (qu : Nat) (kn : Int32) (ec : Int32) (nu : Int32) (va : Int64) (st : Nat) (ep : Int32) (ti : Int32) (ad : Int32) (ob : Int64) (ra : Int32) (rt : Nat) (ex : Int32) (sa : Int64) (us : Int64) (tk : Nat) (th : Int32) (me : Int32) (dr : Int32) (se : Int64) (sn : Int64)  (hx : G.2.2.2 ≤ x) (hI : Im G x (rd, nw, cr, tp, tt, sI, sT, pt, ql, fl, pe, le, nx, il, qu, kn, ec, nu, va, st, ep, ti, ad, ob, ra, rt, ex, sa, us, tk, th, me, dr, se, sn) Φ) (hnw : ∀ f9 : Nat → Int32, nw f9 → NN f9) : Ct G l yX12_knownTemplates wsX12_knownTemplates ({ frames := 1, cells := 0, slots := 0, locals := 21 }) 0 0 [.ref x] Φ sz (fun v Φ1 sz1 => (∃ r9 : Int32, v = some (.int r9)) ∧ sz1 = sz ∧ (∃ (th1 : Int32), Im G x (rd, nw, cr, tp, tt, sI, sT, pt, ql, fl, pe, le, nx, il, qu, kn, ec, nu, va, st, ep, ti, ad, ob, ra, rt, ex, sa, us, tk, th1, me, dr, se, sn) Φ1) ∧ Fr x (fun j9 => j9 = 0) Φ Φ1) := by
  refine Ct.of (cc := cX12_knownTemplates) (maxL := 3) (ret := (some .int)) (by decide) rfl (Nat.le_of_ble_eq_true rfl) ?_
  intro p9 e9 s9 m9 w9 t9 k9 B
  show Z p9 l e9 _ s9 m9 _ w9 t9 k9 _ G 3 0 [(0, .ref x)] [] Φ sz 0 0
  refine z_aload_n B dX12_knownTemplates_0 rfl 0 rfl ?_
  refine z_iconst (v := 0) B dX12_knownTemplates_1 rfl ?_
  obtain ⟨n_1, v_1, n_2, h_1, b_13, b_1, b_2, b_3, b_4, b_5, b_6, b_7, b_8, b_9, b_10, b_11, b_12⟩ := im0 hI
  replace b_1 : 1 ≤ rt := b_1
  replace b_2 : rt ≤ 1024 := b_2
  replace b_3 : fl ≤ 12 := b_3
  replace b_4 : pe ≤ 24 := b_4
  replace b_5 : le ≤ 700 := b_5
  replace b_6 : qu ≤ 12 := b_6
  replace b_7 : n_1 ≤ 8 := b_7
  replace b_8 : n_2 ≤ 24 := b_8
  replace b_9 : tk ≤ 24 := b_9
  replace b_10 : il ≤ 700 := b_10
  replace b_11 : nx ≤ 701 := b_11
  replace b_12 : st ≤ 701 := b_12
  have h_2 : Φ x = some (o_ 14 [.int th, .ref (x + 1), .ref (x + 2), .int ti, .int ra, .int (nI rt), .int ex, .int ad, .ref (x + 3), .ref (x + 4), .int me, .long se, .ref (x + 5), .int (nI fl), .int dr, .long ob, .long sa, .long sn, .long us, .ref (x + 6), .ref (x + 7), .int (nI pe), .ref (x + 8), .int (nI le), .ref (x + 9), .ref (x + 10), .int (nI qu), .ref (x + 11), .ref (x + 12), .ref (x + 13), .ref (x + 14), .ref (x + 15), .ref (x + 16), .int (nI n_1), .long v_1, .ref (x + 17), .ref (x + 18), .ref (x + 19), .ref (x + 20), .ref (x + 21), .ref (x + 22), .int (nI n_2), .ref (x + 23), .ref (x + 24), .int (nI tk), .ref (x + 25), .int (nI il), .int (nI nx), .int ec, .int ep, .int kn, .int (nI st), .int nu, .long va]) := h_1
  refine z_put (ref := "FlowExporterModel") (C := RX12) (T := TX12) (N := 54) (ci := 14) (v := .int 0) B hu_X12_knownTemplates_X12 tyX12 tyX12_ok nmX12 rfl 0 (Nat.le_of_ble_eq_true rfl) hv_X12_knownTemplates_1 rfl (Or.inl rfl) h_2 hx rfl rfl (Nat.le_of_ble_eq_true rfl) dX12_knownTemplates_2 (fun Φ1 hΦ1 => ?_)
  have h_3 : Φ1 x = some (o_ 14 [.int 0, .ref (x + 1), .ref (x + 2), .int ti, .int ra, .int (nI rt), .int ex, .int ad, .ref (x + 3), .ref (x + 4), .int me, .long se, .ref (x + 5), .int (nI fl), .int dr, .long ob, .long sa, .long sn, .long us, .ref (x + 6), .ref (x + 7), .int (nI pe), .ref (x + 8), .int (nI le), .ref (x + 9), .ref (x + 10), .int (nI qu), .ref (x + 11), .ref (x + 12), .ref (x + 13), .ref (x + 14), .ref (x + 15), .ref (x + 16), .int (nI n_1), .long v_1, .ref (x + 17), .ref (x + 18), .ref (x + 19), .ref (x + 20), .ref (x + 21), .ref (x + 22), .int (nI n_2), .ref (x + 23), .ref (x + 24), .int (nI tk), .ref (x + 25), .int (nI il), .int (nI nx), .int ec, .int ep, .int kn, .int (nI st), .int nu, .long va]) := fset_at hΦ1
  have hI1 : Im G x (rd, nw, cr, tp, tt, sI, sT, pt, ql, fl, pe, le, nx, il, qu, kn, ec, nu, va, st, ep, ti, ad, ob, ra, rt, ex, sa, us, tk, 0, me, dr, se, sn) Φ1 := Im.put0 hI hΦ1 ⟨n_1, v_1, n_2, rfl, b_13, b_1, b_2, b_3, b_4, b_5, b_6, b_7, b_8, b_9, b_10, b_11, b_12⟩
  refine z_iconst (v := 0) B dX12_knownTemplates_5 rfl ?_
  refine z_istore_n (lv' := [(1, .int 0), (0, .ref x)]) B dX12_knownTemplates_6 rfl (Nat.le_of_ble_eq_true rfl) rfl ?_
  refine z_iconst (v := 0) B dX12_knownTemplates_7 rfl ?_
  refine z_istore_n (lv' := [(2, .int 0), (1, .int 0), (0, .ref x)]) B dX12_knownTemplates_8 rfl (Nat.le_of_ble_eq_true rfl) rfl ?_
  refine z_lv [0, 1, 2] rfl ?_
  refine z_loop (α := Nat × Int32) (fun (a9 : Nat × Int32) Φi => Im G x (rd, nw, cr, tp, tt, sI, sT, pt, ql, fl, pe, le, nx, il, qu, kn, ec, nu, va, st, ep, ti, ad, ob, ra, rt, ex, sa, us, tk, 0, me, dr, se, sn) Φi ∧ Fr x (fun j9 => j9 = 0) Φ1 Φi ∧ (a9.1 ≤ 4) ∧ True) (fun a9 => [(2, .int (nI (a9.1))), (1, .int a9.2), (0, .ref x)]) (fun a9 => 4 - a9.1) ?_ (0, 0) ⟨hI1, fun _ _ => rfl, (show 0 ≤ 4 by omega), trivial⟩
  rintro ⟨i_1, i_2⟩ Φl1 ⟨hI2, hF1, b_14, -⟩ ih1
  replace hI2 : Im G x (rd, nw, cr, tp, tt, sI, sT, pt, ql, fl, pe, le, nx, il, qu, kn, ec, nu, va, st, ep, ti, ad, ob, ra, rt, ex, sa, us, tk, 0, me, dr, se, sn) Φl1 := hI2
  replace b_14 : i_1 ≤ 4 := b_14
  show Z p9 l e9 _ s9 m9 _ w9 t9 k9 _ G 3 9 [(2, .int (nI i_1)), (1, .int i_2), (0, .ref x)] [] Φl1 _ _ _
  refine z_iload_n B dX12_knownTemplates_9 rfl 0 rfl ?_
  refine z_iconst (v := 4) B dX12_knownTemplates_10 rfl ?_
  refine z_icmp_ge (tgt := 38) B dX12_knownTemplates_11 rfl (fun c_1 => ?_) (fun c_1 => ?_)
  · have e_1 : 4 ≤ i_1 := (nI_leI (a := 4) (b := i_1) (by omega) (by omega)).mp c_1
    refine z_iload_n B dX12_knownTemplates_38 rfl 1 rfl ?_
    exact z_ret_i B dX12_knownTemplates_39 ⟨⟨_, rfl⟩, rfl, ⟨0, hI2⟩, (fun b9 h9 => ((hF1 b9 h9).trans ((fset_fr hΦ1 (fun h8 => h9 (0) h8 (show 0 = 0 by decide))).trans rfl)))⟩
  · have e_2 : ¬ (4 ≤ i_1) := fun h9 => c_1 ((nI_leI (a := 4) (b := i_1) (by omega) (by omega)).mpr h9)
    refine z_iload_n B dX12_knownTemplates_14 rfl 1 rfl ?_
    refine z_aload_n B dX12_knownTemplates_15 rfl 2 rfl ?_
    refine z_iload_n B dX12_knownTemplates_16 rfl 0 rfl ?_
    obtain ⟨n_3, v_2, n_4, h_4, b_27, b_15, b_16, b_17, b_18, b_19, b_20, b_21, b_22, b_23, b_24, b_25, b_26⟩ := im0 hI2
    replace b_15 : 1 ≤ rt := b_15
    replace b_16 : rt ≤ 1024 := b_16
    replace b_17 : fl ≤ 12 := b_17
    replace b_18 : pe ≤ 24 := b_18
    replace b_19 : le ≤ 700 := b_19
    replace b_20 : qu ≤ 12 := b_20
    replace b_21 : n_3 ≤ 8 := b_21
    replace b_22 : n_4 ≤ 24 := b_22
    replace b_23 : tk ≤ 24 := b_23
    replace b_24 : il ≤ 700 := b_24
    replace b_25 : nx ≤ 701 := b_25
    replace b_26 : st ≤ 701 := b_26
    have h_5 : Φl1 x = some (o_ 14 [.int 0, .ref (x + 1), .ref (x + 2), .int ti, .int ra, .int (nI rt), .int ex, .int ad, .ref (x + 3), .ref (x + 4), .int me, .long se, .ref (x + 5), .int (nI fl), .int dr, .long ob, .long sa, .long sn, .long us, .ref (x + 6), .ref (x + 7), .int (nI pe), .ref (x + 8), .int (nI le), .ref (x + 9), .ref (x + 10), .int (nI qu), .ref (x + 11), .ref (x + 12), .ref (x + 13), .ref (x + 14), .ref (x + 15), .ref (x + 16), .int (nI n_3), .long v_2, .ref (x + 17), .ref (x + 18), .ref (x + 19), .ref (x + 20), .ref (x + 21), .ref (x + 22), .int (nI n_4), .ref (x + 23), .ref (x + 24), .int (nI tk), .ref (x + 25), .int (nI il), .int (nI nx), .int ec, .int ep, .int kn, .int (nI st), .int nu, .long va]) := h_4
    refine z_callV (As := [.int (nI i_1)]) (rest := [.int i_2]) B (r_isKnown G l Φl1 sz x rd nw cr tp tt sI sT pt ql fl pe le nx il qu kn ec nu va st ep ti ad ob ra rt ex sa us tk 0 me dr se sn i_1 hx hI2 (show i_1 < 4 by omega) hnw) (cwV 1 B.1.2.2.2.2 gX12_knownTemplates_X12_isKnown rfl rfl rfl (by decide +kernel) ⟨Nat.le_of_ble_eq_true rfl, Nat.le_of_ble_eq_true rfl⟩) h_5 rfl rfl rfl rfl (Nat.le_of_ble_eq_true rfl) dX12_knownTemplates_17 ⟨Nat.le_of_ble_eq_true rfl, Nat.le_of_ble_eq_true rfl⟩ (fun r_1 Φ2 sz1 st1 hp1 hs1 => ?_)
    obtain ⟨⟨v_3, rfl, b_28⟩, hq1, hI3, hF2⟩ := hp1
    subst sz1
    replace hs1 : st1 = [.int v_3, .int i_2] := hs1
    subst st1
    replace hI3 : Im G x (rd, nw, cr, tp, tt, sI, sT, pt, ql, fl, pe, le, nx, il, qu, kn, ec, nu, va, st, ep, ti, ad, ob, ra, rt, ex, sa, us, tk, 0, me, dr, se, sn) Φ2 := hI3
    refine z_if_eq (tgt := 29) B dX12_knownTemplates_20 rfl (fun c_2 => ?_) (fun c_2 => ?_)
    · refine z_iconst (v := 0) B dX12_knownTemplates_29 rfl ?_
      refine z_ior B dX12_knownTemplates_30 ?_
      refine z_fi (fun v_4 => ?_)
      refine z_istore_n (lv' := [(1, .int v_4), (2, .int (nI i_1)), (0, .ref x)]) B dX12_knownTemplates_31 rfl (Nat.le_of_ble_eq_true rfl) rfl ?_
      refine z_iinc (k := 1) (v := nI (i_1 + 1)) (lv' := [(2, .int (nI (i_1 + 1))), (1, .int v_4), (0, .ref x)]) B dX12_knownTemplates_32 rfl (nI_add i_1 1) (Nat.le_of_ble_eq_true rfl) rfl ?_
      refine z_goto (tgt := 9) B dX12_knownTemplates_35 rfl ?_
      refine z_lv [0, 1, 2] rfl ?_
      exact ih1 (i_1 + 1, v_4) Φ2 (show 4 - (i_1 + 1) < 4 - i_1 by omega) ⟨hI3, (fun b9 h9 => ((hF2 b9 (fun j9 h8 h7 => (show False from h7).elim)).trans ((hF1 b9 h9).trans rfl))), (show (i_1 + 1) ≤ 4 by omega), trivial⟩
    · refine z_iconst (v := 1) B dX12_knownTemplates_23 rfl ?_
      refine z_iload_n B dX12_knownTemplates_24 rfl 0 rfl ?_
      refine z_ishl B dX12_knownTemplates_25 ?_
      refine z_fi (fun v_5 => ?_)
      refine z_goto (tgt := 30) B dX12_knownTemplates_26 rfl ?_
      refine z_ior B dX12_knownTemplates_30 ?_
      refine z_fi (fun v_6 => ?_)
      refine z_istore_n (lv' := [(1, .int v_6), (2, .int (nI i_1)), (0, .ref x)]) B dX12_knownTemplates_31 rfl (Nat.le_of_ble_eq_true rfl) rfl ?_
      refine z_iinc (k := 1) (v := nI (i_1 + 1)) (lv' := [(2, .int (nI (i_1 + 1))), (1, .int v_6), (0, .ref x)]) B dX12_knownTemplates_32 rfl (nI_add i_1 1) (Nat.le_of_ble_eq_true rfl) rfl ?_
      refine z_goto (tgt := 9) B dX12_knownTemplates_35 rfl ?_
      refine z_lv [0, 1, 2] rfl ?_
      exact ih1 (i_1 + 1, v_6) Φ2 (show 4 - (i_1 + 1) < 4 - i_1 by omega) ⟨hI3, (fun b9 h9 => ((hF2 b9 (fun j9 h8 h7 => (show False from h7).elim)).trans ((hF1 b9 h9).trans rfl))), (show (i_1 + 1) ≤ 4 by omega), trivial⟩

theorem hu_X12_templateAge_X12 : ∀ w ∈ u_ws RX12 TX12 54, w ∈ wsX12_templateAge := fun _ h => List.mem_cons_of_mem _ (List.mem_append_left _ (List.mem_append_right _ (h)))

theorem hv_X12_templateAge_1 : Cond.fieldLink RX12 1 "FlowExporterModel" (TX12 0).2.1 (TX12 0).2.2.1 ∈ wsX12_templateAge := List.mem_cons_of_mem _ (List.mem_append_left _ (List.mem_append_left _ (List.mem_of_getElem? (i := 0) rfl)))

theorem hv_X12_templateAge_48 : Cond.fieldLink RX12 48 "FlowExporterModel" (TX12 28).2.1 (TX12 28).2.2.1 ∈ wsX12_templateAge := List.mem_cons_of_mem _ (List.mem_append_left _ (List.mem_append_left _ (List.mem_of_getElem? (i := 2) rfl)))

theorem hv_X12_templateAge_101 : Cond.fieldLink RX12 101 "FlowExporterModel" (TX12 3).2.1 (TX12 3).2.2.1 ∈ wsX12_templateAge := List.mem_cons_of_mem _ (List.mem_append_left _ (List.mem_append_left _ (List.mem_of_getElem? (i := 3) rfl)))

theorem hv_X12_templateAge_54 : Cond.fieldLink RX12 54 "FlowExporterModel" (TX12 30).2.1 (TX12 30).2.2.1 ∈ wsX12_templateAge := List.mem_cons_of_mem _ (List.mem_append_left _ (List.mem_append_left _ (List.mem_of_getElem? (i := 4) rfl)))

set_option maxHeartbeats 4000000 in
set_option maxRecDepth 100000 in
theorem r_templateAge (G : EnvG) (l : Launch) (Φ : Hm) (sz x : Nat) (rd : (Nat → Int32) → Prop) (nw : (Nat → Int32) → Prop) (cr : (Nat → Int64) → Prop) (tp : (Nat → Int32) → Prop) (tt : (Nat → Int64) → Prop) (sI : (Nat → Int32) → Prop) (sT : (Nat → Int32) → Prop) (pt : (Nat → Int32) → Prop) (ql : (Nat → Int32) → Prop) (fl : Nat) (pe : Nat) (le : Nat) (nx : Nat) (il : Nat) (qu : Nat) (kn : Int32) (ec : Int32) (nu : Int32) (va : Int64) (st : Nat) (ep : Int32) (ti : Int32) (ad : Int32) (ob : Int64) (ra : Int32) (rt : Nat) (ex : Int32) (sa : Int64) (us : Int64) (tk : Nat) (th : Int32) (me : Int32) (dr : Int32) (se : Int64) (sn : Int64) (a : Int32) (hx : G.2.2.2 ≤ x) (hI : Im G x (rd, nw, cr, tp, tt, sI, sT, pt, ql, fl, pe, le, nx, il, qu, kn, ec, nu, va, st, ep, ti, ad, ob, ra, rt, ex, sa, us, tk, th, me, dr, se, sn) Φ) (hnw : ∀ f9 : Nat → Int32, nw f9 → NN f9) : Ct G l yX12_templateAge wsX12_templateAge ({ frames := 1, cells := 0, slots := 0, locals := 25 }) 0 0 [.ref x, .int a] Φ sz (fun v Φ1 sz1 => (∃ r9 : Int32, v = some (.int r9)) ∧ sz1 = sz ∧ (∃ (th1 : Int32), Im G x (rd, nw, cr, tp, tt, sI, sT, pt, ql, fl, pe, le, nx, il, qu, kn, ec, nu, va, st, ep, ti, ad, ob, ra, rt, ex, sa, us, tk, th1, me, dr, se, sn) Φ1) ∧ Fr x (fun j9 => j9 = 0) Φ Φ1) := by
  refine Ct.of (cc := cX12_templateAge) (maxL := 2) (ret := (some .int)) (by decide) rfl (Nat.le_of_ble_eq_true rfl) ?_
  intro p9 e9 s9 m9 w9 t9 k9 B
  show Z p9 l e9 _ s9 m9 _ w9 t9 k9 _ G 2 0 [(0, .ref x), (1, .int a)] [] Φ sz 0 0
  refine z_aload_n B dX12_templateAge_0 rfl 0 rfl ?_
  refine z_iconst (v := 0) B dX12_templateAge_1 rfl ?_
  obtain ⟨n_1, v_1, n_2, h_1, b_13, b_1, b_2, b_3, b_4, b_5, b_6, b_7, b_8, b_9, b_10, b_11, b_12⟩ := im0 hI
  replace b_1 : 1 ≤ rt := b_1
  replace b_2 : rt ≤ 1024 := b_2
  replace b_3 : fl ≤ 12 := b_3
  replace b_4 : pe ≤ 24 := b_4
  replace b_5 : le ≤ 700 := b_5
  replace b_6 : qu ≤ 12 := b_6
  replace b_7 : n_1 ≤ 8 := b_7
  replace b_8 : n_2 ≤ 24 := b_8
  replace b_9 : tk ≤ 24 := b_9
  replace b_10 : il ≤ 700 := b_10
  replace b_11 : nx ≤ 701 := b_11
  replace b_12 : st ≤ 701 := b_12
  have h_2 : Φ x = some (o_ 14 [.int th, .ref (x + 1), .ref (x + 2), .int ti, .int ra, .int (nI rt), .int ex, .int ad, .ref (x + 3), .ref (x + 4), .int me, .long se, .ref (x + 5), .int (nI fl), .int dr, .long ob, .long sa, .long sn, .long us, .ref (x + 6), .ref (x + 7), .int (nI pe), .ref (x + 8), .int (nI le), .ref (x + 9), .ref (x + 10), .int (nI qu), .ref (x + 11), .ref (x + 12), .ref (x + 13), .ref (x + 14), .ref (x + 15), .ref (x + 16), .int (nI n_1), .long v_1, .ref (x + 17), .ref (x + 18), .ref (x + 19), .ref (x + 20), .ref (x + 21), .ref (x + 22), .int (nI n_2), .ref (x + 23), .ref (x + 24), .int (nI tk), .ref (x + 25), .int (nI il), .int (nI nx), .int ec, .int ep, .int kn, .int (nI st), .int nu, .long va]) := h_1
  refine z_put (ref := "FlowExporterModel") (C := RX12) (T := TX12) (N := 54) (ci := 14) (v := .int 0) B hu_X12_templateAge_X12 tyX12 tyX12_ok nmX12 rfl 0 (Nat.le_of_ble_eq_true rfl) hv_X12_templateAge_1 rfl (Or.inl rfl) h_2 hx rfl rfl (Nat.le_of_ble_eq_true rfl) dX12_templateAge_2 (fun Φ1 hΦ1 => ?_)
  have h_3 : Φ1 x = some (o_ 14 [.int 0, .ref (x + 1), .ref (x + 2), .int ti, .int ra, .int (nI rt), .int ex, .int ad, .ref (x + 3), .ref (x + 4), .int me, .long se, .ref (x + 5), .int (nI fl), .int dr, .long ob, .long sa, .long sn, .long us, .ref (x + 6), .ref (x + 7), .int (nI pe), .ref (x + 8), .int (nI le), .ref (x + 9), .ref (x + 10), .int (nI qu), .ref (x + 11), .ref (x + 12), .ref (x + 13), .ref (x + 14), .ref (x + 15), .ref (x + 16), .int (nI n_1), .long v_1, .ref (x + 17), .ref (x + 18), .ref (x + 19), .ref (x + 20), .ref (x + 21), .ref (x + 22), .int (nI n_2), .ref (x + 23), .ref (x + 24), .int (nI tk), .ref (x + 25), .int (nI il), .int (nI nx), .int ec, .int ep, .int kn, .int (nI st), .int nu, .long va]) := fset_at hΦ1
  have hI1 : Im G x (rd, nw, cr, tp, tt, sI, sT, pt, ql, fl, pe, le, nx, il, qu, kn, ec, nu, va, st, ep, ti, ad, ob, ra, rt, ex, sa, us, tk, 0, me, dr, se, sn) Φ1 := Im.put0 hI hΦ1 ⟨n_1, v_1, n_2, rfl, b_13, b_1, b_2, b_3, b_4, b_5, b_6, b_7, b_8, b_9, b_10, b_11, b_12⟩
  refine z_aload_n B dX12_templateAge_5 rfl 0 rfl ?_
  refine z_iload_n B dX12_templateAge_6 rfl 1 rfl ?_
  refine z_i2l (v := a.toInt64) B dX12_templateAge_7 rfl ?_
  refine z_lconst (v := 0) B dX12_templateAge_8 rfl ?_
  refine z_ldc2 (v := 3) B (by decide +kernel) dX12_templateAge_9 ?_
  by_cases hR1 : inP a.toInt64 0 3
  · obtain ⟨n_3, e_1, e_2, e_3, rfl⟩ := in_get (L := 0) (H := 3) (by decide) (by decide) hR1
    refine z_callS (As := [.long ((nI n_3).toInt64), .long 0, .long 3]) (rest := [.ref x]) B (c_inR1 G l Φ1 sz ((nI n_3).toInt64) 0 3 hR1 (fun v8 Φ8 sz8 => v8 = some (.int 1) ∧ sz8 = sz ∧ Im G x (rd, nw, cr, tp, tt, sI, sT, pt, ql, fl, pe, le, nx, il, qu, kn, ec, nu, va, st, ep, ti, ad, ob, ra, rt, ex, sa, us, tk, 0, me, dr, se, sn) Φ8 ∧ Fr x (fun j9 => False) Φ1 Φ8) ⟨rfl, rfl, hI1, fun _ _ => rfl⟩) (va_cwS 3 B.1.2.2.2.2 gX12_templateAge_X12_inRange rfl rfl rfl (by decide +kernel) ⟨Nat.le_of_ble_eq_true rfl, Nat.le_of_ble_eq_true rfl⟩) rfl rfl (Nat.le_of_ble_eq_true rfl) dX12_templateAge_12 ⟨Nat.le_of_ble_eq_true rfl, Nat.le_of_ble_eq_true rfl⟩ (fun r_1 Φ2 sz1 st1 hp1 hs1 => ?_)
    obtain ⟨rfl, hq1, hI2, hF1⟩ := hp1
    subst sz1
    replace hs1 : st1 = [.int 1, .ref x] := hs1
    subst st1
    refine z_if_ne (tgt := 22) B dX12_templateAge_15 rfl (fun c_1 => ?_) (fun h9 => absurd h9 (by decide))
    refine z_iconst (v := 0) B dX12_templateAge_22 rfl ?_
    refine z_iconst (v := 1) B dX12_templateAge_23 rfl ?_
    have h_4 : Φ2 x = some (o_ 14 [.int 0, .ref (x + 1), .ref (x + 2), .int ti, .int ra, .int (nI rt), .int ex, .int ad, .ref (x + 3), .ref (x + 4), .int me, .long se, .ref (x + 5), .int (nI fl), .int dr, .long ob, .long sa, .long sn, .long us, .ref (x + 6), .ref (x + 7), .int (nI pe), .ref (x + 8), .int (nI le), .ref (x + 9), .ref (x + 10), .int (nI qu), .ref (x + 11), .ref (x + 12), .ref (x + 13), .ref (x + 14), .ref (x + 15), .ref (x + 16), .int (nI n_1), .long v_1, .ref (x + 17), .ref (x + 18), .ref (x + 19), .ref (x + 20), .ref (x + 21), .ref (x + 22), .int (nI n_2), .ref (x + 23), .ref (x + 24), .int (nI tk), .ref (x + 25), .int (nI il), .int (nI nx), .int ec, .int ep, .int kn, .int (nI st), .int nu, .long va]) := ((hF1 x (fun j9 h8 h7 => (show False from h7).elim)).trans h_3)
    refine z_callV (As := [.int 0, .int 1]) (rest := []) B (r_throwsIf G l Φ2 sz x rd nw cr tp tt sI sT pt ql fl pe le nx il qu kn ec nu va st ep ti ad ob ra rt ex sa us tk 0 me dr se sn 0 1 hx hI2 (by decide) hnw) (cwV 2 B.1.2.2.2.2 gX12_templateAge_X12_throwsIf rfl rfl rfl (by decide +kernel) ⟨Nat.le_of_ble_eq_true rfl, Nat.le_of_ble_eq_true rfl⟩) h_4 rfl rfl rfl rfl (Nat.le_of_ble_eq_true rfl) dX12_templateAge_24 ⟨Nat.le_of_ble_eq_true rfl, Nat.le_of_ble_eq_true rfl⟩ (fun r_2 Φ3 sz2 st2 hp2 hs2 => ?_)
    obtain ⟨rfl, hq2, ⟨v_2, hI3⟩, hF2⟩ := hp2
    subst sz2
    replace hs2 : st2 = [.int 0] := hs2
    subst st2
    replace hI3 : Im G x (rd, nw, cr, tp, tt, sI, sT, pt, ql, fl, pe, le, nx, il, qu, kn, ec, nu, va, st, ep, ti, ad, ob, ra, rt, ex, sa, us, tk, v_2, me, dr, se, sn) Φ3 := hI3
    refine z_if_eq (tgt := 32) B dX12_templateAge_27 rfl (fun c_2 => ?_) (fun h9 => absurd (by decide) h9)
    refine z_aload_n B dX12_templateAge_32 rfl 0 rfl ?_
    obtain ⟨n_4, v_3, n_5, h_5, b_26, b_14, b_15, b_16, b_17, b_18, b_19, b_20, b_21, b_22, b_23, b_24, b_25⟩ := im0 hI3
    replace b_14 : 1 ≤ rt := b_14
    replace b_15 : rt ≤ 1024 := b_15
    replace b_16 : fl ≤ 12 := b_16
    replace b_17 : pe ≤ 24 := b_17
    replace b_18 : le ≤ 700 := b_18
    replace b_19 : qu ≤ 12 := b_19
    replace b_20 : n_4 ≤ 8 := b_20
    replace b_21 : n_5 ≤ 24 := b_21
    replace b_22 : tk ≤ 24 := b_22
    replace b_23 : il ≤ 700 := b_23
    replace b_24 : nx ≤ 701 := b_24
    replace b_25 : st ≤ 701 := b_25
    have h_6 : Φ3 x = some (o_ 14 [.int v_2, .ref (x + 1), .ref (x + 2), .int ti, .int ra, .int (nI rt), .int ex, .int ad, .ref (x + 3), .ref (x + 4), .int me, .long se, .ref (x + 5), .int (nI fl), .int dr, .long ob, .long sa, .long sn, .long us, .ref (x + 6), .ref (x + 7), .int (nI pe), .ref (x + 8), .int (nI le), .ref (x + 9), .ref (x + 10), .int (nI qu), .ref (x + 11), .ref (x + 12), .ref (x + 13), .ref (x + 14), .ref (x + 15), .ref (x + 16), .int (nI n_4), .long v_3, .ref (x + 17), .ref (x + 18), .ref (x + 19), .ref (x + 20), .ref (x + 21), .ref (x + 22), .int (nI n_5), .ref (x + 23), .ref (x + 24), .int (nI tk), .ref (x + 25), .int (nI il), .int (nI nx), .int ec, .int ep, .int kn, .int (nI st), .int nu, .long va]) := h_5
    refine z_get (ref := "FlowExporterModel") (C := RX12) (T := TX12) (N := 54) (ci := 14) (v := .ref (x + 12)) B hu_X12_templateAge_X12 rfl 28 (Nat.le_of_ble_eq_true rfl) hv_X12_templateAge_48 rfl h_6 rfl dX12_templateAge_33 ?_
    refine z_iload_n B dX12_templateAge_36 rfl 1 rfl ?_
    obtain ⟨f_1, h_7, r_3⟩ := imk (k := 12) hI3
    replace r_3 : Rw 9 f_1 := r_3
    have h_8 : Φ3 (x + 12) = some (ai_ G 4 f_1) := h_7
    refine z_iald B h_8 (vp_in_nI (by omega) (by omega)) dX12_templateAge_37 ?_
    obtain ⟨n_6, b_27, e_4⟩ := r_3 ((nI n_3).toNatClampNeg)
    refine z_top (st1 := [.int (nI n_6)]) (congrArg (fun w9 : Int32 => ([.int w9] : List Value)) (e_4)) ?_
    refine z_if_le (tgt := 55) B dX12_templateAge_38 rfl (fun c_3 => ?_) (fun c_3 => ?_)
    · have e_5 : n_6 ≤ 0 := (nI_leI (a := n_6) (b := 0) (by omega) (by omega)).mp c_3
      refine z_iconst (v := (-1)) B dX12_templateAge_55 rfl ?_
      exact z_ret_i B dX12_templateAge_56 ⟨⟨_, rfl⟩, rfl, ⟨v_2, hI3⟩, (fun b9 h9 => ((hF2 b9 h9).trans ((hF1 b9 (fun j9 h8 h7 => (show False from h7).elim)).trans ((fset_fr hΦ1 (fun h8 => h9 (0) h8 (show 0 = 0 by decide))).trans rfl))))⟩
    · have e_6 : ¬ (n_6 ≤ 0) := fun h9 => c_3 ((nI_leI (a := n_6) (b := 0) (by omega) (by omega)).mpr h9)
      refine z_aload_n B dX12_templateAge_41 rfl 0 rfl ?_
      refine z_get (ref := "FlowExporterModel") (C := RX12) (T := TX12) (N := 54) (ci := 14) (v := .int ti) B hu_X12_templateAge_X12 rfl 3 (Nat.le_of_ble_eq_true rfl) hv_X12_templateAge_101 rfl h_6 rfl dX12_templateAge_42 ?_
      refine z_aload_n B dX12_templateAge_45 rfl 0 rfl ?_
      refine z_get (ref := "FlowExporterModel") (C := RX12) (T := TX12) (N := 54) (ci := 14) (v := .ref (x + 14)) B hu_X12_templateAge_X12 rfl 30 (Nat.le_of_ble_eq_true rfl) hv_X12_templateAge_54 rfl h_6 rfl dX12_templateAge_46 ?_
      refine z_iload_n B dX12_templateAge_49 rfl 1 rfl ?_
      obtain ⟨f_2, h_9⟩ := imk (k := 14) hI3
      have h_10 : Φ3 (x + 14) = some (ai_ G 4 f_2) := h_9
      refine z_iald B h_10 (vp_in_nI (by omega) (by omega)) dX12_templateAge_50 ?_
      refine z_fi (fun v_4 => ?_)
      refine z_isub B dX12_templateAge_51 ?_
      refine z_fi (fun v_5 => ?_)
      refine z_goto (tgt := 56) B dX12_templateAge_52 rfl ?_
      exact z_ret_i B dX12_templateAge_56 ⟨⟨_, rfl⟩, rfl, ⟨v_2, hI3⟩, (fun b9 h9 => ((hF2 b9 h9).trans ((hF1 b9 (fun j9 h8 h7 => (show False from h7).elim)).trans ((fset_fr hΦ1 (fun h8 => h9 (0) h8 (show 0 = 0 by decide))).trans rfl))))⟩
  · have q_1 : ¬ (0 ≤ a.toInt ∧ a.toInt ≤ 3) := fun h9 => hR1 ((inP_i (by decide) (by decide)).mpr h9)
    refine z_callS (As := [.long a.toInt64, .long 0, .long 3]) (rest := [.ref x]) B (c_inR0 G l Φ1 sz a.toInt64 0 3 hR1 (fun v8 Φ8 sz8 => v8 = some (.int 0) ∧ sz8 = sz ∧ Im G x (rd, nw, cr, tp, tt, sI, sT, pt, ql, fl, pe, le, nx, il, qu, kn, ec, nu, va, st, ep, ti, ad, ob, ra, rt, ex, sa, us, tk, 0, me, dr, se, sn) Φ8 ∧ Fr x (fun j9 => False) Φ1 Φ8) ⟨rfl, rfl, hI1, fun _ _ => rfl⟩) (va_cwS 3 B.1.2.2.2.2 gX12_templateAge_X12_inRange rfl rfl rfl (by decide +kernel) ⟨Nat.le_of_ble_eq_true rfl, Nat.le_of_ble_eq_true rfl⟩) rfl rfl (Nat.le_of_ble_eq_true rfl) dX12_templateAge_12 ⟨Nat.le_of_ble_eq_true rfl, Nat.le_of_ble_eq_true rfl⟩ (fun r_5 Φ4 sz3 st3 hp3 hs3 => ?_)
    obtain ⟨rfl, hq3, hI4, hF3⟩ := hp3
    subst sz3
    replace hs3 : st3 = [.int 0, .ref x] := hs3
    subst st3
    refine z_if_ne (tgt := 22) B dX12_templateAge_15 rfl (fun h9 => absurd (by decide) h9) (fun c_4 => ?_)
    refine z_iconst (v := 1) B dX12_templateAge_18 rfl ?_
    refine z_goto (tgt := 23) B dX12_templateAge_19 rfl ?_
    refine z_iconst (v := 1) B dX12_templateAge_23 rfl ?_
    have h_11 : Φ4 x = some (o_ 14 [.int 0, .ref (x + 1), .ref (x + 2), .int ti, .int ra, .int (nI rt), .int ex, .int ad, .ref (x + 3), .ref (x + 4), .int me, .long se, .ref (x + 5), .int (nI fl), .int dr, .long ob, .long sa, .long sn, .long us, .ref (x + 6), .ref (x + 7), .int (nI pe), .ref (x + 8), .int (nI le), .ref (x + 9), .ref (x + 10), .int (nI qu), .ref (x + 11), .ref (x + 12), .ref (x + 13), .ref (x + 14), .ref (x + 15), .ref (x + 16), .int (nI n_1), .long v_1, .ref (x + 17), .ref (x + 18), .ref (x + 19), .ref (x + 20), .ref (x + 21), .ref (x + 22), .int (nI n_2), .ref (x + 23), .ref (x + 24), .int (nI tk), .ref (x + 25), .int (nI il), .int (nI nx), .int ec, .int ep, .int kn, .int (nI st), .int nu, .long va]) := ((hF3 x (fun j9 h8 h7 => (show False from h7).elim)).trans h_3)
    refine z_callV (As := [.int 1, .int 1]) (rest := []) B (r_throwsIf G l Φ4 sz x rd nw cr tp tt sI sT pt ql fl pe le nx il qu kn ec nu va st ep ti ad ob ra rt ex sa us tk 0 me dr se sn 1 1 hx hI4 (by decide) hnw) (cwV 2 B.1.2.2.2.2 gX12_templateAge_X12_throwsIf rfl rfl rfl (by decide +kernel) ⟨Nat.le_of_ble_eq_true rfl, Nat.le_of_ble_eq_true rfl⟩) h_11 rfl rfl rfl rfl (Nat.le_of_ble_eq_true rfl) dX12_templateAge_24 ⟨Nat.le_of_ble_eq_true rfl, Nat.le_of_ble_eq_true rfl⟩ (fun r_6 Φ5 sz4 st4 hp4 hs4 => ?_)
    obtain ⟨rfl, hq4, ⟨v_6, hI5⟩, hF4⟩ := hp4
    subst sz4
    replace hs4 : st4 = [.int 1] := hs4
    subst st4
    replace hI5 : Im G x (rd, nw, cr, tp, tt, sI, sT, pt, ql, fl, pe, le, nx, il, qu, kn, ec, nu, va, st, ep, ti, ad, ob, ra, rt, ex, sa, us, tk, v_6, me, dr, se, sn) Φ5 := hI5
    refine z_if_eq (tgt := 32) B dX12_templateAge_27 rfl (fun h9 => absurd h9 (by decide)) (fun c_5 => ?_)
    refine z_iconst (v := 0) B dX12_templateAge_30 rfl ?_
    exact z_ret_i B dX12_templateAge_31 ⟨⟨_, rfl⟩, rfl, ⟨v_6, hI5⟩, (fun b9 h9 => ((hF4 b9 h9).trans ((hF3 b9 (fun j9 h8 h7 => (show False from h7).elim)).trans ((fset_fr hΦ1 (fun h8 => h9 (0) h8 (show 0 = 0 by decide))).trans rfl))))⟩

theorem hu_X12_counter_X12 : ∀ w ∈ u_ws RX12 TX12 54, w ∈ wsX12_counter := fun _ h => List.mem_cons_of_mem _ (List.mem_append_left _ (List.mem_append_right _ (h)))

theorem hv_X12_counter_1 : Cond.fieldLink RX12 1 "FlowExporterModel" (TX12 0).2.1 (TX12 0).2.2.1 ∈ wsX12_counter := List.mem_cons_of_mem _ (List.mem_append_left _ (List.mem_append_left _ (List.mem_of_getElem? (i := 0) rfl)))

theorem hv_X12_counter_45 : Cond.fieldLink RX12 45 "FlowExporterModel" (TX12 27).2.1 (TX12 27).2.2.1 ∈ wsX12_counter := List.mem_cons_of_mem _ (List.mem_append_left _ (List.mem_append_left _ (List.mem_of_getElem? (i := 2) rfl)))

set_option maxHeartbeats 4000000 in
set_option maxRecDepth 100000 in
theorem r_counter (G : EnvG) (l : Launch) (Φ : Hm) (sz x : Nat) (rd : (Nat → Int32) → Prop) (nw : (Nat → Int32) → Prop) (cr : (Nat → Int64) → Prop) (tp : (Nat → Int32) → Prop) (tt : (Nat → Int64) → Prop) (sI : (Nat → Int32) → Prop) (sT : (Nat → Int32) → Prop) (pt : (Nat → Int32) → Prop) (ql : (Nat → Int32) → Prop) (fl : Nat) (pe : Nat) (le : Nat) (nx : Nat) (il : Nat) (qu : Nat) (kn : Int32) (ec : Int32) (nu : Int32) (va : Int64) (st : Nat) (ep : Int32) (ti : Int32) (ad : Int32) (ob : Int64) (ra : Int32) (rt : Nat) (ex : Int32) (sa : Int64) (us : Int64) (tk : Nat) (th : Int32) (me : Int32) (dr : Int32) (se : Int64) (sn : Int64) (a : Int32) (hx : G.2.2.2 ≤ x) (hI : Im G x (rd, nw, cr, tp, tt, sI, sT, pt, ql, fl, pe, le, nx, il, qu, kn, ec, nu, va, st, ep, ti, ad, ob, ra, rt, ex, sa, us, tk, th, me, dr, se, sn) Φ) (hnw : ∀ f9 : Nat → Int32, nw f9 → NN f9) : Ct G l yX12_counter wsX12_counter ({ frames := 1, cells := 0, slots := 0, locals := 25 }) 0 0 [.ref x, .int a] Φ sz (fun v Φ1 sz1 => (∃ r9 : Int64, v = some (.long r9)) ∧ sz1 = sz ∧ (∃ (th1 : Int32), Im G x (rd, nw, cr, tp, tt, sI, sT, pt, ql, fl, pe, le, nx, il, qu, kn, ec, nu, va, st, ep, ti, ad, ob, ra, rt, ex, sa, us, tk, th1, me, dr, se, sn) Φ1) ∧ Fr x (fun j9 => j9 = 0) Φ Φ1) := by
  refine Ct.of (cc := cX12_counter) (maxL := 2) (ret := (some .long)) (by decide) rfl (Nat.le_of_ble_eq_true rfl) ?_
  intro p9 e9 s9 m9 w9 t9 k9 B
  show Z p9 l e9 _ s9 m9 _ w9 t9 k9 _ G 2 0 [(0, .ref x), (1, .int a)] [] Φ sz 0 0
  refine z_aload_n B dX12_counter_0 rfl 0 rfl ?_
  refine z_iconst (v := 0) B dX12_counter_1 rfl ?_
  obtain ⟨n_1, v_1, n_2, h_1, b_13, b_1, b_2, b_3, b_4, b_5, b_6, b_7, b_8, b_9, b_10, b_11, b_12⟩ := im0 hI
  replace b_1 : 1 ≤ rt := b_1
  replace b_2 : rt ≤ 1024 := b_2
  replace b_3 : fl ≤ 12 := b_3
  replace b_4 : pe ≤ 24 := b_4
  replace b_5 : le ≤ 700 := b_5
  replace b_6 : qu ≤ 12 := b_6
  replace b_7 : n_1 ≤ 8 := b_7
  replace b_8 : n_2 ≤ 24 := b_8
  replace b_9 : tk ≤ 24 := b_9
  replace b_10 : il ≤ 700 := b_10
  replace b_11 : nx ≤ 701 := b_11
  replace b_12 : st ≤ 701 := b_12
  have h_2 : Φ x = some (o_ 14 [.int th, .ref (x + 1), .ref (x + 2), .int ti, .int ra, .int (nI rt), .int ex, .int ad, .ref (x + 3), .ref (x + 4), .int me, .long se, .ref (x + 5), .int (nI fl), .int dr, .long ob, .long sa, .long sn, .long us, .ref (x + 6), .ref (x + 7), .int (nI pe), .ref (x + 8), .int (nI le), .ref (x + 9), .ref (x + 10), .int (nI qu), .ref (x + 11), .ref (x + 12), .ref (x + 13), .ref (x + 14), .ref (x + 15), .ref (x + 16), .int (nI n_1), .long v_1, .ref (x + 17), .ref (x + 18), .ref (x + 19), .ref (x + 20), .ref (x + 21), .ref (x + 22), .int (nI n_2), .ref (x + 23), .ref (x + 24), .int (nI tk), .ref (x + 25), .int (nI il), .int (nI nx), .int ec, .int ep, .int kn, .int (nI st), .int nu, .long va]) := h_1
  refine z_put (ref := "FlowExporterModel") (C := RX12) (T := TX12) (N := 54) (ci := 14) (v := .int 0) B hu_X12_counter_X12 tyX12 tyX12_ok nmX12 rfl 0 (Nat.le_of_ble_eq_true rfl) hv_X12_counter_1 rfl (Or.inl rfl) h_2 hx rfl rfl (Nat.le_of_ble_eq_true rfl) dX12_counter_2 (fun Φ1 hΦ1 => ?_)
  have h_3 : Φ1 x = some (o_ 14 [.int 0, .ref (x + 1), .ref (x + 2), .int ti, .int ra, .int (nI rt), .int ex, .int ad, .ref (x + 3), .ref (x + 4), .int me, .long se, .ref (x + 5), .int (nI fl), .int dr, .long ob, .long sa, .long sn, .long us, .ref (x + 6), .ref (x + 7), .int (nI pe), .ref (x + 8), .int (nI le), .ref (x + 9), .ref (x + 10), .int (nI qu), .ref (x + 11), .ref (x + 12), .ref (x + 13), .ref (x + 14), .ref (x + 15), .ref (x + 16), .int (nI n_1), .long v_1, .ref (x + 17), .ref (x + 18), .ref (x + 19), .ref (x + 20), .ref (x + 21), .ref (x + 22), .int (nI n_2), .ref (x + 23), .ref (x + 24), .int (nI tk), .ref (x + 25), .int (nI il), .int (nI nx), .int ec, .int ep, .int kn, .int (nI st), .int nu, .long va]) := fset_at hΦ1
  have hI1 : Im G x (rd, nw, cr, tp, tt, sI, sT, pt, ql, fl, pe, le, nx, il, qu, kn, ec, nu, va, st, ep, ti, ad, ob, ra, rt, ex, sa, us, tk, 0, me, dr, se, sn) Φ1 := Im.put0 hI hΦ1 ⟨n_1, v_1, n_2, rfl, b_13, b_1, b_2, b_3, b_4, b_5, b_6, b_7, b_8, b_9, b_10, b_11, b_12⟩
  refine z_aload_n B dX12_counter_5 rfl 0 rfl ?_
  refine z_iload_n B dX12_counter_6 rfl 1 rfl ?_
  refine z_i2l (v := a.toInt64) B dX12_counter_7 rfl ?_
  refine z_lconst (v := 0) B dX12_counter_8 rfl ?_
  refine z_ldc2 (v := 8) B (by decide +kernel) dX12_counter_9 ?_
  by_cases hR1 : inP a.toInt64 0 8
  · obtain ⟨n_3, e_1, e_2, e_3, rfl⟩ := in_get (L := 0) (H := 8) (by decide) (by decide) hR1
    refine z_callS (As := [.long ((nI n_3).toInt64), .long 0, .long 8]) (rest := [.ref x]) B (c_inR1 G l Φ1 sz ((nI n_3).toInt64) 0 8 hR1 (fun v8 Φ8 sz8 => v8 = some (.int 1) ∧ sz8 = sz ∧ Im G x (rd, nw, cr, tp, tt, sI, sT, pt, ql, fl, pe, le, nx, il, qu, kn, ec, nu, va, st, ep, ti, ad, ob, ra, rt, ex, sa, us, tk, 0, me, dr, se, sn) Φ8 ∧ Fr x (fun j9 => False) Φ1 Φ8) ⟨rfl, rfl, hI1, fun _ _ => rfl⟩) (va_cwS 3 B.1.2.2.2.2 gX12_counter_X12_inRange rfl rfl rfl (by decide +kernel) ⟨Nat.le_of_ble_eq_true rfl, Nat.le_of_ble_eq_true rfl⟩) rfl rfl (Nat.le_of_ble_eq_true rfl) dX12_counter_12 ⟨Nat.le_of_ble_eq_true rfl, Nat.le_of_ble_eq_true rfl⟩ (fun r_1 Φ2 sz1 st1 hp1 hs1 => ?_)
    obtain ⟨rfl, hq1, hI2, hF1⟩ := hp1
    subst sz1
    replace hs1 : st1 = [.int 1, .ref x] := hs1
    subst st1
    refine z_if_ne (tgt := 22) B dX12_counter_15 rfl (fun c_1 => ?_) (fun h9 => absurd h9 (by decide))
    refine z_iconst (v := 0) B dX12_counter_22 rfl ?_
    refine z_iconst (v := 1) B dX12_counter_23 rfl ?_
    have h_4 : Φ2 x = some (o_ 14 [.int 0, .ref (x + 1), .ref (x + 2), .int ti, .int ra, .int (nI rt), .int ex, .int ad, .ref (x + 3), .ref (x + 4), .int me, .long se, .ref (x + 5), .int (nI fl), .int dr, .long ob, .long sa, .long sn, .long us, .ref (x + 6), .ref (x + 7), .int (nI pe), .ref (x + 8), .int (nI le), .ref (x + 9), .ref (x + 10), .int (nI qu), .ref (x + 11), .ref (x + 12), .ref (x + 13), .ref (x + 14), .ref (x + 15), .ref (x + 16), .int (nI n_1), .long v_1, .ref (x + 17), .ref (x + 18), .ref (x + 19), .ref (x + 20), .ref (x + 21), .ref (x + 22), .int (nI n_2), .ref (x + 23), .ref (x + 24), .int (nI tk), .ref (x + 25), .int (nI il), .int (nI nx), .int ec, .int ep, .int kn, .int (nI st), .int nu, .long va]) := ((hF1 x (fun j9 h8 h7 => (show False from h7).elim)).trans h_3)
    refine z_callV (As := [.int 0, .int 1]) (rest := []) B (r_throwsIf G l Φ2 sz x rd nw cr tp tt sI sT pt ql fl pe le nx il qu kn ec nu va st ep ti ad ob ra rt ex sa us tk 0 me dr se sn 0 1 hx hI2 (by decide) hnw) (cwV 2 B.1.2.2.2.2 gX12_counter_X12_throwsIf rfl rfl rfl (by decide +kernel) ⟨Nat.le_of_ble_eq_true rfl, Nat.le_of_ble_eq_true rfl⟩) h_4 rfl rfl rfl rfl (Nat.le_of_ble_eq_true rfl) dX12_counter_24 ⟨Nat.le_of_ble_eq_true rfl, Nat.le_of_ble_eq_true rfl⟩ (fun r_2 Φ3 sz2 st2 hp2 hs2 => ?_)
    obtain ⟨rfl, hq2, ⟨v_2, hI3⟩, hF2⟩ := hp2
    subst sz2
    replace hs2 : st2 = [.int 0] := hs2
    subst st2
    replace hI3 : Im G x (rd, nw, cr, tp, tt, sI, sT, pt, ql, fl, pe, le, nx, il, qu, kn, ec, nu, va, st, ep, ti, ad, ob, ra, rt, ex, sa, us, tk, v_2, me, dr, se, sn) Φ3 := hI3
    refine z_if_eq (tgt := 34) B dX12_counter_27 rfl (fun c_2 => ?_) (fun h9 => absurd (by decide) h9)
    refine z_aload_n B dX12_counter_34 rfl 0 rfl ?_
    obtain ⟨n_4, v_3, n_5, h_5, b_26, b_14, b_15, b_16, b_17, b_18, b_19, b_20, b_21, b_22, b_23, b_24, b_25⟩ := im0 hI3
    replace b_14 : 1 ≤ rt := b_14
    replace b_15 : rt ≤ 1024 := b_15
    replace b_16 : fl ≤ 12 := b_16
    replace b_17 : pe ≤ 24 := b_17
    replace b_18 : le ≤ 700 := b_18
    replace b_19 : qu ≤ 12 := b_19
    replace b_20 : n_4 ≤ 8 := b_20
    replace b_21 : n_5 ≤ 24 := b_21
    replace b_22 : tk ≤ 24 := b_22
    replace b_23 : il ≤ 700 := b_23
    replace b_24 : nx ≤ 701 := b_24
    replace b_25 : st ≤ 701 := b_25
    have h_6 : Φ3 x = some (o_ 14 [.int v_2, .ref (x + 1), .ref (x + 2), .int ti, .int ra, .int (nI rt), .int ex, .int ad, .ref (x + 3), .ref (x + 4), .int me, .long se, .ref (x + 5), .int (nI fl), .int dr, .long ob, .long sa, .long sn, .long us, .ref (x + 6), .ref (x + 7), .int (nI pe), .ref (x + 8), .int (nI le), .ref (x + 9), .ref (x + 10), .int (nI qu), .ref (x + 11), .ref (x + 12), .ref (x + 13), .ref (x + 14), .ref (x + 15), .ref (x + 16), .int (nI n_4), .long v_3, .ref (x + 17), .ref (x + 18), .ref (x + 19), .ref (x + 20), .ref (x + 21), .ref (x + 22), .int (nI n_5), .ref (x + 23), .ref (x + 24), .int (nI tk), .ref (x + 25), .int (nI il), .int (nI nx), .int ec, .int ep, .int kn, .int (nI st), .int nu, .long va]) := h_5
    refine z_get (ref := "FlowExporterModel") (C := RX12) (T := TX12) (N := 54) (ci := 14) (v := .ref (x + 11)) B hu_X12_counter_X12 rfl 27 (Nat.le_of_ble_eq_true rfl) hv_X12_counter_45 rfl h_6 rfl dX12_counter_35 ?_
    refine z_iload_n B dX12_counter_38 rfl 1 rfl ?_
    obtain ⟨f_1, h_7⟩ := imk (k := 11) hI3
    have h_8 : Φ3 (x + 11) = some (al_ G 9 f_1) := h_7
    refine z_lald B h_8 (vp_in_nI (by omega) (by omega)) dX12_counter_39 ?_
    refine z_fl (fun v_4 => ?_)
    exact z_ret_l B dX12_counter_40 ⟨⟨_, rfl⟩, rfl, ⟨v_2, hI3⟩, (fun b9 h9 => ((hF2 b9 h9).trans ((hF1 b9 (fun j9 h8 h7 => (show False from h7).elim)).trans ((fset_fr hΦ1 (fun h8 => h9 (0) h8 (show 0 = 0 by decide))).trans rfl))))⟩
  · have q_1 : ¬ (0 ≤ a.toInt ∧ a.toInt ≤ 8) := fun h9 => hR1 ((inP_i (by decide) (by decide)).mpr h9)
    refine z_callS (As := [.long a.toInt64, .long 0, .long 8]) (rest := [.ref x]) B (c_inR0 G l Φ1 sz a.toInt64 0 8 hR1 (fun v8 Φ8 sz8 => v8 = some (.int 0) ∧ sz8 = sz ∧ Im G x (rd, nw, cr, tp, tt, sI, sT, pt, ql, fl, pe, le, nx, il, qu, kn, ec, nu, va, st, ep, ti, ad, ob, ra, rt, ex, sa, us, tk, 0, me, dr, se, sn) Φ8 ∧ Fr x (fun j9 => False) Φ1 Φ8) ⟨rfl, rfl, hI1, fun _ _ => rfl⟩) (va_cwS 3 B.1.2.2.2.2 gX12_counter_X12_inRange rfl rfl rfl (by decide +kernel) ⟨Nat.le_of_ble_eq_true rfl, Nat.le_of_ble_eq_true rfl⟩) rfl rfl (Nat.le_of_ble_eq_true rfl) dX12_counter_12 ⟨Nat.le_of_ble_eq_true rfl, Nat.le_of_ble_eq_true rfl⟩ (fun r_4 Φ4 sz3 st3 hp3 hs3 => ?_)
    obtain ⟨rfl, hq3, hI4, hF3⟩ := hp3
    subst sz3
    replace hs3 : st3 = [.int 0, .ref x] := hs3
    subst st3
    refine z_if_ne (tgt := 22) B dX12_counter_15 rfl (fun h9 => absurd (by decide) h9) (fun c_3 => ?_)
    refine z_iconst (v := 1) B dX12_counter_18 rfl ?_
    refine z_goto (tgt := 23) B dX12_counter_19 rfl ?_
    refine z_iconst (v := 1) B dX12_counter_23 rfl ?_
    have h_9 : Φ4 x = some (o_ 14 [.int 0, .ref (x + 1), .ref (x + 2), .int ti, .int ra, .int (nI rt), .int ex, .int ad, .ref (x + 3), .ref (x + 4), .int me, .long se, .ref (x + 5), .int (nI fl), .int dr, .long ob, .long sa, .long sn, .long us, .ref (x + 6), .ref (x + 7), .int (nI pe), .ref (x + 8), .int (nI le), .ref (x + 9), .ref (x + 10), .int (nI qu), .ref (x + 11), .ref (x + 12), .ref (x + 13), .ref (x + 14), .ref (x + 15), .ref (x + 16), .int (nI n_1), .long v_1, .ref (x + 17), .ref (x + 18), .ref (x + 19), .ref (x + 20), .ref (x + 21), .ref (x + 22), .int (nI n_2), .ref (x + 23), .ref (x + 24), .int (nI tk), .ref (x + 25), .int (nI il), .int (nI nx), .int ec, .int ep, .int kn, .int (nI st), .int nu, .long va]) := ((hF3 x (fun j9 h8 h7 => (show False from h7).elim)).trans h_3)
    refine z_callV (As := [.int 1, .int 1]) (rest := []) B (r_throwsIf G l Φ4 sz x rd nw cr tp tt sI sT pt ql fl pe le nx il qu kn ec nu va st ep ti ad ob ra rt ex sa us tk 0 me dr se sn 1 1 hx hI4 (by decide) hnw) (cwV 2 B.1.2.2.2.2 gX12_counter_X12_throwsIf rfl rfl rfl (by decide +kernel) ⟨Nat.le_of_ble_eq_true rfl, Nat.le_of_ble_eq_true rfl⟩) h_9 rfl rfl rfl rfl (Nat.le_of_ble_eq_true rfl) dX12_counter_24 ⟨Nat.le_of_ble_eq_true rfl, Nat.le_of_ble_eq_true rfl⟩ (fun r_5 Φ5 sz4 st4 hp4 hs4 => ?_)
    obtain ⟨rfl, hq4, ⟨v_5, hI5⟩, hF4⟩ := hp4
    subst sz4
    replace hs4 : st4 = [.int 1] := hs4
    subst st4
    replace hI5 : Im G x (rd, nw, cr, tp, tt, sI, sT, pt, ql, fl, pe, le, nx, il, qu, kn, ec, nu, va, st, ep, ti, ad, ob, ra, rt, ex, sa, us, tk, v_5, me, dr, se, sn) Φ5 := hI5
    refine z_if_eq (tgt := 34) B dX12_counter_27 rfl (fun h9 => absurd h9 (by decide)) (fun c_4 => ?_)
    refine z_lconst (v := 0) B dX12_counter_30 rfl ?_
    refine z_goto (tgt := 40) B dX12_counter_31 rfl ?_
    exact z_ret_l B dX12_counter_40 ⟨⟨_, rfl⟩, rfl, ⟨v_5, hI5⟩, (fun b9 h9 => ((hF4 b9 h9).trans ((hF3 b9 (fun j9 h8 h7 => (show False from h7).elim)).trans ((fset_fr hΦ1 (fun h8 => h9 (0) h8 (show 0 = 0 by decide))).trans rfl))))⟩

theorem hu_X12_lossRate_X12 : ∀ w ∈ u_ws RX12 TX12 54, w ∈ wsX12_lossRate := fun _ h => List.mem_cons_of_mem _ (List.mem_append_left _ (List.mem_append_right _ (h)))

theorem hv_X12_lossRate_1 : Cond.fieldLink RX12 1 "FlowExporterModel" (TX12 0).2.1 (TX12 0).2.2.1 ∈ wsX12_lossRate := List.mem_cons_of_mem _ (List.mem_append_left _ (List.mem_append_left _ (List.mem_of_getElem? (i := 0) rfl)))

theorem hv_X12_lossRate_45 : Cond.fieldLink RX12 45 "FlowExporterModel" (TX12 27).2.1 (TX12 27).2.2.1 ∈ wsX12_lossRate := List.mem_cons_of_mem _ (List.mem_append_left _ (List.mem_append_left _ (List.mem_of_getElem? (i := 1) rfl)))

theorem fq_1117 {x : Nat} : ∀ j9 : Nat, x + 11 = x + j9 → (j9 = 0) → False := by
  intro j9 h1 h2
  omega

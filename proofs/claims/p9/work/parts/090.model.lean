set_option maxRecDepth 20000 in
theorem ggX12_readNumber_X12_fail : GoodIn wsX12_readNumber wsX12_fail := (goodIn_ca (goodIn_r _ [8, 9, 10, 11] rfl (by decide +kernel)) (goodIn_sub (fun _ h => List.mem_cons_of_mem _ (List.mem_append_left _ (List.mem_append_right _ h))) gw_wsX120))
set_option maxRecDepth 20000 in
theorem gX12_readNumber_X12_fail : GoodIn wsX12_readNumber (wsV RX12 483 RX12 yX12_fail wsX12_fail) := goodIn_app (goodIn_m (mem_cA (List.mem_cons_of_mem _ (List.mem_append_left _ (List.mem_append_left _ (List.mem_append_left _ (List.mem_of_getElem? (i := 3) rfl))))) (mem_cA (List.mem_cons_of_mem _ (List.mem_append_left _ (List.mem_append_left _ (List.mem_append_left _ (List.mem_of_getElem? (i := 4) rfl))))) (mem_cA (List.mem_cons_of_mem _ (List.mem_append_left _ (List.mem_append_left _ (List.mem_append_left _ (List.mem_of_getElem? (i := 5) rfl))))) (mem_cA (List.mem_cons_of_mem _ (List.mem_append_left _ (List.mem_append_left _ (List.mem_append_left _ (List.mem_of_getElem? (i := 6) rfl))))) mem_cZ)))) (by decide +kernel)) ggX12_readNumber_X12_fail
set_option maxRecDepth 20000 in
theorem ggX12_readNumber_X12_inRange : GoodIn wsX12_readNumber wsX12_inRange := (goodIn_r _ [14] rfl (by decide +kernel))
set_option maxRecDepth 20000 in
theorem gX12_readNumber_X12_inRange : GoodIn wsX12_readNumber (va_wsS RX12 169 yX12_inRange wsX12_inRange) := goodIn_app (goodIn_m (mem_cA (List.mem_cons_of_mem _ (List.mem_append_left _ (List.mem_append_left _ (List.mem_append_left _ (List.mem_of_getElem? (i := 11) rfl))))) (mem_cA (List.mem_cons_of_mem _ (List.mem_append_left _ (List.mem_append_left _ (List.mem_append_left _ (List.mem_of_getElem? (i := 12) rfl))))) (mem_cA (List.mem_cons_of_mem _ (List.mem_append_left _ (List.mem_append_left _ (List.mem_append_left _ (List.mem_of_getElem? (i := 6) rfl))))) mem_cZ))) (by decide +kernel)) ggX12_readNumber_X12_inRange
set_option maxRecDepth 20000 in
theorem ggX12_readNumber_X12_advanceToken : GoodIn wsX12_readNumber wsX12_advanceToken := goodIn_ca ((goodIn_ca (goodIn_r _ [18, 19, 10, 2, 1, 20, 21, 22, 23, 24, 25, 26, 7, 27, 28, 29, 30, 31, 32, 33, 34, 12, 13, 14, 35, 36, 37, 38] rfl (by decide +kernel)) (goodIn_sub (fun _ h => List.mem_cons_of_mem _ (List.mem_append_left _ (List.mem_append_right _ h))) gw_wsX120))) (goodIn_sub (fun _ h => List.mem_cons_of_mem _ (List.mem_append_right _ h)) (all_fg _))
set_option maxRecDepth 20000 in
theorem gX12_readNumber_X12_advanceToken : GoodIn wsX12_readNumber (wsV RX12 489 RX12 yX12_advanceToken wsX12_advanceToken) := goodIn_app (goodIn_m (mem_cA (List.mem_cons_of_mem _ (List.mem_append_left _ (List.mem_append_left _ (List.mem_append_left _ (List.mem_of_getElem? (i := 14) rfl))))) (mem_cA (List.mem_cons_of_mem _ (List.mem_append_left _ (List.mem_append_left _ (List.mem_append_left _ (List.mem_of_getElem? (i := 15) rfl))))) (mem_cA (List.mem_cons_of_mem _ (List.mem_append_left _ (List.mem_append_left _ (List.mem_append_left _ (List.mem_of_getElem? (i := 16) rfl))))) (mem_cA (List.mem_cons_of_mem _ (List.mem_append_left _ (List.mem_append_left _ (List.mem_append_left _ (List.mem_of_getElem? (i := 6) rfl))))) mem_cZ)))) (by decide +kernel)) ggX12_readNumber_X12_advanceToken
theorem dX12_readNumber_0 : decode cX12_readNumber 0 = .ok (.aload_n 0, 1) := by decide +kernel
theorem dX12_readNumber_1 : decode cX12_readNumber 1 = .ok (.getfield 476, 3) := by decide +kernel
theorem dX12_readNumber_4 : decode cX12_readNumber 4 = .ok (.iconst 2, 1) := by decide +kernel
theorem dX12_readNumber_5 : decode cX12_readNumber 5 = .ok (.if_icmp .eq 9, 3) := by decide +kernel
theorem dX12_readNumber_8 : decode cX12_readNumber 8 = .ok (.aload_n 0, 1) := by decide +kernel
theorem dX12_readNumber_9 : decode cX12_readNumber 9 = .ok (.iconst 1, 1) := by decide +kernel
theorem dX12_readNumber_10 : decode cX12_readNumber 10 = .ok (.invokevirtual 483, 3) := by decide +kernel
theorem dX12_readNumber_13 : decode cX12_readNumber 13 = .ok (.ireturn, 1) := by decide +kernel
theorem dX12_readNumber_14 : decode cX12_readNumber 14 = .ok (.aload_n 0, 1) := by decide +kernel
theorem dX12_readNumber_15 : decode cX12_readNumber 15 = .ok (.getfield 467, 3) := by decide +kernel
theorem dX12_readNumber_18 : decode cX12_readNumber 18 = .ok (.iload_n 1, 1) := by decide +kernel
theorem dX12_readNumber_19 : decode cX12_readNumber 19 = .ok (.i2l, 1) := by decide +kernel
theorem dX12_readNumber_20 : decode cX12_readNumber 20 = .ok (.iload_n 2, 1) := by decide +kernel
theorem dX12_readNumber_21 : decode cX12_readNumber 21 = .ok (.i2l, 1) := by decide +kernel
theorem dX12_readNumber_22 : decode cX12_readNumber 22 = .ok (.invokestatic 169, 3) := by decide +kernel
theorem dX12_readNumber_25 : decode cX12_readNumber 25 = .ok (.ifCond .ne 9, 3) := by decide +kernel
theorem dX12_readNumber_28 : decode cX12_readNumber 28 = .ok (.aload_n 0, 1) := by decide +kernel
theorem dX12_readNumber_29 : decode cX12_readNumber 29 = .ok (.iconst 2, 1) := by decide +kernel
theorem dX12_readNumber_30 : decode cX12_readNumber 30 = .ok (.invokevirtual 483, 3) := by decide +kernel
theorem dX12_readNumber_33 : decode cX12_readNumber 33 = .ok (.ireturn, 1) := by decide +kernel
theorem dX12_readNumber_34 : decode cX12_readNumber 34 = .ok (.aload_n 0, 1) := by decide +kernel
theorem dX12_readNumber_35 : decode cX12_readNumber 35 = .ok (.aload_n 0, 1) := by decide +kernel
theorem dX12_readNumber_36 : decode cX12_readNumber 36 = .ok (.getfield 467, 3) := by decide +kernel
theorem dX12_readNumber_39 : decode cX12_readNumber 39 = .ok (.l2i, 1) := by decide +kernel
theorem dX12_readNumber_40 : decode cX12_readNumber 40 = .ok (.putfield 486, 3) := by decide +kernel
theorem dX12_readNumber_43 : decode cX12_readNumber 43 = .ok (.aload_n 0, 1) := by decide +kernel
theorem dX12_readNumber_44 : decode cX12_readNumber 44 = .ok (.invokevirtual 489, 3) := by decide +kernel
theorem dX12_readNumber_47 : decode cX12_readNumber 47 = .ok (.iconst 1, 1) := by decide +kernel
theorem dX12_readNumber_48 : decode cX12_readNumber 48 = .ok (.ireturn, 1) := by decide +kernel
set_option maxRecDepth 20000 in
theorem ggX12_readInto_X12_readNumber : GoodIn wsX12_readInto wsX12_readNumber := goodIn_ca ((goodIn_ca (goodIn_r _ [7, 8, 9, 2, 10, 11, 12, 6, 13, 14, 15, 16, 17, 18, 19, 20, 21, 22, 23, 24, 25, 26, 27, 28, 29, 30, 31, 32, 33, 34, 35, 36, 37, 38, 39, 40, 41, 42, 43] rfl (by decide +kernel)) (goodIn_sub (fun _ h => List.mem_cons_of_mem _ (List.mem_append_left _ (List.mem_append_right _ h))) gw_wsX120))) (goodIn_sub (fun _ h => List.mem_cons_of_mem _ (List.mem_append_right _ h)) (all_fg _))
set_option maxRecDepth 20000 in
theorem gX12_readInto_X12_readNumber : GoodIn wsX12_readInto (wsV RX12 492 RX12 yX12_readNumber wsX12_readNumber) := goodIn_app (goodIn_m (mem_cA (List.mem_cons_of_mem _ (List.mem_append_left _ (List.mem_append_left _ (List.mem_append_left _ (List.mem_of_getElem? (i := 2) rfl))))) (mem_cA (List.mem_cons_of_mem _ (List.mem_append_left _ (List.mem_append_left _ (List.mem_append_left _ (List.mem_of_getElem? (i := 3) rfl))))) (mem_cA (List.mem_cons_of_mem _ (List.mem_append_left _ (List.mem_append_left _ (List.mem_append_left _ (List.mem_of_getElem? (i := 4) rfl))))) (mem_cA (List.mem_cons_of_mem _ (List.mem_append_left _ (List.mem_append_left _ (List.mem_append_left _ (List.mem_of_getElem? (i := 5) rfl))))) mem_cZ)))) (by decide +kernel)) ggX12_readInto_X12_readNumber
theorem dX12_readInto_0 : decode cX12_readInto 0 = .ok (.aload_n 0, 1) := by decide +kernel
theorem dX12_readInto_1 : decode cX12_readInto 1 = .ok (.iload_n 2, 1) := by decide +kernel
theorem dX12_readInto_2 : decode cX12_readInto 2 = .ok (.iload_n 3, 1) := by decide +kernel
theorem dX12_readInto_3 : decode cX12_readInto 3 = .ok (.invokevirtual 492, 3) := by decide +kernel
theorem dX12_readInto_6 : decode cX12_readInto 6 = .ok (.ifCond .ne 5, 3) := by decide +kernel
theorem dX12_readInto_9 : decode cX12_readInto 9 = .ok (.iconst 0, 1) := by decide +kernel
theorem dX12_readInto_10 : decode cX12_readInto 10 = .ok (.ireturn, 1) := by decide +kernel
theorem dX12_readInto_11 : decode cX12_readInto 11 = .ok (.aload_n 0, 1) := by decide +kernel
theorem dX12_readInto_12 : decode cX12_readInto 12 = .ok (.getfield 13, 3) := by decide +kernel
theorem dX12_readInto_15 : decode cX12_readInto 15 = .ok (.iload_n 1, 1) := by decide +kernel
theorem dX12_readInto_16 : decode cX12_readInto 16 = .ok (.aload_n 0, 1) := by decide +kernel
theorem dX12_readInto_17 : decode cX12_readInto 17 = .ok (.getfield 486, 3) := by decide +kernel
theorem dX12_readInto_20 : decode cX12_readInto 20 = .ok (.iastore, 1) := by decide +kernel
theorem dX12_readInto_21 : decode cX12_readInto 21 = .ok (.iconst 1, 1) := by decide +kernel
theorem dX12_readInto_22 : decode cX12_readInto 22 = .ok (.ireturn, 1) := by decide +kernel
set_option maxRecDepth 20000 in
theorem ggX12_readEnd_X12_fail : GoodIn wsX12_readEnd wsX12_fail := (goodIn_ca (goodIn_r _ [6, 7, 8, 9] rfl (by decide +kernel)) (goodIn_sub (fun _ h => List.mem_cons_of_mem _ (List.mem_append_left _ (List.mem_append_right _ h))) gw_wsX120))
set_option maxRecDepth 20000 in
theorem gX12_readEnd_X12_fail : GoodIn wsX12_readEnd (wsV RX12 483 RX12 yX12_fail wsX12_fail) := goodIn_app (goodIn_m (mem_cA (List.mem_cons_of_mem _ (List.mem_append_left _ (List.mem_append_left _ (List.mem_append_left _ (List.mem_of_getElem? (i := 1) rfl))))) (mem_cA (List.mem_cons_of_mem _ (List.mem_append_left _ (List.mem_append_left _ (List.mem_append_left _ (List.mem_of_getElem? (i := 2) rfl))))) (mem_cA (List.mem_cons_of_mem _ (List.mem_append_left _ (List.mem_append_left _ (List.mem_append_left _ (List.mem_of_getElem? (i := 3) rfl))))) (mem_cA (List.mem_cons_of_mem _ (List.mem_append_left _ (List.mem_append_left _ (List.mem_append_left _ (List.mem_of_getElem? (i := 4) rfl))))) mem_cZ)))) (by decide +kernel)) ggX12_readEnd_X12_fail
set_option maxRecDepth 20000 in
theorem ggX12_readEnd_X12_advanceToken : GoodIn wsX12_readEnd wsX12_advanceToken := goodIn_ca ((goodIn_ca (goodIn_r _ [13, 14, 8, 15, 1, 16, 17, 18, 19, 20, 21, 22, 5, 23, 24, 25, 26, 27, 28, 29, 30, 31, 32, 33, 34, 35, 36, 37] rfl (by decide +kernel)) (goodIn_sub (fun _ h => List.mem_cons_of_mem _ (List.mem_append_left _ (List.mem_append_right _ h))) gw_wsX120))) (goodIn_sub (fun _ h => List.mem_cons_of_mem _ (List.mem_append_right _ h)) (all_fg _))
set_option maxRecDepth 20000 in
theorem gX12_readEnd_X12_advanceToken : GoodIn wsX12_readEnd (wsV RX12 489 RX12 yX12_advanceToken wsX12_advanceToken) := goodIn_app (goodIn_m (mem_cA (List.mem_cons_of_mem _ (List.mem_append_left _ (List.mem_append_left _ (List.mem_append_left _ (List.mem_of_getElem? (i := 9) rfl))))) (mem_cA (List.mem_cons_of_mem _ (List.mem_append_left _ (List.mem_append_left _ (List.mem_append_left _ (List.mem_of_getElem? (i := 10) rfl))))) (mem_cA (List.mem_cons_of_mem _ (List.mem_append_left _ (List.mem_append_left _ (List.mem_append_left _ (List.mem_of_getElem? (i := 11) rfl))))) (mem_cA (List.mem_cons_of_mem _ (List.mem_append_left _ (List.mem_append_left _ (List.mem_append_left _ (List.mem_of_getElem? (i := 4) rfl))))) mem_cZ)))) (by decide +kernel)) ggX12_readEnd_X12_advanceToken
theorem dX12_readEnd_0 : decode cX12_readEnd 0 = .ok (.aload_n 0, 1) := by decide +kernel
theorem dX12_readEnd_1 : decode cX12_readEnd 1 = .ok (.getfield 476, 3) := by decide +kernel
theorem dX12_readEnd_4 : decode cX12_readEnd 4 = .ok (.iconst 3, 1) := by decide +kernel
theorem dX12_readEnd_5 : decode cX12_readEnd 5 = .ok (.if_icmp .eq 9, 3) := by decide +kernel
theorem dX12_readEnd_8 : decode cX12_readEnd 8 = .ok (.aload_n 0, 1) := by decide +kernel
theorem dX12_readEnd_9 : decode cX12_readEnd 9 = .ok (.iconst 1, 1) := by decide +kernel
theorem dX12_readEnd_10 : decode cX12_readEnd 10 = .ok (.invokevirtual 483, 3) := by decide +kernel
theorem dX12_readEnd_13 : decode cX12_readEnd 13 = .ok (.ireturn, 1) := by decide +kernel
theorem dX12_readEnd_14 : decode cX12_readEnd 14 = .ok (.aload_n 0, 1) := by decide +kernel
theorem dX12_readEnd_15 : decode cX12_readEnd 15 = .ok (.invokevirtual 489, 3) := by decide +kernel
theorem dX12_readEnd_18 : decode cX12_readEnd 18 = .ok (.iconst 1, 1) := by decide +kernel
theorem dX12_readEnd_19 : decode cX12_readEnd 19 = .ok (.ireturn, 1) := by decide +kernel
set_option maxRecDepth 20000 in
theorem ggX12_readSetting_X12_advanceToken : GoodIn wsX12_readSetting wsX12_advanceToken := goodIn_ca ((goodIn_ca (goodIn_r _ [5, 6, 7, 8, 9, 10, 11, 12, 13, 14, 15, 16, 4, 17, 18, 19, 20, 21, 22, 23, 24, 25, 26, 27, 28, 29, 30, 31] rfl (by decide +kernel)) (goodIn_sub (fun _ h => List.mem_cons_of_mem _ (List.mem_append_left _ (List.mem_append_right _ h))) gw_wsX120))) (goodIn_sub (fun _ h => List.mem_cons_of_mem _ (List.mem_append_right _ h)) (all_fg _))
set_option maxRecDepth 20000 in
theorem gX12_readSetting_X12_advanceToken : GoodIn wsX12_readSetting (wsV RX12 489 RX12 yX12_advanceToken wsX12_advanceToken) := goodIn_app (goodIn_m (mem_cA (List.mem_cons_of_mem _ (List.mem_append_left _ (List.mem_append_left _ (List.mem_append_left _ (List.mem_of_getElem? (i := 0) rfl))))) (mem_cA (List.mem_cons_of_mem _ (List.mem_append_left _ (List.mem_append_left _ (List.mem_append_left _ (List.mem_of_getElem? (i := 1) rfl))))) (mem_cA (List.mem_cons_of_mem _ (List.mem_append_left _ (List.mem_append_left _ (List.mem_append_left _ (List.mem_of_getElem? (i := 2) rfl))))) (mem_cA (List.mem_cons_of_mem _ (List.mem_append_left _ (List.mem_append_left _ (List.mem_append_left _ (List.mem_of_getElem? (i := 3) rfl))))) mem_cZ)))) (by decide +kernel)) ggX12_readSetting_X12_advanceToken
set_option maxRecDepth 20000 in
theorem ggX12_readSetting_X12_readInto : GoodIn wsX12_readSetting wsX12_readInto := goodIn_ca ((goodIn_ca (goodIn_r _ [35, 36, 37, 38, 39, 40, 4, 41, 9, 8, 42, 43, 44, 45, 46, 7, 47, 25, 26, 27, 1, 2, 3, 5, 6, 10, 11, 12, 13, 14, 15, 16, 17, 18, 19, 20, 21, 22, 23, 24, 28, 29, 30, 31] rfl (by decide +kernel)) (goodIn_sub (fun _ h => List.mem_cons_of_mem _ (List.mem_append_left _ (List.mem_append_right _ h))) gw_wsX120))) (goodIn_sub (fun _ h => List.mem_cons_of_mem _ (List.mem_append_right _ h)) (all_fg _))
set_option maxRecDepth 20000 in
theorem gX12_readSetting_X12_readInto : GoodIn wsX12_readSetting (wsV RX12 510 RX12 yX12_readInto wsX12_readInto) := goodIn_app (goodIn_m (mem_cA (List.mem_cons_of_mem _ (List.mem_append_left _ (List.mem_append_left _ (List.mem_append_right _ (List.mem_append_left _ (List.mem_of_getElem? (i := 7) rfl)))))) (mem_cA (List.mem_cons_of_mem _ (List.mem_append_left _ (List.mem_append_left _ (List.mem_append_right _ (List.mem_append_left _ (List.mem_of_getElem? (i := 8) rfl)))))) (mem_cA (List.mem_cons_of_mem _ (List.mem_append_left _ (List.mem_append_left _ (List.mem_append_right _ (List.mem_append_left _ (List.mem_of_getElem? (i := 9) rfl)))))) (mem_cA (List.mem_cons_of_mem _ (List.mem_append_left _ (List.mem_append_left _ (List.mem_append_left _ (List.mem_of_getElem? (i := 3) rfl))))) mem_cZ)))) (by decide +kernel)) ggX12_readSetting_X12_readInto
set_option maxRecDepth 20000 in
theorem ggX12_readSetting_X12_readEnd : GoodIn wsX12_readSetting wsX12_readEnd := goodIn_ca ((goodIn_ca (goodIn_r _ [51, 9, 42, 43, 44, 4, 45, 46, 7, 47, 1, 2, 3, 5, 6, 8, 10, 11, 12, 13, 14, 15, 16, 17, 18, 19, 20, 21, 22, 23, 24, 25, 26, 27, 28, 29, 30, 31] rfl (by decide +kernel)) (goodIn_sub (fun _ h => List.mem_cons_of_mem _ (List.mem_append_left _ (List.mem_append_right _ h))) gw_wsX120))) (goodIn_sub (fun _ h => List.mem_cons_of_mem _ (List.mem_append_right _ h)) (all_fg _))
set_option maxRecDepth 20000 in
theorem gX12_readSetting_X12_readEnd : GoodIn wsX12_readSetting (wsV RX12 506 RX12 yX12_readEnd wsX12_readEnd) := goodIn_app (goodIn_m (mem_cA (List.mem_cons_of_mem _ (List.mem_append_left _ (List.mem_append_left _ (List.mem_append_right _ (List.mem_append_left _ (List.mem_of_getElem? (i := 23) rfl)))))) (mem_cA (List.mem_cons_of_mem _ (List.mem_append_left _ (List.mem_append_left _ (List.mem_append_right _ (List.mem_append_right _ (List.mem_of_getElem? (i := 0) rfl)))))) (mem_cA (List.mem_cons_of_mem _ (List.mem_append_left _ (List.mem_append_left _ (List.mem_append_right _ (List.mem_append_right _ (List.mem_of_getElem? (i := 1) rfl)))))) (mem_cA (List.mem_cons_of_mem _ (List.mem_append_left _ (List.mem_append_left _ (List.mem_append_left _ (List.mem_of_getElem? (i := 3) rfl))))) mem_cZ)))) (by decide +kernel)) ggX12_readSetting_X12_readEnd
theorem dX12_readSetting_0 : decode cX12_readSetting 0 = .ok (.aload_n 0, 1) := by decide +kernel
theorem dX12_readSetting_1 : decode cX12_readSetting 1 = .ok (.invokevirtual 489, 3) := by decide +kernel
theorem dX12_readSetting_4 : decode cX12_readSetting 4 = .ok (.aload_n 0, 1) := by decide +kernel
theorem dX12_readSetting_5 : decode cX12_readSetting 5 = .ok (.iload_n 1, 1) := by decide +kernel
theorem dX12_readSetting_6 : decode cX12_readSetting 6 = .ok (.iload_n 2, 1) := by decide +kernel
theorem dX12_readSetting_7 : decode cX12_readSetting 7 = .ok (.iload_n 3, 1) := by decide +kernel
theorem dX12_readSetting_8 : decode cX12_readSetting 8 = .ok (.invokevirtual 510, 3) := by decide +kernel
theorem dX12_readSetting_11 : decode cX12_readSetting 11 = .ok (.ifCond .eq 14, 3) := by decide +kernel
theorem dX12_readSetting_14 : decode cX12_readSetting 14 = .ok (.aload_n 0, 1) := by decide +kernel
theorem dX12_readSetting_15 : decode cX12_readSetting 15 = .ok (.invokevirtual 506, 3) := by decide +kernel
theorem dX12_readSetting_18 : decode cX12_readSetting 18 = .ok (.ifCond .eq 7, 3) := by decide +kernel
theorem dX12_readSetting_21 : decode cX12_readSetting 21 = .ok (.iconst 1, 1) := by decide +kernel
theorem dX12_readSetting_22 : decode cX12_readSetting 22 = .ok (.goto 4, 3) := by decide +kernel
theorem dX12_readSetting_25 : decode cX12_readSetting 25 = .ok (.iconst 0, 1) := by decide +kernel
theorem dX12_readSetting_26 : decode cX12_readSetting 26 = .ok (.ireturn, 1) := by decide +kernel
set_option maxHeartbeats 4000000 in
set_option maxRecDepth 100000 in
theorem r_readNumber (G : EnvG) (l : Launch) (Φ : Hm) (sz x : Nat) (rd : (Nat → Int32) → Prop) (nw : (Nat → Int32) → Prop) (cr : (Nat → Int64) → Prop) (tp : (Nat → Int32) → Prop) (tt : (Nat → Int64) → Prop) (fl : Nat) (pe : Nat) (le : Nat) (nx : Nat) (il : Nat) (qu : Nat) (kn : Int32) (ec : Int32) (nu : Int32) (va : Int64) (st : Nat) (ep : Int32) (ti : Int32) (ad : Int32) (ob : Int64) (ra : Int32) (rt : Nat) (ex : Int32) (sa : Int64) (us : Int64) (tk : Nat) (th : Int32) (fB : Nat → Int32) (p : Nat) (a : Nat) (b : Int32) (hx : G.2.2.2 ≤ x) (hI : Im G x (rd, nw, cr, tp, tt, fl, pe, le, nx, il, qu, kn, ec, nu, va, st, ep, ti, ad, ob, ra, rt, ex, sa, us, tk, th) Φ) (hc0 : Φ (x + 25) = some (ab_ G 700 fB)) (hT : TkR (bA fB il) p kn st nx va) (hp : p ≤ il) (hll : il ≤ 700) (ha : a < 2 ^ 31) (hnw : ∀ f9 : Nat → Int32, nw f9 → NN f9) : Ct G l yX12_readNumber wsX12_readNumber ({ frames := 3, cells := 0, slots := 0, locals := 66 }) 0 0 [.ref x, .int (nI a), .int b] Φ sz (fun v Φ1 sz1 => (v = some (.int 0) ∨ v = some (.int 1)) ∧ sz1 = sz ∧ (∃ (nx1 : Nat) (kn1 : Int32) (ec1 : Int32) (nu1 : Int32) (va1 : Int64) (st1 : Nat) (ep1 : Int32), ((∃ w9 : Nat, v = some (.int 1) ∧ numAt (bA fB il) p (a : Int) (b : Int32).toInt = (0, nx, w9) ∧ nu1 = nI w9 ∧ w9 < 1000000 ∧ ((a : Nat) : Int) ≤ w9 ∧ (w9 : Int) ≤ (b : Int32).toInt ∧ ec = ec1 ∧ ep = ep1 ∧ TkR (bA fB il) nx kn1 st1 nx1 va1) ∨ (∃ er9 : Nat, v = some (.int 0) ∧ numAt (bA fB il) p (a : Int) (b : Int32).toInt = (er9, st, 0) ∧ (¬ er9 = 0 ∧ er9 ≤ 4) ∧ ec1 = nI er9 ∧ ep1 = nI st)) ∧ Im G x (rd, nw, cr, tp, tt, fl, pe, le, nx1, il, qu, kn1, ec1, nu1, va1, st1, ep1, ti, ad, ob, ra, rt, ex, sa, us, tk, th) Φ1) ∧ Fr x (fun j9 => j9 = 0) Φ Φ1) := by
  refine Ct.of (cc := cX12_readNumber) (maxL := 3) (ret := (some .boolean)) (by decide) rfl (Nat.le_of_ble_eq_true rfl) ?_
  intro p9 e9 s9 m9 w9 t9 k9 B
  show Z p9 l e9 _ s9 m9 _ w9 t9 k9 _ G 3 0 [(0, .ref x), (1, .int (nI a)), (2, .int b)] [] Φ sz 0 0
  obtain ⟨b_1, b_2, b_3, b_4⟩ := TkR_b hT (by omega)
  refine z_aload_n B dX12_readNumber_0 rfl 0 rfl ?_
  obtain ⟨v_1, v_2, v_3, v_4, n_1, v_5, n_2, h_1, b_17, b_5, b_6, b_7, b_8, b_9, b_10, b_11, b_12, b_13, b_14, b_15, b_16⟩ := im0 hI
  replace b_5 : 1 ≤ rt := b_5
  replace b_6 : rt ≤ 1024 := b_6
  replace b_7 : fl ≤ 12 := b_7
  replace b_8 : pe ≤ 24 := b_8
  replace b_9 : le ≤ 700 := b_9
  replace b_10 : qu ≤ 12 := b_10
  replace b_11 : n_1 ≤ 8 := b_11
  replace b_12 : n_2 ≤ 24 := b_12
  replace b_13 : tk ≤ 24 := b_13
  replace b_14 : il ≤ 700 := b_14
  replace b_15 : nx ≤ 701 := b_15
  replace b_16 : st ≤ 701 := b_16
  have h_2 : Φ x = some (o_ 14 [.int th, .ref (x + 1), .ref (x + 2), .int ti, .int ra, .int (nI rt), .int ex, .int ad, .ref (x + 3), .ref (x + 4), .int v_1, .long v_2, .ref (x + 5), .int (nI fl), .int v_3, .long ob, .long sa, .long v_4, .long us, .ref (x + 6), .ref (x + 7), .int (nI pe), .ref (x + 8), .int (nI le), .ref (x + 9), .ref (x + 10), .int (nI qu), .ref (x + 11), .ref (x + 12), .ref (x + 13), .ref (x + 14), .ref (x + 15), .ref (x + 16), .int (nI n_1), .long v_5, .ref (x + 17), .ref (x + 18), .ref (x + 19), .ref (x + 20), .ref (x + 21), .ref (x + 22), .int (nI n_2), .ref (x + 23), .ref (x + 24), .int (nI tk), .ref (x + 25), .int (nI il), .int (nI nx), .int ec, .int ep, .int kn, .int (nI st), .int nu, .long va]) := h_1
  refine z_get (ref := "FlowExporterModel") (C := RX12) (T := TX12) (N := 54) (ci := 14) (v := .int kn) B hu_X12_readNumber_X12 rfl 50 (Nat.le_of_ble_eq_true rfl) hv_X12_readNumber_476 rfl h_2 rfl dX12_readNumber_1 ?_
  refine z_iconst (v := 2) B dX12_readNumber_4 rfl ?_
  refine z_icmp_eq (tgt := 14) B dX12_readNumber_5 rfl (fun c_1 => ?_) (fun c_1 => ?_)
  · refine z_aload_n B dX12_readNumber_14 rfl 0 rfl ?_
    refine z_get (ref := "FlowExporterModel") (C := RX12) (T := TX12) (N := 54) (ci := 14) (v := .long va) B hu_X12_readNumber_X12 rfl 53 (Nat.le_of_ble_eq_true rfl) hv_X12_readNumber_467 rfl h_2 rfl dX12_readNumber_15 ?_
    refine z_iload_n B dX12_readNumber_18 rfl 1 rfl ?_
    refine z_i2l (v := (nI a).toInt64) B dX12_readNumber_19 rfl ?_
    refine z_iload_n B dX12_readNumber_20 rfl 2 rfl ?_
    refine z_i2l (v := b.toInt64) B dX12_readNumber_21 rfl ?_
    by_cases hR1 : inP va ((nI a).toInt64) b.toInt64
    · obtain ⟨n_3, e_1, e_2, e_3, rfl⟩ := inL_get (L := a) (H := (b).toInt) (natL (by omega)) (Int32.toInt_toInt64 _) hR1
      refine z_callS (As := [.long (Int64.ofNat n_3), .long ((nI a).toInt64), .long b.toInt64]) (rest := []) B (c_inR1 G l Φ sz (Int64.ofNat n_3) ((nI a).toInt64) b.toInt64 hR1 (fun v8 Φ8 sz8 => v8 = some (.int 1) ∧ sz8 = sz ∧ Im G x (rd, nw, cr, tp, tt, fl, pe, le, nx, il, qu, kn, ec, nu, Int64.ofNat n_3, st, ep, ti, ad, ob, ra, rt, ex, sa, us, tk, th) Φ8 ∧ Fr x (fun j9 => False) Φ Φ8) ⟨rfl, rfl, hI, fun _ _ => rfl⟩) (va_cwS 3 B.1.2.2.2.2 gX12_readNumber_X12_inRange rfl rfl rfl (by decide +kernel) ⟨Nat.le_of_ble_eq_true rfl, Nat.le_of_ble_eq_true rfl⟩) rfl rfl (Nat.le_of_ble_eq_true rfl) dX12_readNumber_22 ⟨Nat.le_of_ble_eq_true rfl, Nat.le_of_ble_eq_true rfl⟩ (fun r_1 Φ1 sz1 st1 hp1 hs1 => ?_)
      obtain ⟨rfl, hq1, hI1, hF1⟩ := hp1
      subst sz1
      replace hs1 : st1 = [.int 1] := hs1
      subst st1
      refine z_if_ne (tgt := 34) B dX12_readNumber_25 rfl (fun c_2 => ?_) (fun h9 => absurd h9 (by decide))
      refine z_aload_n B dX12_readNumber_34 rfl 0 rfl ?_
      refine z_aload_n B dX12_readNumber_35 rfl 0 rfl ?_
      have h_3 : Φ1 x = some (o_ 14 [.int th, .ref (x + 1), .ref (x + 2), .int ti, .int ra, .int (nI rt), .int ex, .int ad, .ref (x + 3), .ref (x + 4), .int v_1, .long v_2, .ref (x + 5), .int (nI fl), .int v_3, .long ob, .long sa, .long v_4, .long us, .ref (x + 6), .ref (x + 7), .int (nI pe), .ref (x + 8), .int (nI le), .ref (x + 9), .ref (x + 10), .int (nI qu), .ref (x + 11), .ref (x + 12), .ref (x + 13), .ref (x + 14), .ref (x + 15), .ref (x + 16), .int (nI n_1), .long v_5, .ref (x + 17), .ref (x + 18), .ref (x + 19), .ref (x + 20), .ref (x + 21), .ref (x + 22), .int (nI n_2), .ref (x + 23), .ref (x + 24), .int (nI tk), .ref (x + 25), .int (nI il), .int (nI nx), .int ec, .int ep, .int kn, .int (nI st), .int nu, .long (Int64.ofNat n_3)]) := ((hF1 x (fun j9 h8 h7 => (show False from h7).elim)).trans h_2)
      refine z_get (ref := "FlowExporterModel") (C := RX12) (T := TX12) (N := 54) (ci := 14) (v := .long (Int64.ofNat n_3)) B hu_X12_readNumber_X12 rfl 53 (Nat.le_of_ble_eq_true rfl) hv_X12_readNumber_467 rfl h_3 rfl dX12_readNumber_36 ?_
      refine z_l2i (v := (Int64.ofNat n_3).toInt32) B dX12_readNumber_39 rfl ?_
      have b_18 := Int32.toInt_lt b
      refine z_top (st1 := [.int (nI n_3), .ref x]) (congrArg (fun w9 : Int32 => ([.int w9, .ref x] : List Value)) (ofL (by omega))) ?_
      refine z_put (ref := "FlowExporterModel") (C := RX12) (T := TX12) (N := 54) (ci := 14) (v := .int (nI n_3)) B hu_X12_readNumber_X12 tyX12 tyX12_ok nmX12 rfl 52 (Nat.le_of_ble_eq_true rfl) hv_X12_readNumber_486 rfl (Or.inl rfl) h_3 hx rfl rfl (Nat.le_of_ble_eq_true rfl) dX12_readNumber_40 (fun Φ2 hΦ1 => ?_)
      have h_4 : Φ2 x = some (o_ 14 [.int th, .ref (x + 1), .ref (x + 2), .int ti, .int ra, .int (nI rt), .int ex, .int ad, .ref (x + 3), .ref (x + 4), .int v_1, .long v_2, .ref (x + 5), .int (nI fl), .int v_3, .long ob, .long sa, .long v_4, .long us, .ref (x + 6), .ref (x + 7), .int (nI pe), .ref (x + 8), .int (nI le), .ref (x + 9), .ref (x + 10), .int (nI qu), .ref (x + 11), .ref (x + 12), .ref (x + 13), .ref (x + 14), .ref (x + 15), .ref (x + 16), .int (nI n_1), .long v_5, .ref (x + 17), .ref (x + 18), .ref (x + 19), .ref (x + 20), .ref (x + 21), .ref (x + 22), .int (nI n_2), .ref (x + 23), .ref (x + 24), .int (nI tk), .ref (x + 25), .int (nI il), .int (nI nx), .int ec, .int ep, .int kn, .int (nI st), .int (nI n_3), .long (Int64.ofNat n_3)]) := fset_at hΦ1
      have hI2 : Im G x (rd, nw, cr, tp, tt, fl, pe, le, nx, il, qu, kn, ec, nI n_3, Int64.ofNat n_3, st, ep, ti, ad, ob, ra, rt, ex, sa, us, tk, th) Φ2 := Im.put0 hI1 hΦ1 ⟨v_1, v_2, v_3, v_4, n_1, v_5, n_2, rfl, b_17, b_5, b_6, b_7, b_8, b_9, b_10, b_11, b_12, b_13, b_14, b_15, b_16⟩
      refine z_aload_n B dX12_readNumber_43 rfl 0 rfl ?_
      have h_5 : Φ2 (x + 25) = some (ab_ G 700 fB) := ((fset_fr hΦ1 (ne_off (x := x) (i := 25) (j := 0) rfl)).trans ((hF1 (x + 25) (fun j9 h8 h7 => (show False from h7).elim)).trans hc0))
      refine z_callV (As := []) (rest := []) B (r_advanceToken G l Φ2 sz x rd nw cr tp tt fl pe le nx il qu kn ec (nI n_3) (Int64.ofNat n_3) st ep ti ad ob ra rt ex sa us tk th fB hx hI2 h_5 (show nx ≤ il by omega) (show il ≤ 700 by omega) hnw) (cwV 0 B.1.2.2.2.2 gX12_readNumber_X12_advanceToken rfl rfl rfl (by decide +kernel) ⟨Nat.le_of_ble_eq_true rfl, Nat.le_of_ble_eq_true rfl⟩) h_4 rfl rfl rfl rfl (Nat.le_of_ble_eq_true rfl) dX12_readNumber_44 ⟨Nat.le_of_ble_eq_true rfl, Nat.le_of_ble_eq_true rfl⟩ (fun r_2 Φ3 sz2 st2 hp2 hs2 => ?_)
      obtain ⟨rfl, hq2, ⟨n_4, v_6, v_7, n_5, b_19, hI3⟩, hF2⟩ := hp2
      subst sz2
      replace hs2 : st2 = [] := hs2
      subst st2
      replace hI3 : Im G x (rd, nw, cr, tp, tt, fl, pe, le, n_4, il, qu, v_6, ec, nI n_3, v_7, n_5, ep, ti, ad, ob, ra, rt, ex, sa, us, tk, th) Φ3 := hI3
      replace b_19 : TkR (bA fB il) nx v_6 n_5 n_4 v_7 := b_19
      obtain ⟨b_20, b_21, b_22, b_23⟩ := TkR_b b_19 (by omega)
      refine z_iconst (v := 1) B dX12_readNumber_47 rfl ?_
      refine z_ret_z B dX12_readNumber_48 (by decide) ⟨(Or.inr rfl), rfl, ⟨n_4, v_6, ec, nI n_3, v_7, n_5, ep, ?_, hI3⟩, ?_⟩
      · exact (Or.inl ⟨n_3, rfl, (rn_ok hT hp c_1 (by omega) (by omega) (by omega)).1, rfl, (rn_ok (lo := (0 : Int)) (hi := ((n_3 : Nat) : Int)) hT hp c_1 (by omega) (by omega) (by omega)).2, by omega, by omega, rfl, rfl, b_19⟩)
      · exact (fun b9 h9 => ((hF2 b9 h9).trans ((fset_fr hΦ1 (fun h8 => h9 (0) h8 (show 0 = 0 by decide))).trans ((hF1 b9 (fun j9 h8 h7 => (show False from h7).elim)).trans rfl))))
    · refine z_callS (As := [.long va, .long ((nI a).toInt64), .long b.toInt64]) (rest := []) B (c_inR0 G l Φ sz va ((nI a).toInt64) b.toInt64 hR1 (fun v8 Φ8 sz8 => v8 = some (.int 0) ∧ sz8 = sz ∧ Im G x (rd, nw, cr, tp, tt, fl, pe, le, nx, il, qu, kn, ec, nu, va, st, ep, ti, ad, ob, ra, rt, ex, sa, us, tk, th) Φ8 ∧ Fr x (fun j9 => False) Φ Φ8) ⟨rfl, rfl, hI, fun _ _ => rfl⟩) (va_cwS 3 B.1.2.2.2.2 gX12_readNumber_X12_inRange rfl rfl rfl (by decide +kernel) ⟨Nat.le_of_ble_eq_true rfl, Nat.le_of_ble_eq_true rfl⟩) rfl rfl (Nat.le_of_ble_eq_true rfl) dX12_readNumber_22 ⟨Nat.le_of_ble_eq_true rfl, Nat.le_of_ble_eq_true rfl⟩ (fun r_3 Φ4 sz3 st3 hp3 hs3 => ?_)
      obtain ⟨rfl, hq3, hI4, hF3⟩ := hp3
      subst sz3
      replace hs3 : st3 = [.int 0] := hs3
      subst st3
      refine z_if_ne (tgt := 34) B dX12_readNumber_25 rfl (fun h9 => absurd (by decide) h9) (fun c_3 => ?_)
      refine z_aload_n B dX12_readNumber_28 rfl 0 rfl ?_
      refine z_iconst (v := 2) B dX12_readNumber_29 rfl ?_
      have h_6 : Φ4 x = some (o_ 14 [.int th, .ref (x + 1), .ref (x + 2), .int ti, .int ra, .int (nI rt), .int ex, .int ad, .ref (x + 3), .ref (x + 4), .int v_1, .long v_2, .ref (x + 5), .int (nI fl), .int v_3, .long ob, .long sa, .long v_4, .long us, .ref (x + 6), .ref (x + 7), .int (nI pe), .ref (x + 8), .int (nI le), .ref (x + 9), .ref (x + 10), .int (nI qu), .ref (x + 11), .ref (x + 12), .ref (x + 13), .ref (x + 14), .ref (x + 15), .ref (x + 16), .int (nI n_1), .long v_5, .ref (x + 17), .ref (x + 18), .ref (x + 19), .ref (x + 20), .ref (x + 21), .ref (x + 22), .int (nI n_2), .ref (x + 23), .ref (x + 24), .int (nI tk), .ref (x + 25), .int (nI il), .int (nI nx), .int ec, .int ep, .int kn, .int (nI st), .int nu, .long va]) := ((hF3 x (fun j9 h8 h7 => (show False from h7).elim)).trans h_2)
      refine z_callV (As := [.int 2]) (rest := []) B (r_fail G l Φ4 sz x rd nw cr tp tt fl pe le nx il qu kn ec nu va st ep ti ad ob ra rt ex sa us tk th 2 hx hI4 hnw) (cwV 1 B.1.2.2.2.2 gX12_readNumber_X12_fail rfl rfl rfl (by decide +kernel) ⟨Nat.le_of_ble_eq_true rfl, Nat.le_of_ble_eq_true rfl⟩) h_6 rfl rfl rfl rfl (Nat.le_of_ble_eq_true rfl) dX12_readNumber_30 ⟨Nat.le_of_ble_eq_true rfl, Nat.le_of_ble_eq_true rfl⟩ (fun r_4 Φ5 sz4 st4 hp4 hs4 => ?_)
      obtain ⟨rfl, hq4, hI5, hF4⟩ := hp4
      subst sz4
      replace hs4 : st4 = [.int 0] := hs4
      subst st4
      replace hI5 : Im G x (rd, nw, cr, tp, tt, fl, pe, le, nx, il, qu, kn, 2, nu, va, st, nI st, ti, ad, ob, ra, rt, ex, sa, us, tk, th) Φ5 := hI5
      refine z_ret_z B dX12_readNumber_33 (by decide) ⟨(Or.inl rfl), rfl, ⟨nx, kn, 2, nu, va, st, nI st, ?_, hI5⟩, ?_⟩
      · exact (Or.inr ⟨2, rfl, rn_e2 hT hp c_1 (by omega) hR1, ⟨by decide, by decide⟩, rfl, rfl⟩)
      · exact (fun b9 h9 => ((hF4 b9 h9).trans ((hF3 b9 (fun j9 h8 h7 => (show False from h7).elim)).trans rfl)))
  · refine z_aload_n B dX12_readNumber_8 rfl 0 rfl ?_
    refine z_iconst (v := 1) B dX12_readNumber_9 rfl ?_
    refine z_callV (As := [.int 1]) (rest := []) B (r_fail G l Φ sz x rd nw cr tp tt fl pe le nx il qu kn ec nu va st ep ti ad ob ra rt ex sa us tk th 1 hx hI hnw) (cwV 1 B.1.2.2.2.2 gX12_readNumber_X12_fail rfl rfl rfl (by decide +kernel) ⟨Nat.le_of_ble_eq_true rfl, Nat.le_of_ble_eq_true rfl⟩) h_2 rfl rfl rfl rfl (Nat.le_of_ble_eq_true rfl) dX12_readNumber_10 ⟨Nat.le_of_ble_eq_true rfl, Nat.le_of_ble_eq_true rfl⟩ (fun r_5 Φ6 sz5 st5 hp5 hs5 => ?_)
    obtain ⟨rfl, hq5, hI6, hF5⟩ := hp5
    subst sz5
    replace hs5 : st5 = [.int 0] := hs5
    subst st5
    replace hI6 : Im G x (rd, nw, cr, tp, tt, fl, pe, le, nx, il, qu, kn, 1, nu, va, st, nI st, ti, ad, ob, ra, rt, ex, sa, us, tk, th) Φ6 := hI6
    refine z_ret_z B dX12_readNumber_13 (by decide) ⟨(Or.inl rfl), rfl, ⟨nx, kn, 1, nu, va, st, nI st, ?_, hI6⟩, ?_⟩
    · exact (Or.inr ⟨1, rfl, rn_e1 hT hp c_1, ⟨by decide, by decide⟩, rfl, rfl⟩)
    · exact (fun b9 h9 => ((hF5 b9 h9).trans rfl))

theorem semi_lt {f : Nat → Int32} {n p st nx q : Nat} {kn : Int32} {va : Int64} (h : TkR (bA f n) p kn st nx va) (hp : p ≤ n) (h1 : semi (bA f n) p = (0, q)) : p < q := by
  obtain ⟨k, hT, -, -, -, -, -⟩ := TkR_k h hp
  obtain ⟨h2, h3, -, -, -, -, h4⟩ := Tk_ok hT hp
  by_cases hk : k = 4
  · subst hk
    rw [semi_0 hT] at h1
    have h6 := (Prod.mk.inj h1).2
    have h5 := h4 (by omega)
    omega
  · rw [semi_1 hT hk] at h1
    exact absurd (Prod.mk.inj h1).1 (by decide)

theorem hu_X12_readEnd_X12 : ∀ w ∈ u_ws RX12 TX12 54, w ∈ wsX12_readEnd := fun _ h => List.mem_cons_of_mem _ (List.mem_append_left _ (List.mem_append_right _ (h)))

theorem hv_X12_readEnd_476 : Cond.fieldLink RX12 476 "FlowExporterModel" (TX12 50).2.1 (TX12 50).2.2.1 ∈ wsX12_readEnd := List.mem_cons_of_mem _ (List.mem_append_left _ (List.mem_append_left _ (List.mem_append_left _ (List.mem_of_getElem? (i := 0) rfl))))

set_option maxHeartbeats 4000000 in
set_option maxRecDepth 100000 in
theorem r_readEnd (G : EnvG) (l : Launch) (Φ : Hm) (sz x : Nat) (rd : (Nat → Int32) → Prop) (nw : (Nat → Int32) → Prop) (cr : (Nat → Int64) → Prop) (tp : (Nat → Int32) → Prop) (tt : (Nat → Int64) → Prop) (fl : Nat) (pe : Nat) (le : Nat) (nx : Nat) (il : Nat) (qu : Nat) (kn : Int32) (ec : Int32) (nu : Int32) (va : Int64) (st : Nat) (ep : Int32) (ti : Int32) (ad : Int32) (ob : Int64) (ra : Int32) (rt : Nat) (ex : Int32) (sa : Int64) (us : Int64) (tk : Nat) (th : Int32) (fB : Nat → Int32) (p : Nat) (hx : G.2.2.2 ≤ x) (hI : Im G x (rd, nw, cr, tp, tt, fl, pe, le, nx, il, qu, kn, ec, nu, va, st, ep, ti, ad, ob, ra, rt, ex, sa, us, tk, th) Φ) (hc0 : Φ (x + 25) = some (ab_ G 700 fB)) (hT : TkR (bA fB il) p kn st nx va) (hp : p ≤ il) (hll : il ≤ 700) (hnw : ∀ f9 : Nat → Int32, nw f9 → NN f9) : Ct G l yX12_readEnd wsX12_readEnd ({ frames := 3, cells := 0, slots := 0, locals := 66 }) 0 0 [.ref x] Φ sz (fun v Φ1 sz1 => (v = some (.int 0) ∨ v = some (.int 1)) ∧ sz1 = sz ∧ (∃ (nx1 : Nat) (kn1 : Int32) (ec1 : Int32) (nu1 : Int32) (va1 : Int64) (st1 : Nat) (ep1 : Int32), ((v = some (.int 1) ∧ semi (bA fB il) p = (0, nx) ∧ ec = ec1 ∧ ep = ep1 ∧ nu = nu1 ∧ TkR (bA fB il) nx kn1 st1 nx1 va1) ∨ (v = some (.int 0) ∧ semi (bA fB il) p = (1, st) ∧ ec1 = 1 ∧ ep1 = nI st)) ∧ Im G x (rd, nw, cr, tp, tt, fl, pe, le, nx1, il, qu, kn1, ec1, nu1, va1, st1, ep1, ti, ad, ob, ra, rt, ex, sa, us, tk, th) Φ1) ∧ Fr x (fun j9 => j9 = 0) Φ Φ1) := by
  refine Ct.of (cc := cX12_readEnd) (maxL := 1) (ret := (some .boolean)) (by decide) rfl (Nat.le_of_ble_eq_true rfl) ?_
  intro p9 e9 s9 m9 w9 t9 k9 B
  show Z p9 l e9 _ s9 m9 _ w9 t9 k9 _ G 1 0 [(0, .ref x)] [] Φ sz 0 0
  obtain ⟨b_1, b_2, b_3, b_4⟩ := TkR_b hT (by omega)
  refine z_aload_n B dX12_readEnd_0 rfl 0 rfl ?_
  obtain ⟨v_1, v_2, v_3, v_4, n_1, v_5, n_2, h_1, b_17, b_5, b_6, b_7, b_8, b_9, b_10, b_11, b_12, b_13, b_14, b_15, b_16⟩ := im0 hI
  replace b_5 : 1 ≤ rt := b_5
  replace b_6 : rt ≤ 1024 := b_6
  replace b_7 : fl ≤ 12 := b_7
  replace b_8 : pe ≤ 24 := b_8
  replace b_9 : le ≤ 700 := b_9
  replace b_10 : qu ≤ 12 := b_10
  replace b_11 : n_1 ≤ 8 := b_11
  replace b_12 : n_2 ≤ 24 := b_12
  replace b_13 : tk ≤ 24 := b_13
  replace b_14 : il ≤ 700 := b_14
  replace b_15 : nx ≤ 701 := b_15
  replace b_16 : st ≤ 701 := b_16
  have h_2 : Φ x = some (o_ 14 [.int th, .ref (x + 1), .ref (x + 2), .int ti, .int ra, .int (nI rt), .int ex, .int ad, .ref (x + 3), .ref (x + 4), .int v_1, .long v_2, .ref (x + 5), .int (nI fl), .int v_3, .long ob, .long sa, .long v_4, .long us, .ref (x + 6), .ref (x + 7), .int (nI pe), .ref (x + 8), .int (nI le), .ref (x + 9), .ref (x + 10), .int (nI qu), .ref (x + 11), .ref (x + 12), .ref (x + 13), .ref (x + 14), .ref (x + 15), .ref (x + 16), .int (nI n_1), .long v_5, .ref (x + 17), .ref (x + 18), .ref (x + 19), .ref (x + 20), .ref (x + 21), .ref (x + 22), .int (nI n_2), .ref (x + 23), .ref (x + 24), .int (nI tk), .ref (x + 25), .int (nI il), .int (nI nx), .int ec, .int ep, .int kn, .int (nI st), .int nu, .long va]) := h_1
  refine z_get (ref := "FlowExporterModel") (C := RX12) (T := TX12) (N := 54) (ci := 14) (v := .int kn) B hu_X12_readEnd_X12 rfl 50 (Nat.le_of_ble_eq_true rfl) hv_X12_readEnd_476 rfl h_2 rfl dX12_readEnd_1 ?_
  refine z_iconst (v := 3) B dX12_readEnd_4 rfl ?_
  refine z_icmp_eq (tgt := 14) B dX12_readEnd_5 rfl (fun c_1 => ?_) (fun c_1 => ?_)
  · refine z_aload_n B dX12_readEnd_14 rfl 0 rfl ?_
    refine z_callV (As := []) (rest := []) B (r_advanceToken G l Φ sz x rd nw cr tp tt fl pe le nx il qu kn ec nu va st ep ti ad ob ra rt ex sa us tk th fB hx hI hc0 (show nx ≤ il by omega) (show il ≤ 700 by omega) hnw) (cwV 0 B.1.2.2.2.2 gX12_readEnd_X12_advanceToken rfl rfl rfl (by decide +kernel) ⟨Nat.le_of_ble_eq_true rfl, Nat.le_of_ble_eq_true rfl⟩) h_2 rfl rfl rfl rfl (Nat.le_of_ble_eq_true rfl) dX12_readEnd_15 ⟨Nat.le_of_ble_eq_true rfl, Nat.le_of_ble_eq_true rfl⟩ (fun r_1 Φ1 sz1 st1 hp1 hs1 => ?_)
    obtain ⟨rfl, hq1, ⟨n_3, v_6, v_7, n_4, b_18, hI1⟩, hF1⟩ := hp1
    subst sz1
    replace hs1 : st1 = [] := hs1
    subst st1
    replace hI1 : Im G x (rd, nw, cr, tp, tt, fl, pe, le, n_3, il, qu, v_6, ec, nu, v_7, n_4, ep, ti, ad, ob, ra, rt, ex, sa, us, tk, th) Φ1 := hI1
    replace b_18 : TkR (bA fB il) nx v_6 n_4 n_3 v_7 := b_18
    obtain ⟨b_19, b_20, b_21, b_22⟩ := TkR_b b_18 (by omega)
    refine z_iconst (v := 1) B dX12_readEnd_18 rfl ?_
    exact z_ret_z B dX12_readEnd_19 (by decide) ⟨(Or.inr rfl), rfl, ⟨n_3, v_6, ec, nu, v_7, n_4, ep, (Or.inl ⟨rfl, re_1 hT hp c_1, rfl, rfl, rfl, b_18⟩), hI1⟩, (fun b9 h9 => ((hF1 b9 h9).trans rfl))⟩
  · refine z_aload_n B dX12_readEnd_8 rfl 0 rfl ?_
    refine z_iconst (v := 1) B dX12_readEnd_9 rfl ?_
    refine z_callV (As := [.int 1]) (rest := []) B (r_fail G l Φ sz x rd nw cr tp tt fl pe le nx il qu kn ec nu va st ep ti ad ob ra rt ex sa us tk th 1 hx hI hnw) (cwV 1 B.1.2.2.2.2 gX12_readEnd_X12_fail rfl rfl rfl (by decide +kernel) ⟨Nat.le_of_ble_eq_true rfl, Nat.le_of_ble_eq_true rfl⟩) h_2 rfl rfl rfl rfl (Nat.le_of_ble_eq_true rfl) dX12_readEnd_10 ⟨Nat.le_of_ble_eq_true rfl, Nat.le_of_ble_eq_true rfl⟩ (fun r_2 Φ2 sz2 st2 hp2 hs2 => ?_)
    obtain ⟨rfl, hq2, hI2, hF2⟩ := hp2
    subst sz2
    replace hs2 : st2 = [.int 0] := hs2
    subst st2
    replace hI2 : Im G x (rd, nw, cr, tp, tt, fl, pe, le, nx, il, qu, kn, 1, nu, va, st, nI st, ti, ad, ob, ra, rt, ex, sa, us, tk, th) Φ2 := hI2
    exact z_ret_z B dX12_readEnd_13 (by decide) ⟨(Or.inl rfl), rfl, ⟨nx, kn, 1, nu, va, st, nI st, (Or.inr ⟨rfl, re_0 hT hp c_1, rfl, rfl⟩), hI2⟩, (fun b9 h9 => ((hF2 b9 h9).trans rfl))⟩

theorem hu_X12_readInto_X12 : ∀ w ∈ u_ws RX12 TX12 54, w ∈ wsX12_readInto := fun _ h => List.mem_cons_of_mem _ (List.mem_append_left _ (List.mem_append_right _ (h)))

theorem hv_X12_readInto_13 : Cond.fieldLink RX12 13 "FlowExporterModel" (TX12 1).2.1 (TX12 1).2.2.1 ∈ wsX12_readInto := List.mem_cons_of_mem _ (List.mem_append_left _ (List.mem_append_left _ (List.mem_append_left _ (List.mem_of_getElem? (i := 0) rfl))))

theorem hv_X12_readInto_486 : Cond.fieldLink RX12 486 "FlowExporterModel" (TX12 52).2.1 (TX12 52).2.2.1 ∈ wsX12_readInto := List.mem_cons_of_mem _ (List.mem_append_left _ (List.mem_append_left _ (List.mem_append_left _ (List.mem_of_getElem? (i := 1) rfl))))

theorem fq_1171 : ∀ j9 : Nat, (j9 = 0) → (j9 = 0 ∨ j9 = 1) := by
  intro j9 h
  omega

set_option maxHeartbeats 4000000 in
set_option maxRecDepth 100000 in
theorem r_readInto (G : EnvG) (l : Launch) (Φ : Hm) (sz x : Nat) (nw : (Nat → Int32) → Prop) (cr : (Nat → Int64) → Prop) (tp : (Nat → Int32) → Prop) (tt : (Nat → Int64) → Prop) (fl : Nat) (pe : Nat) (le : Nat) (nx : Nat) (il : Nat) (qu : Nat) (kn : Int32) (ec : Int32) (nu : Int32) (va : Int64) (st : Nat) (ep : Int32) (ti : Int32) (ad : Int32) (ob : Int64) (ra : Int32) (rt : Nat) (ex : Int32) (sa : Int64) (us : Int64) (tk : Nat) (th : Int32) (fB : Nat → Int32) (p : Nat) (t : Nat) (c : Cf) (w : Nat) (a : Nat) (b : Int32) (hx : G.2.2.2 ≤ x) (hI : Im G x ((NNc t c), nw, cr, tp, tt, fl, pe, le, nx, il, qu, kn, ec, nu, va, st, ep, ti, ad, ob, ra, rt, ex, sa, us, tk, th) Φ) (hc0 : Φ (x + 25) = some (ab_ G 700 fB)) (hT : TkR (bA fB il) p kn st nx va) (hp : p ≤ il) (hll : il ≤ 700) (ha : a < 2 ^ 31) (hw : w < 307) (hw10 : ¬ w = 10) (hW : ∀ n : Nat, a ≤ n → (n : Int) ≤ (b : Int32).toInt → ∀ f : Nat → Int32, NN f → NN (upd f w (nI n))) (hnw : ∀ f9 : Nat → Int32, nw f9 → NN f9) : Ct G l yX12_readInto wsX12_readInto ({ frames := 4, cells := 0, slots := 0, locals := 88 }) 0 0 [.ref x, .int (nI w), .int (nI a), .int b] Φ sz (fun v Φ1 sz1 => (v = some (.int 0) ∨ v = some (.int 1)) ∧ sz1 = sz ∧ (∃ (nx1 : Nat) (kn1 : Int32) (ec1 : Int32) (nu1 : Int32) (va1 : Int64) (st1 : Nat) (ep1 : Int32) (t1 : Nat) (c1 : Cf), ((∃ w9 : Nat, v = some (.int 1) ∧ numAt (bA fB il) p (a : Int) (b : Int32).toInt = (0, nx, w9) ∧ nu1 = nI w9 ∧ t = t1 ∧ c1 = upd c w (nI w9) ∧ w9 < 1000000 ∧ ((a : Nat) : Int) ≤ w9 ∧ (w9 : Int) ≤ (b : Int32).toInt ∧ ec = ec1 ∧ ep = ep1 ∧ TkR (bA fB il) nx kn1 st1 nx1 va1) ∨ (∃ er9 : Nat, v = some (.int 0) ∧ numAt (bA fB il) p (a : Int) (b : Int32).toInt = (er9, st, 0) ∧ (¬ er9 = 0 ∧ er9 ≤ 4) ∧ ec1 = nI er9 ∧ ep1 = nI st)) ∧ Im G x ((NNc t1 c1), nw, cr, tp, tt, fl, pe, le, nx1, il, qu, kn1, ec1, nu1, va1, st1, ep1, ti, ad, ob, ra, rt, ex, sa, us, tk, th) Φ1) ∧ Fr x (fun j9 => j9 = 0 ∨ j9 = 1) Φ Φ1) := by
  refine Ct.of (cc := cX12_readInto) (maxL := 4) (ret := (some .boolean)) (by decide) rfl (Nat.le_of_ble_eq_true rfl) ?_
  intro p9 e9 s9 m9 w9 t9 k9 B
  show Z p9 l e9 _ s9 m9 _ w9 t9 k9 _ G 4 0 [(0, .ref x), (1, .int (nI w)), (2, .int (nI a)), (3, .int b)] [] Φ sz 0 0
  obtain ⟨b_1, b_2, b_3, b_4⟩ := TkR_b hT (by omega)
  refine z_aload_n B dX12_readInto_0 rfl 0 rfl ?_
  refine z_iload_n B dX12_readInto_1 rfl 2 rfl ?_
  refine z_iload_n B dX12_readInto_2 rfl 3 rfl ?_
  obtain ⟨v_1, v_2, v_3, v_4, n_1, v_5, n_2, h_1, b_17, b_5, b_6, b_7, b_8, b_9, b_10, b_11, b_12, b_13, b_14, b_15, b_16⟩ := im0 hI
  replace b_5 : 1 ≤ rt := b_5
  replace b_6 : rt ≤ 1024 := b_6
  replace b_7 : fl ≤ 12 := b_7
  replace b_8 : pe ≤ 24 := b_8
  replace b_9 : le ≤ 700 := b_9
  replace b_10 : qu ≤ 12 := b_10
  replace b_11 : n_1 ≤ 8 := b_11
  replace b_12 : n_2 ≤ 24 := b_12
  replace b_13 : tk ≤ 24 := b_13
  replace b_14 : il ≤ 700 := b_14
  replace b_15 : nx ≤ 701 := b_15
  replace b_16 : st ≤ 701 := b_16
  have h_2 : Φ x = some (o_ 14 [.int th, .ref (x + 1), .ref (x + 2), .int ti, .int ra, .int (nI rt), .int ex, .int ad, .ref (x + 3), .ref (x + 4), .int v_1, .long v_2, .ref (x + 5), .int (nI fl), .int v_3, .long ob, .long sa, .long v_4, .long us, .ref (x + 6), .ref (x + 7), .int (nI pe), .ref (x + 8), .int (nI le), .ref (x + 9), .ref (x + 10), .int (nI qu), .ref (x + 11), .ref (x + 12), .ref (x + 13), .ref (x + 14), .ref (x + 15), .ref (x + 16), .int (nI n_1), .long v_5, .ref (x + 17), .ref (x + 18), .ref (x + 19), .ref (x + 20), .ref (x + 21), .ref (x + 22), .int (nI n_2), .ref (x + 23), .ref (x + 24), .int (nI tk), .ref (x + 25), .int (nI il), .int (nI nx), .int ec, .int ep, .int kn, .int (nI st), .int nu, .long va]) := h_1
  refine z_callV (As := [.int (nI a), .int b]) (rest := []) B (r_readNumber G l Φ sz x (NNc t c) nw cr tp tt fl pe le nx il qu kn ec nu va st ep ti ad ob ra rt ex sa us tk th fB p a b hx hI hc0 hT (show p ≤ il by omega) (show il ≤ 700 by omega) (show a < 2 ^ 31 by omega) hnw) (cwV 2 B.1.2.2.2.2 gX12_readInto_X12_readNumber rfl rfl rfl (by decide +kernel) ⟨Nat.le_of_ble_eq_true rfl, Nat.le_of_ble_eq_true rfl⟩) h_2 rfl rfl rfl rfl (Nat.le_of_ble_eq_true rfl) dX12_readInto_3 ⟨Nat.le_of_ble_eq_true rfl, Nat.le_of_ble_eq_true rfl⟩ (fun r_1 Φ1 sz1 st1 hp1 hs1 => ?_)
  obtain ⟨-, hq1, ⟨n_3, v_6, v_7, v_8, v_9, n_4, v_10, b_18, hI1⟩, hF1⟩ := hp1
  subst sz1
  replace hI1 : Im G x ((NNc t c), nw, cr, tp, tt, fl, pe, le, n_3, il, qu, v_6, v_7, v_8, v_9, n_4, v_10, ti, ad, ob, ra, rt, ex, sa, us, tk, th) Φ1 := hI1
  replace b_18 : (∃ w9 : Nat, r_1 = some (.int 1) ∧ numAt (bA fB il) p (a : Int) (b : Int32).toInt = (0, nx, w9) ∧ v_8 = nI w9 ∧ w9 < 1000000 ∧ ((a : Nat) : Int) ≤ w9 ∧ (w9 : Int) ≤ (b : Int32).toInt ∧ ec = v_7 ∧ ep = v_10 ∧ TkR (bA fB il) nx v_6 n_4 n_3 v_9) ∨ (∃ er9 : Nat, r_1 = some (.int 0) ∧ numAt (bA fB il) p (a : Int) (b : Int32).toInt = (er9, st, 0) ∧ (¬ er9 = 0 ∧ er9 ≤ 4) ∧ v_7 = nI er9 ∧ v_10 = nI st) := b_18
  rcases b_18 with ⟨w_1, rfl, hN1, rfl, b_19, b_20, b_21, rfl, rfl, hT1⟩ | ⟨er_1, rfl, hN2, he1, rfl, rfl⟩
  · replace hT1 : TkR (bA fB il) nx v_6 n_4 n_3 v_9 := hT1
    obtain ⟨b_22, b_23, b_24, b_25⟩ := TkR_b hT1 (by omega)
    replace hs1 : st1 = [.int 1] := hs1
    subst st1
    replace hN1 : numAt (bA fB il) p (a : Int) (b : Int32).toInt = (0, nx, w_1) := hN1
    replace b_20 : ((a : Nat) : Int) ≤ w_1 := b_20
    replace b_21 : (w_1 : Int) ≤ (b : Int32).toInt := b_21
    refine z_if_ne (tgt := 11) B dX12_readInto_6 rfl (fun c_1 => ?_) (fun h9 => absurd h9 (by decide))
    refine z_aload_n B dX12_readInto_11 rfl 0 rfl ?_
    obtain ⟨v_11, v_12, v_13, v_14, n_5, v_15, n_6, h_3, b_38, b_26, b_27, b_28, b_29, b_30, b_31, b_32, b_33, b_34, b_35, b_36, b_37⟩ := im0 hI1
    replace b_26 : 1 ≤ rt := b_26
    replace b_27 : rt ≤ 1024 := b_27
    replace b_28 : fl ≤ 12 := b_28
    replace b_29 : pe ≤ 24 := b_29
    replace b_30 : le ≤ 700 := b_30
    replace b_31 : qu ≤ 12 := b_31
    replace b_32 : n_5 ≤ 8 := b_32
    replace b_33 : n_6 ≤ 24 := b_33
    replace b_34 : tk ≤ 24 := b_34
    replace b_35 : il ≤ 700 := b_35
    replace b_36 : n_3 ≤ 701 := b_36
    replace b_37 : n_4 ≤ 701 := b_37
    have h_4 : Φ1 x = some (o_ 14 [.int th, .ref (x + 1), .ref (x + 2), .int ti, .int ra, .int (nI rt), .int ex, .int ad, .ref (x + 3), .ref (x + 4), .int v_11, .long v_12, .ref (x + 5), .int (nI fl), .int v_13, .long ob, .long sa, .long v_14, .long us, .ref (x + 6), .ref (x + 7), .int (nI pe), .ref (x + 8), .int (nI le), .ref (x + 9), .ref (x + 10), .int (nI qu), .ref (x + 11), .ref (x + 12), .ref (x + 13), .ref (x + 14), .ref (x + 15), .ref (x + 16), .int (nI n_5), .long v_15, .ref (x + 17), .ref (x + 18), .ref (x + 19), .ref (x + 20), .ref (x + 21), .ref (x + 22), .int (nI n_6), .ref (x + 23), .ref (x + 24), .int (nI tk), .ref (x + 25), .int (nI il), .int (nI n_3), .int ec, .int ep, .int v_6, .int (nI n_4), .int (nI w_1), .long v_9]) := h_3
    refine z_get (ref := "FlowExporterModel") (C := RX12) (T := TX12) (N := 54) (ci := 14) (v := .ref (x + 1)) B hu_X12_readInto_X12 rfl 1 (Nat.le_of_ble_eq_true rfl) hv_X12_readInto_13 rfl h_4 rfl dX12_readInto_12 ?_
    refine z_iload_n B dX12_readInto_15 rfl 1 rfl ?_
    refine z_aload_n B dX12_readInto_16 rfl 0 rfl ?_
    refine z_get (ref := "FlowExporterModel") (C := RX12) (T := TX12) (N := 54) (ci := 14) (v := .int (nI w_1)) B hu_X12_readInto_X12 rfl 52 (Nat.le_of_ble_eq_true rfl) hv_X12_readInto_486 rfl h_4 rfl dX12_readInto_17 ?_
    obtain ⟨f_1, h_5, r_2⟩ := imk (k := 1) hI1
    replace r_2 : (NNc t c) f_1 := r_2
    have h_6 : Φ1 (x + 1) = some (ai_ G 307 f_1) := h_5
    refine z_iast B h_6 (Nat.le_trans hx (Nat.le_add_right x 1)) (vp_in_nI (by omega) (by omega)) dX12_readInto_20 (fun Φ2 hΦ1 => ?_)
    have h_7 : Φ2 (x + 1) = some (ai_ G 307 (upd f_1 (nI w).toNatClampNeg (nI w_1))) := fset_at hΦ1
    have hI2 : Im G x ((NNc t (upd c w (nI w_1))), nw, cr, tp, tt, fl, pe, le, n_3, il, qu, v_6, ec, nI w_1, v_9, n_4, ep, ti, ad, ob, ra, rt, ex, sa, us, tk, th) Φ2 := Im.put1 (rd1 := (NNc t (upd c w (nI w_1)))) hI1 hΦ1 (by rw [nI_clamp (n := w) (by omega)]; exact AndC.up r_2 ⟨hW w_1 (by omega) (by omega) _ r_2.1.1, (upd_ne (by omega)).trans r_2.1.2⟩ rfl)
    refine z_iconst (v := 1) B dX12_readInto_21 rfl ?_
    exact z_ret_z B dX12_readInto_22 (by decide) ⟨(Or.inr rfl), rfl, ⟨n_3, v_6, ec, nI w_1, v_9, n_4, ep, t, upd c w (nI w_1), (Or.inl ⟨w_1, rfl, hN1, rfl, rfl, rfl, by omega, by omega, by omega, rfl, rfl, hT1⟩), hI2⟩, (fun b9 h9 => ((fset_fr hΦ1 (fun h8 => h9 (1) h8 (show 1 = 0 ∨ 1 = 1 by decide))).trans ((hF1 b9 (fun j9 h8 h7 => h9 j9 h8 (fq_1171 j9 h7))).trans rfl)))⟩
  · replace hs1 : st1 = [.int 0] := hs1
    subst st1
    replace hN2 : numAt (bA fB il) p (a : Int) (b : Int32).toInt = (er_1, st, 0) := hN2
    replace he1 : ¬ er_1 = 0 ∧ er_1 ≤ 4 := he1
    refine z_if_ne (tgt := 11) B dX12_readInto_6 rfl (fun h9 => absurd (by decide) h9) (fun c_2 => ?_)
    refine z_iconst (v := 0) B dX12_readInto_9 rfl ?_
    exact z_ret_z B dX12_readInto_10 (by decide) ⟨(Or.inl rfl), rfl, ⟨n_3, v_6, nI er_1, v_8, v_9, n_4, nI st, t, c, (Or.inr ⟨er_1, rfl, hN2, he1, rfl, rfl⟩), hI1⟩, (fun b9 h9 => ((hF1 b9 (fun j9 h8 h7 => h9 j9 h8 (fq_1171 j9 h7))).trans rfl))⟩

theorem fq_1172 {x : Nat} : ∀ j9 : Nat, x + 25 = x + j9 → (j9 = 0 ∨ j9 = 1) → False := by
  intro j9 h1 h2
  omega

set_option maxHeartbeats 4000000 in
set_option maxRecDepth 100000 in
theorem r_readSetting (G : EnvG) (l : Launch) (Φ : Hm) (sz x : Nat) (nw : (Nat → Int32) → Prop) (cr : (Nat → Int64) → Prop) (tp : (Nat → Int32) → Prop) (tt : (Nat → Int64) → Prop) (fl : Nat) (pe : Nat) (le : Nat) (nx : Nat) (il : Nat) (qu : Nat) (kn : Int32) (ec : Int32) (nu : Int32) (va : Int64) (st : Nat) (ep : Int32) (ti : Int32) (ad : Int32) (ob : Int64) (ra : Int32) (rt : Nat) (ex : Int32) (sa : Int64) (us : Int64) (tk : Nat) (th : Int32) (fB : Nat → Int32) (p : Nat) (t : Nat) (c : Cf) (w : Nat) (a : Nat) (b : Int32) (hx : G.2.2.2 ≤ x) (hI : Im G x ((NNc t c), nw, cr, tp, tt, fl, pe, le, nx, il, qu, kn, ec, nu, va, st, ep, ti, ad, ob, ra, rt, ex, sa, us, tk, th) Φ) (hc0 : Φ (x + 25) = some (ab_ G 700 fB)) (hT : TkR (bA fB il) p kn st nx va) (hp : p ≤ il) (hll : il ≤ 700) (hct : c 10 = nI t) (ht : t ≤ 4) (ha : a < 2 ^ 31) (hw : w < 9) (hW : ∀ n : Nat, a ≤ n → (n : Int) ≤ (b : Int32).toInt → ∀ f : Nat → Int32, NN f → NN (upd f w (nI n))) (hlo : ((a : Nat) : Int) = loS w) (hhi : (b : Int32).toInt = hiS w) (hnw : ∀ f9 : Nat → Int32, nw f9 → NN f9) : Ct G l yX12_readSetting wsX12_readSetting ({ frames := 5, cells := 0, slots := 0, locals := 111 }) 0 0 [.ref x, .int (nI w), .int (nI a), .int b] Φ sz (fun v Φ1 sz1 => (v = some (.int 0) ∨ v = some (.int 1)) ∧ sz1 = sz ∧ (∃ (nx1 : Nat) (kn1 : Int32) (ec1 : Int32) (nu1 : Int32) (va1 : Int64) (st1 : Nat) (ep1 : Int32) (t1 : Nat) (c1 : Cf), ((∃ (q9 : Nat), v = some (.int 1) ∧ endA (bA fB il) (setA (bA fB il) nx w c) = (0, q9, c1) ∧ ec = ec1 ∧ ep = ep1 ∧ c1 10 = nI t1 ∧ t1 ≤ 4 ∧ p < q9 ∧ q9 ≤ il ∧ TkR (bA fB il) q9 kn1 st1 nx1 va1) ∨ (∃ (er9 s9 : Nat) (c9 : Cf), v = some (.int 0) ∧ endA (bA fB il) (setA (bA fB il) nx w c) = (er9, s9, c9) ∧ (¬ er9 = 0 ∧ er9 ≤ 4) ∧ ec1 = nI er9 ∧ ep1 = nI s9)) ∧ Im G x ((NNc t1 c1), nw, cr, tp, tt, fl, pe, le, nx1, il, qu, kn1, ec1, nu1, va1, st1, ep1, ti, ad, ob, ra, rt, ex, sa, us, tk, th) Φ1) ∧ Fr x (fun j9 => j9 = 0 ∨ j9 = 1) Φ Φ1) := by
  refine Ct.of (cc := cX12_readSetting) (maxL := 4) (ret := (some .boolean)) (by decide) rfl (Nat.le_of_ble_eq_true rfl) ?_
  intro p9 e9 s9 m9 w9 t9 k9 B
  show Z p9 l e9 _ s9 m9 _ w9 t9 k9 _ G 4 0 [(0, .ref x), (1, .int (nI w)), (2, .int (nI a)), (3, .int b)] [] Φ sz 0 0
  obtain ⟨b_1, b_2, b_3, b_4⟩ := TkR_b hT (by omega)
  refine z_aload_n B dX12_readSetting_0 rfl 0 rfl ?_
  obtain ⟨v_1, v_2, v_3, v_4, n_1, v_5, n_2, h_1, b_17, b_5, b_6, b_7, b_8, b_9, b_10, b_11, b_12, b_13, b_14, b_15, b_16⟩ := im0 hI
  replace b_5 : 1 ≤ rt := b_5
  replace b_6 : rt ≤ 1024 := b_6
  replace b_7 : fl ≤ 12 := b_7
  replace b_8 : pe ≤ 24 := b_8
  replace b_9 : le ≤ 700 := b_9
  replace b_10 : qu ≤ 12 := b_10
  replace b_11 : n_1 ≤ 8 := b_11
  replace b_12 : n_2 ≤ 24 := b_12
  replace b_13 : tk ≤ 24 := b_13
  replace b_14 : il ≤ 700 := b_14
  replace b_15 : nx ≤ 701 := b_15
  replace b_16 : st ≤ 701 := b_16
  have h_2 : Φ x = some (o_ 14 [.int th, .ref (x + 1), .ref (x + 2), .int ti, .int ra, .int (nI rt), .int ex, .int ad, .ref (x + 3), .ref (x + 4), .int v_1, .long v_2, .ref (x + 5), .int (nI fl), .int v_3, .long ob, .long sa, .long v_4, .long us, .ref (x + 6), .ref (x + 7), .int (nI pe), .ref (x + 8), .int (nI le), .ref (x + 9), .ref (x + 10), .int (nI qu), .ref (x + 11), .ref (x + 12), .ref (x + 13), .ref (x + 14), .ref (x + 15), .ref (x + 16), .int (nI n_1), .long v_5, .ref (x + 17), .ref (x + 18), .ref (x + 19), .ref (x + 20), .ref (x + 21), .ref (x + 22), .int (nI n_2), .ref (x + 23), .ref (x + 24), .int (nI tk), .ref (x + 25), .int (nI il), .int (nI nx), .int ec, .int ep, .int kn, .int (nI st), .int nu, .long va]) := h_1
  refine z_callV (As := []) (rest := []) B (r_advanceToken G l Φ sz x (NNc t c) nw cr tp tt fl pe le nx il qu kn ec nu va st ep ti ad ob ra rt ex sa us tk th fB hx hI hc0 (show nx ≤ il by omega) (show il ≤ 700 by omega) hnw) (cwV 0 B.1.2.2.2.2 gX12_readSetting_X12_advanceToken rfl rfl rfl (by decide +kernel) ⟨Nat.le_of_ble_eq_true rfl, Nat.le_of_ble_eq_true rfl⟩) h_2 rfl rfl rfl rfl (Nat.le_of_ble_eq_true rfl) dX12_readSetting_1 ⟨Nat.le_of_ble_eq_true rfl, Nat.le_of_ble_eq_true rfl⟩ (fun r_1 Φ1 sz1 st1 hp1 hs1 => ?_)
  obtain ⟨rfl, hq1, ⟨n_3, v_6, v_7, n_4, b_18, hI1⟩, hF1⟩ := hp1
  subst sz1
  replace hs1 : st1 = [] := hs1
  subst st1
  replace hI1 : Im G x ((NNc t c), nw, cr, tp, tt, fl, pe, le, n_3, il, qu, v_6, ec, nu, v_7, n_4, ep, ti, ad, ob, ra, rt, ex, sa, us, tk, th) Φ1 := hI1
  replace b_18 : TkR (bA fB il) nx v_6 n_4 n_3 v_7 := b_18
  obtain ⟨b_19, b_20, b_21, b_22⟩ := TkR_b b_18 (by omega)
  refine z_aload_n B dX12_readSetting_4 rfl 0 rfl ?_
  refine z_iload_n B dX12_readSetting_5 rfl 1 rfl ?_
  refine z_iload_n B dX12_readSetting_6 rfl 2 rfl ?_
  refine z_iload_n B dX12_readSetting_7 rfl 3 rfl ?_
  obtain ⟨v_8, v_9, v_10, v_11, n_5, v_12, n_6, h_3, b_35, b_23, b_24, b_25, b_26, b_27, b_28, b_29, b_30, b_31, b_32, b_33, b_34⟩ := im0 hI1
  replace b_23 : 1 ≤ rt := b_23
  replace b_24 : rt ≤ 1024 := b_24
  replace b_25 : fl ≤ 12 := b_25
  replace b_26 : pe ≤ 24 := b_26
  replace b_27 : le ≤ 700 := b_27
  replace b_28 : qu ≤ 12 := b_28
  replace b_29 : n_5 ≤ 8 := b_29
  replace b_30 : n_6 ≤ 24 := b_30
  replace b_31 : tk ≤ 24 := b_31
  replace b_32 : il ≤ 700 := b_32
  replace b_33 : n_3 ≤ 701 := b_33
  replace b_34 : n_4 ≤ 701 := b_34
  have h_4 : Φ1 x = some (o_ 14 [.int th, .ref (x + 1), .ref (x + 2), .int ti, .int ra, .int (nI rt), .int ex, .int ad, .ref (x + 3), .ref (x + 4), .int v_8, .long v_9, .ref (x + 5), .int (nI fl), .int v_10, .long ob, .long sa, .long v_11, .long us, .ref (x + 6), .ref (x + 7), .int (nI pe), .ref (x + 8), .int (nI le), .ref (x + 9), .ref (x + 10), .int (nI qu), .ref (x + 11), .ref (x + 12), .ref (x + 13), .ref (x + 14), .ref (x + 15), .ref (x + 16), .int (nI n_5), .long v_12, .ref (x + 17), .ref (x + 18), .ref (x + 19), .ref (x + 20), .ref (x + 21), .ref (x + 22), .int (nI n_6), .ref (x + 23), .ref (x + 24), .int (nI tk), .ref (x + 25), .int (nI il), .int (nI n_3), .int ec, .int ep, .int v_6, .int (nI n_4), .int nu, .long v_7]) := h_3
  have h_5 : Φ1 (x + 25) = some (ab_ G 700 fB) := ((hF1 (x + 25) fq_1151).trans hc0)
  refine z_callV (As := [.int (nI w), .int (nI a), .int b]) (rest := []) B (r_readInto G l Φ1 sz x nw cr tp tt fl pe le n_3 il qu v_6 ec nu v_7 n_4 ep ti ad ob ra rt ex sa us tk th fB nx t c w a b hx hI1 h_5 b_18 (show nx ≤ il by omega) (show il ≤ 700 by omega) (show a < 2 ^ 31 by omega) (show w < 307 by omega) (show ¬ w = 10 by omega) hW hnw) (cwV 3 B.1.2.2.2.2 gX12_readSetting_X12_readInto rfl rfl rfl (by decide +kernel) ⟨Nat.le_of_ble_eq_true rfl, Nat.le_of_ble_eq_true rfl⟩) h_4 rfl rfl rfl rfl (Nat.le_of_ble_eq_true rfl) dX12_readSetting_8 ⟨Nat.le_of_ble_eq_true rfl, Nat.le_of_ble_eq_true rfl⟩ (fun r_2 Φ2 sz2 st2 hp2 hs2 => ?_)
  obtain ⟨-, hq2, ⟨n_7, v_13, v_14, v_15, v_16, n_8, v_17, n_9, n_10, b_36, hI2⟩, hF2⟩ := hp2
  subst sz2
  replace hI2 : Im G x (NNc n_9 n_10, nw, cr, tp, tt, fl, pe, le, n_7, il, qu, v_13, v_14, v_15, v_16, n_8, v_17, ti, ad, ob, ra, rt, ex, sa, us, tk, th) Φ2 := hI2
  replace b_36 : (∃ w9 : Nat, r_2 = some (.int 1) ∧ numAt (bA fB il) nx (a : Int) (b : Int32).toInt = (0, n_3, w9) ∧ v_15 = nI w9 ∧ t = n_9 ∧ n_10 = upd c w (nI w9) ∧ w9 < 1000000 ∧ ((a : Nat) : Int) ≤ w9 ∧ (w9 : Int) ≤ (b : Int32).toInt ∧ ec = v_14 ∧ ep = v_17 ∧ TkR (bA fB il) n_3 v_13 n_8 n_7 v_16) ∨ (∃ er9 : Nat, r_2 = some (.int 0) ∧ numAt (bA fB il) nx (a : Int) (b : Int32).toInt = (er9, n_4, 0) ∧ (¬ er9 = 0 ∧ er9 ≤ 4) ∧ v_14 = nI er9 ∧ v_17 = nI n_4) := b_36
  rcases b_36 with ⟨w_1, rfl, hN1, rfl, rfl, rfl, b_37, b_38, b_39, rfl, rfl, hT1⟩ | ⟨er_1, rfl, hN2, he1, rfl, rfl⟩
  · replace hT1 : TkR (bA fB il) n_3 v_13 n_8 n_7 v_16 := hT1
    obtain ⟨b_40, b_41, b_42, b_43⟩ := TkR_b hT1 (by omega)
    replace hs2 : st2 = [.int 1] := hs2
    subst st2
    replace hN1 : numAt (bA fB il) nx (a : Int) (b : Int32).toInt = (0, n_3, w_1) := hN1
    replace b_38 : ((a : Nat) : Int) ≤ w_1 := b_38
    replace b_39 : (w_1 : Int) ≤ (b : Int32).toInt := b_39
    refine z_if_eq (tgt := 25) B dX12_readSetting_11 rfl (fun h9 => absurd h9 (by decide)) (fun c_1 => ?_)
    refine z_aload_n B dX12_readSetting_14 rfl 0 rfl ?_
    obtain ⟨v_18, v_19, v_20, v_21, n_11, v_22, n_12, h_6, b_56, b_44, b_45, b_46, b_47, b_48, b_49, b_50, b_51, b_52, b_53, b_54, b_55⟩ := im0 hI2
    replace b_44 : 1 ≤ rt := b_44
    replace b_45 : rt ≤ 1024 := b_45
    replace b_46 : fl ≤ 12 := b_46
    replace b_47 : pe ≤ 24 := b_47
    replace b_48 : le ≤ 700 := b_48
    replace b_49 : qu ≤ 12 := b_49
    replace b_50 : n_11 ≤ 8 := b_50
    replace b_51 : n_12 ≤ 24 := b_51
    replace b_52 : tk ≤ 24 := b_52
    replace b_53 : il ≤ 700 := b_53
    replace b_54 : n_7 ≤ 701 := b_54
    replace b_55 : n_8 ≤ 701 := b_55
    have h_7 : Φ2 x = some (o_ 14 [.int th, .ref (x + 1), .ref (x + 2), .int ti, .int ra, .int (nI rt), .int ex, .int ad, .ref (x + 3), .ref (x + 4), .int v_18, .long v_19, .ref (x + 5), .int (nI fl), .int v_20, .long ob, .long sa, .long v_21, .long us, .ref (x + 6), .ref (x + 7), .int (nI pe), .ref (x + 8), .int (nI le), .ref (x + 9), .ref (x + 10), .int (nI qu), .ref (x + 11), .ref (x + 12), .ref (x + 13), .ref (x + 14), .ref (x + 15), .ref (x + 16), .int (nI n_11), .long v_22, .ref (x + 17), .ref (x + 18), .ref (x + 19), .ref (x + 20), .ref (x + 21), .ref (x + 22), .int (nI n_12), .ref (x + 23), .ref (x + 24), .int (nI tk), .ref (x + 25), .int (nI il), .int (nI n_7), .int ec, .int ep, .int v_13, .int (nI n_8), .int (nI w_1), .long v_16]) := h_6
    have h_8 : Φ2 (x + 25) = some (ab_ G 700 fB) := ((hF2 (x + 25) fq_1172).trans h_5)
    refine z_callV (As := []) (rest := []) B (r_readEnd G l Φ2 sz x (NNc t (upd c w (nI w_1))) nw cr tp tt fl pe le n_7 il qu v_13 ec (nI w_1) v_16 n_8 ep ti ad ob ra rt ex sa us tk th fB n_3 hx hI2 h_8 hT1 (show n_3 ≤ il by omega) (show il ≤ 700 by omega) hnw) (cwV 0 B.1.2.2.2.2 gX12_readSetting_X12_readEnd rfl rfl rfl (by decide +kernel) ⟨Nat.le_of_ble_eq_true rfl, Nat.le_of_ble_eq_true rfl⟩) h_7 rfl rfl rfl rfl (Nat.le_of_ble_eq_true rfl) dX12_readSetting_15 ⟨Nat.le_of_ble_eq_true rfl, Nat.le_of_ble_eq_true rfl⟩ (fun r_3 Φ3 sz3 st3 hp3 hs3 => ?_)
    obtain ⟨-, hq3, ⟨n_13, v_23, v_24, v_25, v_26, n_14, v_27, b_57, hI3⟩, hF3⟩ := hp3
    subst sz3
    replace hI3 : Im G x ((NNc t (upd c w (nI w_1))), nw, cr, tp, tt, fl, pe, le, n_13, il, qu, v_23, v_24, v_25, v_26, n_14, v_27, ti, ad, ob, ra, rt, ex, sa, us, tk, th) Φ3 := hI3
    replace b_57 : (r_3 = some (.int 1) ∧ semi (bA fB il) n_3 = (0, n_7) ∧ ec = v_24 ∧ ep = v_27 ∧ (nI w_1) = v_25 ∧ TkR (bA fB il) n_7 v_23 n_14 n_13 v_26) ∨ (r_3 = some (.int 0) ∧ semi (bA fB il) n_3 = (1, n_8) ∧ v_24 = 1 ∧ v_27 = nI n_8) := b_57
    rcases b_57 with ⟨rfl, hN3, rfl, rfl, rfl, hT2⟩ | ⟨rfl, hN4, rfl, rfl⟩
    · replace hT2 : TkR (bA fB il) n_7 v_23 n_14 n_13 v_26 := hT2
      obtain ⟨b_58, b_59, b_60, b_61⟩ := TkR_b hT2 (by omega)
      replace hs3 : st3 = [.int 1] := hs3
      subst st3
      replace hN3 : semi (bA fB il) n_3 = (0, n_7) := hN3
      have b_62 := semi_lt hT1 (by omega) hN3
      refine z_if_eq (tgt := 25) B dX12_readSetting_18 rfl (fun h9 => absurd h9 (by decide)) (fun c_2 => ?_)
      refine z_iconst (v := 1) B dX12_readSetting_21 rfl ?_
      refine z_goto (tgt := 26) B dX12_readSetting_22 rfl ?_
      have hN5 := hN1
      rw [hlo, hhi] at hN5
      exact z_ret_z B dX12_readSetting_26 (by decide) ⟨(Or.inr rfl), rfl, ⟨n_13, v_23, ec, nI w_1, v_26, n_14, ep, t, upd c w (nI w_1), (Or.inl ⟨n_7, rfl, (congrArg (endA (bA fB il)) (setA_0 hN5)).trans (endA_0 hN3), rfl, rfl, (upd_ne (by omega)).trans hct, by omega, by omega, by omega, hT2⟩), hI3⟩, (fun b9 h9 => ((hF3 b9 (fun j9 h8 h7 => h9 j9 h8 (fq_1171 j9 h7))).trans ((hF2 b9 h9).trans ((hF1 b9 (fun j9 h8 h7 => h9 j9 h8 (fq_1171 j9 h7))).trans rfl))))⟩
    · replace hs3 : st3 = [.int 0] := hs3
      subst st3
      replace hN4 : semi (bA fB il) n_3 = (1, n_8) := hN4
      refine z_if_eq (tgt := 25) B dX12_readSetting_18 rfl (fun c_3 => ?_) (fun h9 => absurd (by decide) h9)
      refine z_iconst (v := 0) B dX12_readSetting_25 rfl ?_
      have hN6 := hN1
      rw [hlo, hhi] at hN6
      exact z_ret_z B dX12_readSetting_26 (by decide) ⟨(Or.inl rfl), rfl, ⟨n_13, v_23, 1, v_25, v_26, n_14, nI n_8, t, upd c w (nI w_1), (Or.inr ⟨1, n_8, upd c w (nI w_1), rfl, (congrArg (endA (bA fB il)) (setA_0 hN6)).trans (endA_0 hN4), ⟨by omega, by omega⟩, rfl, rfl⟩), hI3⟩, (fun b9 h9 => ((hF3 b9 (fun j9 h8 h7 => h9 j9 h8 (fq_1171 j9 h7))).trans ((hF2 b9 h9).trans ((hF1 b9 (fun j9 h8 h7 => h9 j9 h8 (fq_1171 j9 h7))).trans rfl))))⟩
  · replace hs2 : st2 = [.int 0] := hs2
    subst st2
    replace hN2 : numAt (bA fB il) nx (a : Int) (b : Int32).toInt = (er_1, n_4, 0) := hN2
    replace he1 : ¬ er_1 = 0 ∧ er_1 ≤ 4 := he1
    refine z_if_eq (tgt := 25) B dX12_readSetting_11 rfl (fun c_4 => ?_) (fun h9 => absurd (by decide) h9)
    refine z_iconst (v := 0) B dX12_readSetting_25 rfl ?_
    have hN7 := hN2
    rw [hlo, hhi] at hN7
    exact z_ret_z B dX12_readSetting_26 (by decide) ⟨(Or.inl rfl), rfl, ⟨n_7, v_13, nI er_1, v_15, v_16, n_8, nI n_4, n_9, n_10, (Or.inr ⟨er_1, n_4, c, rfl, (congrArg (endA (bA fB il)) (setA_e hN7 he1.1)).trans (endA_e he1.1), ⟨by omega, by omega⟩, rfl, rfl⟩), hI2⟩, (fun b9 h9 => ((hF2 b9 h9).trans ((hF1 b9 (fun j9 h8 h7 => h9 j9 h8 (fq_1171 j9 h7))).trans rfl)))⟩

theorem hu_X12_readDrop_X12 : ∀ w ∈ u_ws RX12 TX12 54, w ∈ wsX12_readDrop := fun _ h => List.mem_cons_of_mem _ (List.mem_append_left _ (List.mem_append_right _ (h)))

theorem hv_X12_readDrop_13 : Cond.fieldLink RX12 13 "FlowExporterModel" (TX12 1).2.1 (TX12 1).2.2.1 ∈ wsX12_readDrop := List.mem_cons_of_mem _ (List.mem_append_left _ (List.mem_append_left _ (List.mem_append_left _ (List.mem_of_getElem? (i := 0) rfl))))
